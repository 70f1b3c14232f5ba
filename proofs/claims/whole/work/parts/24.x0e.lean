def rmJ7_fill_53178 : Room := { frames := 0, cells := 0, slots := 0, locals := 0 }
set_option maxHeartbeats 4000000 in
set_option maxRecDepth 100000 in
theorem kJ7_fill_53178 (l : Launch) (D : va_G) (cI : ClassId) (a n : Nat) (f : Nat → Int32) (x : Int32) (hn : n < 2 ^ 31) : MU l yJ7_fill_53178 wsJ7_fill_53178 rmJ7_fill_53178 [.ref a, .int x] D [(cI, .int)] [(a, .inl (cI, n, .inl f))] [(a, .inl (cI, n, .inl (fun _ => x)))] none := by
  refine mu_ofWv (cc := cJ7_fill_53178) (maxL := 4) (by decide) rfl (Nat.le_of_ble_eq_true rfl) ?_
  intro p e s m below meth c args Q G H locs hx hb hml hown hts hP hK hD hS hQ ls hl
  have hown : s.vm.findClass RJ7 = some m.cls := hown
  have hl : lv_has ls 4 [(0, .ref a), (1, .int x)] := hl
  refine lv_iconst (v := nI 0) hx hb dJ7_fill_53178_0 (by decide) ?_
  refine lv_istore_n (lv' := [(2, .int (nI 0)), (0, .ref a), (1, .int x)]) hx hb dJ7_fill_53178_1 rfl hl (by decide) rfl (fun ls hl => ?_)
  refine lv_aload_n hx hb dJ7_fill_53178_2 rfl (lv_at hl 1 rfl) ?_
  refine va_alen hx hb hK hP 0 0 rfl rfl (v := nI (n)) rfl dJ7_fill_53178_3 ?_
  refine lv_istore_n (lv' := [(3, .int (nI n)), (2, .int (nI 0)), (0, .ref a), (1, .int x)]) hx hb dJ7_fill_53178_4 rfl hl (by decide) rfl (fun ls hl => ?_)
  have lp5 : ∀ (n5 i : Nat), i + n5 = n → ∀ (H : Heap) (locs : List Loc), va_P D vwCl (fw a cI n f x i) H → va_S G s.heap H locs → ∀ (ls : Array Slot), lv_has ls 4 [(0, .ref a), (1, .int x), (2, .int (nI i)), (3, .int (nI n))] → W p l e rmJ7_fill_53178 s m args below meth c H locs 0 0 Q (F0 m 5 ls []) := by
    intro n5
    induction n5 with
    | zero =>
      intro i hi5 H locs hP hS ls hl
      obtain rfl : n = i := by omega
      have hD : va_D G (fw a cI n f x n) := va_D.to hD rfl
      refine lv_iload_n hx hb dJ7_fill_53178_5 rfl (lv_at hl 2 rfl) ?_
      refine lv_iload_n hx hb dJ7_fill_53178_6 rfl (lv_at hl 3 rfl) ?_
      refine n_icmp_ge (tgt := 20) hx hb (by omega) (by omega) dJ7_fill_53178_7 (by decide) (fun c_7 => ?_) (fun c_7 => by exfalso; omega)
      exact hQ dJ7_fill_53178_20 (fw_n hP) hS
    | succ n5 ih5 =>
      intro i hi5 H locs hP hS ls hl
      have hD : va_D G (fw a cI n f x i) := va_D.to hD rfl
      refine lv_iload_n hx hb dJ7_fill_53178_5 rfl (lv_at hl 2 rfl) ?_
      refine lv_iload_n hx hb dJ7_fill_53178_6 rfl (lv_at hl 3 rfl) ?_
      refine n_icmp_ge (tgt := 20) hx hb (by omega) (by omega) dJ7_fill_53178_7 (by decide) (fun c_7 => by exfalso; omega) (fun c_7 => ?_)
      refine lv_aload_n hx hb dJ7_fill_53178_10 rfl (lv_at hl 0 rfl) ?_
      refine lv_iload_n hx hb dJ7_fill_53178_11 rfl (lv_at hl 2 rfl) ?_
      refine lv_iload_n hx hb dJ7_fill_53178_12 rfl (lv_at hl 1 rfl) ?_
      refine n_iast hx hb hK hP hD hS 0 0 rfl rfl (by omega) hn dJ7_fill_53178_13 (fun H locs hP hD hS => ?_)
      have hP : va_P D vwCl (fw a cI n f x (i + 1)) H := by have z := hP; unfold fw at z ⊢; rw [← fw_s]; exact z
      have hD : va_D G (fw a cI n f x (i + 1)) := va_D.to hD rfl
      refine lv_iinc (v := nI (i + 1)) (lv' := [(2, .int (nI (i + 1))), (0, .ref a), (1, .int x), (3, .int (nI n))]) hx hb dJ7_fill_53178_14 hl (k := 2) rfl (nI_inc _) (by decide) rfl (fun ls hl => ?_)
      refine lv_goto (tgt := 5) hx hb dJ7_fill_53178_17 (by decide) ?_
      exact ih5 (i + 1) (by omega) H locs (hP) hS ls (lv_sub hl [1, 2, 0, 3] rfl)
  exact lp5 (n) (0) (by omega) H locs (fw_0 hP) hS ls (lv_sub hl [2, 3, 1, 0] rfl)
def rmX0_layBoard : Room := { frames := 1, cells := 0, slots := 0, locals := 23 }
set_option maxHeartbeats 4000000 in
set_option maxRecDepth 100000 in
/-- layBoard -/
theorem kX0_layBoard (l : Launch) (D : va_G) (h : Nat → Nat) (cI : ClassId) (A : St) (f t k : Nat) : MU l yX0_layBoard wsX0_layBoard rmX0_layBoard [.ref (h 0), .int (nI f), .int (nI t), .int (nI k)] D [(cI, .int)] (xw h cI A) (xw h cI (fresh A f t k)) none := by
  refine mu_ofWv (cc := cX0_layBoard) (maxL := 4) (by decide) rfl (Nat.le_of_ble_eq_true rfl) ?_
  intro p e s m below meth c args Q G H locs hx hb hml hown hts hP hK hD hS hQ ls hl
  have hown : s.vm.findClass RX0 = some m.cls := hown
  have hin0 : ∀ w ∈ u_ws RX0 TX0 12, w ∈ wsX0_layBoard := fun _ h => List.mem_cons_of_mem _ (List.mem_append_right _ h)
  have hl : lv_has ls 4 [(0, .ref (h 0)), (1, .int (nI f)), (2, .int (nI t)), (3, .int (nI k))] := hl
  refine lv_aload_n hx hb dX0_layBoard_0 rfl (lv_at hl 0 rfl) ?_
  refine lv_iload_n hx hb dX0_layBoard_1 rfl (lv_at hl 1 rfl) ?_
  refine va_put (D := D) (ci := 0) (v := .int (nI f)) (ty := .int) (C := RX0) (T := TX0) (N := 12) hx hb hts hin0 tyX0 tyX0_ok nmX0 hown hK hP hD hS 0 rfl rfl 0 (by decide) (hts (.fieldLink RX0 86 "VoiceParts" "tones" "I") (by decide +kernel)) (fun _ h9 => h9) rfl (by decide +kernel) rfl rfl (Nat.le_of_ble_eq_true rfl) dX0_layBoard_2 (fun H locs hP hD hS => ?_)
  obtain ⟨A1, eA1⟩ : ∃ z : St, z = uF A (f) := ⟨_, rfl⟩
  have hP : va_P D vwCl (xw h cI A1) H := by rw [eA1]; exact hP
  have hD : va_D G (xw h cI A1) := va_D.to hD rfl
  refine lv_aload_n hx hb dX0_layBoard_5 rfl (lv_at hl 0 rfl) ?_
  refine lv_iload_n hx hb dX0_layBoard_6 rfl (lv_at hl 2 rfl) ?_
  refine va_put (D := D) (ci := 0) (v := .int (nI t)) (ty := .int) (C := RX0) (T := TX0) (N := 12) hx hb hts hin0 tyX0 tyX0_ok nmX0 hown hK hP hD hS 0 rfl rfl 1 (by decide) (hts (.fieldLink RX0 107 "VoiceParts" "times" "I") (by decide +kernel)) (fun _ h9 => h9) rfl (by decide +kernel) rfl rfl (Nat.le_of_ble_eq_true rfl) dX0_layBoard_7 (fun H locs hP hD hS => ?_)
  obtain ⟨A2, eA2⟩ : ∃ z : St, z = uT A1 (t) := ⟨_, rfl⟩
  have hP : va_P D vwCl (xw h cI A2) H := by rw [eA2]; exact hP
  have hD : va_D G (xw h cI A2) := va_D.to hD rfl
  refine lv_aload_n hx hb dX0_layBoard_10 rfl (lv_at hl 0 rfl) ?_
  refine lv_iload_n hx hb dX0_layBoard_11 rfl (lv_at hl 3 rfl) ?_
  refine va_put (D := D) (ci := 0) (v := .int (nI k)) (ty := .int) (C := RX0) (T := TX0) (N := 12) hx hb hts hin0 tyX0 tyX0_ok nmX0 hown hK hP hD hS 0 rfl rfl 2 (by decide) (hts (.fieldLink RX0 137 "VoiceParts" "voices" "I") (by decide +kernel)) (fun _ h9 => h9) rfl (by decide +kernel) rfl rfl (Nat.le_of_ble_eq_true rfl) dX0_layBoard_12 (fun H locs hP hD hS => ?_)
  obtain ⟨A3, eA3⟩ : ∃ z : St, z = uK A2 (k) := ⟨_, rfl⟩
  have hP : va_P D vwCl (xw h cI A3) H := by rw [eA3]; exact hP
  have hD : va_D G (xw h cI A3) := va_D.to hD rfl
  refine lv_aload_n hx hb dX0_layBoard_15 rfl (lv_at hl 0 rfl) ?_
  refine va_get (D := D) (ci := 0) (v := .ref (h 1)) (C := RX0) (T := TX0) (N := 12) hx hb hts hin0 hown hK hP 0 rfl rfl 3 (by decide) (hts (.fieldLink RX0 9 "VoiceParts" "boardNumbers" "[I") (by decide +kernel)) (fun _ h9 => h9) rfl dX0_layBoard_16 ?_
  refine lv_iconst (v := nI 0) hx hb dX0_layBoard_19 (by decide) ?_
  refine mu_callS (As := [.ref (h 1), .int (nI 0)]) (rest := []) ⟨hx, hb, hml, hown, hts⟩ (kJ7_fill_53178 l D cI (h 1) 48 (sB A3) (nI 0) (by decide)) (va_cwS 2 hts gX0_layBoard_J7_fill_53178 rfl rfl rfl (by decide +kernel) ⟨Nat.le_of_ble_eq_true rfl, Nat.le_of_ble_eq_true rfl⟩) (hP.sub [1] rfl) hK (hD.sub [1] (by decide) rfl) hS rfl hl.1 rfl (Nat.le_of_ble_eq_true rfl) dX0_layBoard_20 ⟨Nat.zero_le _, Nat.zero_le _⟩ (fun H locs hP1 hS hk1 => ?_)
  have hP := va_P.put1 hP hD (p := 1) rfl (hP1 0 _ rfl) hk1
  obtain ⟨A4, eA4⟩ : ∃ z : St, z = uB A3 (fun _ => nI 0) := ⟨_, rfl⟩
  have hP : va_P D vwCl (xw h cI A4) H := by rw [eA4]; exact hP
  have hD : va_D G (xw h cI A4) := va_D.to hD rfl
  refine W.eq (g2 := F0 m 23 ls []) rfl ?_
  refine lv_aload_n hx hb dX0_layBoard_23 rfl (lv_at hl 0 rfl) ?_
  refine va_get (D := D) (ci := 0) (v := .ref (h 2)) (C := RX0) (T := TX0) (N := 12) hx hb hts hin0 hown hK hP 0 rfl rfl 4 (by decide) (hts (.fieldLink RX0 13 "VoiceParts" "voiceNumbers" "[I") (by decide +kernel)) (fun _ h9 => h9) rfl dX0_layBoard_24 ?_
  refine lv_iconst (v := nI 1) hx hb dX0_layBoard_27 (by decide) ?_
  refine mu_callS (As := [.ref (h 2), .int (nI 1)]) (rest := []) ⟨hx, hb, hml, hown, hts⟩ (kJ7_fill_53178 l D cI (h 2) 42 (fun j => sV A4 (j / 14) (j % 14)) (nI 1) (by decide)) (va_cwS 2 hts gX0_layBoard_J7_fill_53178 rfl rfl rfl (by decide +kernel) ⟨Nat.le_of_ble_eq_true rfl, Nat.le_of_ble_eq_true rfl⟩) (hP.sub [2] rfl) hK (hD.sub [2] (by decide) rfl) hS rfl hl.1 rfl (Nat.le_of_ble_eq_true rfl) dX0_layBoard_28 ⟨Nat.zero_le _, Nat.zero_le _⟩ (fun H locs hP1 hS hk1 => ?_)
  have hP := va_P.put1 hP hD (p := 2) rfl (hP1 0 _ rfl) hk1
  obtain ⟨A5, eA5⟩ : ∃ z : St, z = uV A4 (fun _ _ => nI 1) := ⟨_, rfl⟩
  have hP : va_P D vwCl (xw h cI A5) H := by rw [eA5]; exact hP
  have hD : va_D G (xw h cI A5) := va_D.to hD rfl
  refine W.eq (g2 := F0 m 31 ls []) rfl ?_
  refine lv_aload_n hx hb dX0_layBoard_31 rfl (lv_at hl 0 rfl) ?_
  refine va_get (D := D) (ci := 0) (v := .ref (h 3)) (C := RX0) (T := TX0) (N := 12) hx hb hts hin0 hown hK hP 0 rfl rfl 6 (by decide) (hts (.fieldLink RX0 16 "VoiceParts" "truthNumbers" "[I") (by decide +kernel)) (fun _ h9 => h9) rfl dX0_layBoard_32 ?_
  refine lv_iconst (v := nI 0) hx hb dX0_layBoard_35 (by decide) ?_
  refine mu_callS (As := [.ref (h 3), .int (nI 0)]) (rest := []) ⟨hx, hb, hml, hown, hts⟩ (kJ7_fill_53178 l D cI (h 3) 144 (sE A5) (nI 0) (by decide)) (va_cwS 2 hts gX0_layBoard_J7_fill_53178 rfl rfl rfl (by decide +kernel) ⟨Nat.le_of_ble_eq_true rfl, Nat.le_of_ble_eq_true rfl⟩) (hP.sub [3] rfl) hK (hD.sub [3] (by decide) rfl) hS rfl hl.1 rfl (Nat.le_of_ble_eq_true rfl) dX0_layBoard_36 ⟨Nat.zero_le _, Nat.zero_le _⟩ (fun H locs hP1 hS hk1 => ?_)
  have hP := va_P.put1 hP hD (p := 3) rfl (hP1 0 _ rfl) hk1
  obtain ⟨A6, eA6⟩ : ∃ z : St, z = uE A5 (fun _ => nI 0) := ⟨_, rfl⟩
  have hP : va_P D vwCl (xw h cI A6) H := by rw [eA6]; exact hP
  have hD : va_D G (xw h cI A6) := va_D.to hD rfl
  refine W.eq (g2 := F0 m 39 ls []) rfl ?_
  refine lv_aload_n hx hb dX0_layBoard_39 rfl (lv_at hl 0 rfl) ?_
  refine lv_lconst (v := (0)) hx hb dX0_layBoard_40 (by decide) ?_
  refine n_topl (y := bbOf (fun _ _ => false)) (by decide) ?_
  refine va_put (D := D) (ci := 0) (v := .long (bbOf (fun _ _ => false))) (ty := .long) (C := RX0) (T := TX0) (N := 12) hx hb hts hin0 tyX0 tyX0_ok nmX0 hown hK hP hD hS 0 rfl rfl 5 (by decide) (hts (.fieldLink RX0 69 "VoiceParts" "barred" "J") (by decide +kernel)) (fun _ h9 => h9) rfl (by decide +kernel) rfl rfl (Nat.le_of_ble_eq_true rfl) dX0_layBoard_41 (fun H locs hP hD hS => ?_)
  obtain ⟨A7, eA7⟩ : ∃ z : St, z = uX A6 ((fun _ _ => false)) := ⟨_, rfl⟩
  have hP : va_P D vwCl (xw h cI A7) H := by rw [eA7]; exact hP
  have hD : va_D G (xw h cI A7) := va_D.to hD rfl
  exact hQ dX0_layBoard_44 (by rw [eA7, eA6, eA5, eA4, eA3, eA2, eA1] at hP; exact hP) hS
def rmX0_board : Room := { frames := 2, cells := 0, slots := 0, locals := 46 }
set_option maxHeartbeats 4000000 in
set_option maxRecDepth 100000 in
/-- board -/
theorem kX0_board (l : Launch) (D : va_G) (h : Nat → Nat) (cI : ClassId) (A : St) (hI : Inv A) (x y z : Int32) : MU l yX0_board wsX0_board rmX0_board [.ref (h 0), .int x, .int y, .int z] D [(cI, .int)] (xw h cI A) (xw h cI (nBd A x y z)) (some (.int (aBd x y z))) := by
  refine mu_ofW (cc := cX0_board) (maxL := 4) (by decide) rfl (Nat.le_of_ble_eq_true rfl) ?_
  intro p e s m below meth c args Q G H locs hx hb hml hown hts hP hK hD hS hQ ls hl
  have hown : s.vm.findClass RX0 = some m.cls := hown
  have hin0 : ∀ w ∈ u_ws RX0 TX0 12, w ∈ wsX0_board := fun _ h => List.mem_cons_of_mem _ (List.mem_append_right _ h)
  have hl : lv_has ls 4 [(0, .ref (h 0)), (1, .int x), (2, .int y), (3, .int z)] := hl
  have hF := hI.F
  have hT := hI.T
  have hK3 := hI.K
  have hJ := hI.J
  have hZ := hI.Z
  refine lv_iload_n hx hb dX0_board_0 rfl (lv_at hl 1 rfl) ?_
  refine lv_iconst (v := nI 1) hx hb dX0_board_1 (by decide) ?_
  refine lv_bipush (v := nI 6) hx hb dX0_board_2 (by decide) ?_
  refine ro_callS (As := [.int x, .int (nI 1), .int (nI 6)]) (rest := []) ⟨hx, hb, hml, hown, hts⟩ (kX0_within l (x) (nI 1) (nI 6)) (va_cwS 3 hts gX0_board_X0_within rfl rfl rfl (by decide +kernel) ⟨Nat.le_of_ble_eq_true rfl, Nat.le_of_ble_eq_true rfl⟩) vT_bl vT_at rfl hl.1 rfl (Nat.le_of_ble_eq_true rfl) dX0_board_4 ⟨Nat.zero_le _, Nat.zero_le _⟩ ?_
  refine b_if_eq (tgt := 29) hx hb dX0_board_7 (by decide) (fun c_7 => ?_) (fun c_7 => ?_)
  · refine lv_iconst (v := (-1)) hx hb dX0_board_29 (by decide) ?_
    exact hQ dX0_board_30 (by unfold aBd; rw [if_neg (fun q => c_7 q.1)]) (by unfold nBd; rw [if_neg (fun q => c_7 q.1)]; exact hP) hS
  · refine lv_iload_n hx hb dX0_board_10 rfl (lv_at hl 2 rfl) ?_
    refine lv_iconst (v := nI 1) hx hb dX0_board_11 (by decide) ?_
    refine lv_bipush (v := nI 8) hx hb dX0_board_12 (by decide) ?_
    refine ro_callS (As := [.int y, .int (nI 1), .int (nI 8)]) (rest := []) ⟨hx, hb, hml, hown, hts⟩ (kX0_within l (y) (nI 1) (nI 8)) (va_cwS 3 hts gX0_board_X0_within rfl rfl rfl (by decide +kernel) ⟨Nat.le_of_ble_eq_true rfl, Nat.le_of_ble_eq_true rfl⟩) vT_bl vT_at rfl hl.1 rfl (Nat.le_of_ble_eq_true rfl) dX0_board_14 ⟨Nat.zero_le _, Nat.zero_le _⟩ ?_
    refine b_if_eq (tgt := 29) hx hb dX0_board_17 (by decide) (fun c_17 => ?_) (fun c_17 => ?_)
    · refine lv_iconst (v := (-1)) hx hb dX0_board_29 (by decide) ?_
      exact hQ dX0_board_30 (by unfold aBd; rw [if_neg (fun q => c_17 q.2.1)]) (by unfold nBd; rw [if_neg (fun q => c_17 q.2.1)]; exact hP) hS
    · refine lv_iload_n hx hb dX0_board_20 rfl (lv_at hl 3 rfl) ?_
      refine lv_iconst (v := nI 1) hx hb dX0_board_21 (by decide) ?_
      refine lv_iconst (v := nI 3) hx hb dX0_board_22 (by decide) ?_
      refine ro_callS (As := [.int z, .int (nI 1), .int (nI 3)]) (rest := []) ⟨hx, hb, hml, hown, hts⟩ (kX0_within l (z) (nI 1) (nI 3)) (va_cwS 3 hts gX0_board_X0_within rfl rfl rfl (by decide +kernel) ⟨Nat.le_of_ble_eq_true rfl, Nat.le_of_ble_eq_true rfl⟩) vT_bl vT_at rfl hl.1 rfl (Nat.le_of_ble_eq_true rfl) dX0_board_23 ⟨Nat.zero_le _, Nat.zero_le _⟩ ?_
      refine b_if_ne (tgt := 31) hx hb dX0_board_26 (by decide) (fun c_26 => ?_) (fun c_26 => ?_)
      · obtain ⟨f, hf, rfl⟩ := q1_of c_7 (by decide)
        obtain ⟨t, ht, rfl⟩ := q1_of c_17 (by decide)
        obtain ⟨k, hk, rfl⟩ := q1_of c_26 (by decide)
        refine lv_aload_n hx hb dX0_board_31 rfl (lv_at hl 0 rfl) ?_
        refine lv_iload_n hx hb dX0_board_32 rfl (lv_at hl 1 rfl) ?_
        refine lv_iload_n hx hb dX0_board_33 rfl (lv_at hl 2 rfl) ?_
        refine lv_iload_n hx hb dX0_board_34 rfl (lv_at hl 3 rfl) ?_
        refine mu_callV (As := [.int (nI f), .int (nI t), .int (nI k)]) (rest := []) ⟨hx, hb, hml, hown, hts⟩ (kX0_layBoard l D h cI A (f) (t) (k)) (cwV 3 hts gX0_board_X0_layBoard rfl rfl rfl (by decide +kernel) ⟨Nat.le_of_ble_eq_true rfl, Nat.le_of_ble_eq_true rfl⟩) hP hK hD hS (va_recv hK hP (ci := 0) (q0 := 0) rfl rfl) rfl hl.1 rfl (Nat.le_of_ble_eq_true rfl) dX0_board_35 ⟨Nat.zero_le _, Nat.zero_le _⟩ (fun H locs hP hS _ => ?_)
        have hD : va_D G (xw h cI (fresh A (f) (t) (k))) := va_D.to hD rfl
        refine W.eq (g2 := F0 m 38 ls []) rfl ?_
        refine lv_iload_n hx hb dX0_board_38 rfl (lv_at hl 1 rfl) ?_
        refine lv_iload_n hx hb dX0_board_39 rfl (lv_at hl 2 rfl) ?_
        refine n_imul hx hb dX0_board_40 ?_
        exact hQ dX0_board_41 (by unfold aBd; rw [if_pos ⟨c_7, c_17, c_26⟩, cl_nI (n := f) (by omega), cl_nI (n := t) (by omega)]) (by unfold nBd; rw [if_pos ⟨c_7, c_17, c_26⟩, cl_nI (n := f) (by omega), cl_nI (n := t) (by omega), cl_nI (n := k) (by omega)]; exact hP) hS
      · refine lv_iconst (v := (-1)) hx hb dX0_board_29 (by decide) ?_
        exact hQ dX0_board_30 (by unfold aBd; rw [if_neg (fun q => c_26 q.2.2)]) (by unfold nBd; rw [if_neg (fun q => c_26 q.2.2)]; exact hP) hS
def rmX0_stepNumber : Room := { frames := 4, cells := 0, slots := 0, locals := 95 }
set_option maxHeartbeats 4000000 in
set_option maxRecDepth 100000 in
/-- stepNumber -/
theorem kX0_stepNumber (l : Launch) (D : va_G) (h : Nat → Nat) (cI : ClassId) (A : St) (hI : Inv A) (k o i : Nat) (hk : k < 3) (ho : o < 2) (hi : i < if o = 0 then 6 else 8) : MU l yX0_stepNumber wsX0_stepNumber rmX0_stepNumber [.ref (h 0), .int (nI k), .int (nI o), .int (nI i)] D [(cI, .int)] (xw h cI A) (xw h cI (cst A k o i)) none := by
  refine mu_ofWv (cc := cX0_stepNumber) (maxL := 10) (by decide) rfl (Nat.le_of_ble_eq_true rfl) ?_
  intro p e s m below meth c args Q G H locs hx hb hml hown hts hP hK hD hS hQ ls hl
  have hown : s.vm.findClass RX0 = some m.cls := hown
  have hin0 : ∀ w ∈ u_ws RX0 TX0 12, w ∈ wsX0_stepNumber := fun _ h => List.mem_cons_of_mem _ (List.mem_append_right _ h)
  have hl : lv_has ls 10 [(0, .ref (h 0)), (1, .int (nI k)), (2, .int (nI o)), (3, .int (nI i))] := hl
  have hF := hI.F
  have hT := hI.T
  have hK3 := hI.K
  have hJ := hI.J
  have hZ := hI.Z
  have hq : qi o i < 14 := qi_lt2 ho hi
  obtain ⟨a, ha, ea⟩ := V_nI hI k (qi o i)
  refine lv_iload_n hx hb dX0_stepNumber_0 rfl (lv_at hl 1 rfl) ?_
  refine lv_iload_n hx hb dX0_stepNumber_1 rfl (lv_at hl 2 rfl) ?_
  refine lv_iload_n hx hb dX0_stepNumber_2 rfl (lv_at hl 3 rfl) ?_
  refine ro_callS (As := [.int (nI k), .int (nI o), .int (nI i)]) (rest := []) ⟨hx, hb, hml, hown, hts⟩ (kX0_place l (k) (o) (i) (by omega)) (va_cwS 3 hts gX0_stepNumber_X0_place rfl rfl rfl (by decide +kernel) ⟨Nat.le_of_ble_eq_true rfl, Nat.le_of_ble_eq_true rfl⟩) vT_bl vT_at rfl hl.1 rfl (Nat.le_of_ble_eq_true rfl) dX0_stepNumber_3 ⟨Nat.zero_le _, Nat.zero_le _⟩ ?_
  refine lv_istore (lv' := [(4, .int (nI (k * 14 + qi o i))), (0, .ref (h 0)), (1, .int (nI k)), (2, .int (nI o)), (3, .int (nI i))]) hx hb dX0_stepNumber_6 hl (by decide) rfl (fun ls hl => ?_)
  refine lv_aload_n hx hb dX0_stepNumber_8 rfl (lv_at hl 1 rfl) ?_
  refine lv_iload hx hb dX0_stepNumber_9 (lv_at hl 0 rfl) ?_
  refine ro_callV (As := [.int (nI (k * 14 + qi o i))]) (rest := []) ⟨hx, hb, hml, hown, hts⟩ (kX0_isBarred l D h cI A (k) (qi o i) (hk) (hq)) (cwV 1 hts gX0_stepNumber_X0_isBarred rfl rfl rfl (by decide +kernel) ⟨Nat.le_of_ble_eq_true rfl, Nat.le_of_ble_eq_true rfl⟩) vB_bl (vB_at hP hK) (va_recv hK hP (ci := 0) (q0 := 0) rfl rfl) rfl hl.1 rfl (Nat.le_of_ble_eq_true rfl) dX0_stepNumber_11 ⟨Nat.zero_le _, Nat.zero_le _⟩ ?_
  refine b_if_eq (tgt := 18) hx hb dX0_stepNumber_14 (by decide) (fun c_14 => ?_) (fun c_14 => ?_)
  · refine lv_aload_n hx hb dX0_stepNumber_18 rfl (lv_at hl 1 rfl) ?_
    refine va_get (D := D) (ci := 0) (v := .ref (h 2)) (C := RX0) (T := TX0) (N := 12) hx hb hts hin0 hown hK hP 0 rfl rfl 4 (by decide) (hts (.fieldLink RX0 13 "VoiceParts" "voiceNumbers" "[I") (by decide +kernel)) (fun _ h9 => h9) rfl dX0_stepNumber_19 ?_
    refine lv_iload hx hb dX0_stepNumber_22 (lv_at hl 0 rfl) ?_
    refine n_iald hx hb hK hP 2 0 rfl rfl (by omega) (by decide) dX0_stepNumber_24 ?_
    refine n_top (y := nI a) ((xVat (f := sV A) hq rfl).trans ea) ?_
    refine lv_istore (lv' := [(5, .int (nI a)), (4, .int (nI (k * 14 + qi o i))), (0, .ref (h 0)), (1, .int (nI k)), (2, .int (nI o)), (3, .int (nI i))]) hx hb dX0_stepNumber_25 hl (by decide) rfl (fun ls hl => ?_)
    refine lv_iload hx hb dX0_stepNumber_27 (lv_at hl 0 rfl) ?_
    refine lv_istore (lv' := [(6, .int (nI a)), (5, .int (nI a)), (4, .int (nI (k * 14 + qi o i))), (0, .ref (h 0)), (1, .int (nI k)), (2, .int (nI o)), (3, .int (nI i))]) hx hb dX0_stepNumber_29 hl (by decide) rfl (fun ls hl => ?_)
    refine lv_aload_n hx hb dX0_stepNumber_31 rfl (lv_at hl 3 rfl) ?_
    refine lv_iload_n hx hb dX0_stepNumber_32 rfl (lv_at hl 5 rfl) ?_
    refine lv_iload_n hx hb dX0_stepNumber_33 rfl (lv_at hl 6 rfl) ?_
    refine ro_callV (As := [.int (nI o), .int (nI i)]) (rest := []) ⟨hx, hb, hml, hown, hts⟩ (kX0_missAlong l D h cI A hI (o) (i) (by omega) (hi)) (cwV 2 hts gX0_stepNumber_X0_missAlong rfl rfl rfl (by decide +kernel) ⟨Nat.le_of_ble_eq_true rfl, Nat.le_of_ble_eq_true rfl⟩) vB_bl (vB_at hP hK) (va_recv hK hP (ci := 0) (q0 := 0) rfl rfl) rfl hl.1 rfl (Nat.le_of_ble_eq_true rfl) dX0_stepNumber_34 ⟨Nat.zero_le _, Nat.zero_le _⟩ ?_
    refine lv_istore (lv' := [(7, .int (fal A o i)), (6, .int (nI a)), (5, .int (nI a)), (4, .int (nI (k * 14 + qi o i))), (0, .ref (h 0)), (1, .int (nI k)), (2, .int (nI o)), (3, .int (nI i))]) hx hb dX0_stepNumber_37 hl (by decide) rfl (fun ls hl => ?_)
    refine lv_iload hx hb dX0_stepNumber_39 (lv_at hl 2 rfl) ?_
    refine lv_iconst (v := nI 1) hx hb dX0_stepNumber_41 (by decide) ?_
    refine lv_isub hx hb dX0_stepNumber_42 ?_
    refine lv_istore (lv' := [(8, .int ((nI a) - (nI 1))), (7, .int (fal A o i)), (6, .int (nI a)), (5, .int (nI a)), (4, .int (nI (k * 14 + qi o i))), (0, .ref (h 0)), (1, .int (nI k)), (2, .int (nI o)), (3, .int (nI i))]) hx hb dX0_stepNumber_43 hl (by decide) rfl (fun ls hl => ?_)
    refine lv_iload hx hb dX0_stepNumber_45 (lv_at hl 0 rfl) ?_
    refine lv_iload hx hb dX0_stepNumber_47 (lv_at hl 3 rfl) ?_
    refine lv_iconst (v := nI 1) hx hb dX0_stepNumber_49 (by decide) ?_
    refine n_iadd hx hb dX0_stepNumber_50 ?_
    refine lv_icmp_gt (tgt := 103) hx hb dX0_stepNumber_51 (by decide) (fun c_51 => absurd c_51 (st_a a (by omega))) (fun c_51 => ?_)
    refine lv_iload hx hb dX0_stepNumber_54 (lv_at hl 0 rfl) ?_
    refine lv_iconst (v := nI 0) hx hb dX0_stepNumber_56 (by decide) ?_
    refine lv_bipush (v := nI 20) hx hb dX0_stepNumber_57 (by decide) ?_
    refine ro_callS (As := [.int ((nI a) - (nI 1)), .int (nI 0), .int (nI 20)]) (rest := []) ⟨hx, hb, hml, hown, hts⟩ (kX0_within l ((nI a) - (nI 1)) (nI 0) (nI 20)) (va_cwS 3 hts gX0_stepNumber_X0_within rfl rfl rfl (by decide +kernel) ⟨Nat.le_of_ble_eq_true rfl, Nat.le_of_ble_eq_true rfl⟩) vT_bl vT_at rfl hl.1 rfl (Nat.le_of_ble_eq_true rfl) dX0_stepNumber_59 ⟨Nat.zero_le _, Nat.zero_le _⟩ ?_
    refine b_if_eq (tgt := 97) hx hb dX0_stepNumber_62 (by decide) (fun c_62a => ?_) (fun c_62a => ?_)
    · refine lv_iinc (v := nI (a + 1)) (lv' := [(8, .int (nI (a + 1))), (7, .int (fal A o i)), (6, .int (nI a)), (5, .int (nI a)), (4, .int (nI (k * 14 + qi o i))), (0, .ref (h 0)), (1, .int (nI k)), (2, .int (nI o)), (3, .int (nI i))]) hx hb dX0_stepNumber_97 hl (k := 0) rfl (st_d a) (by decide) rfl (fun ls hl => ?_)
      refine lv_goto (tgt := 45) hx hb dX0_stepNumber_100 (by decide) ?_
      refine lv_iload hx hb dX0_stepNumber_45 (lv_at hl 0 rfl) ?_
      refine lv_iload hx hb dX0_stepNumber_47 (lv_at hl 3 rfl) ?_
      refine lv_iconst (v := nI 1) hx hb dX0_stepNumber_49 (by decide) ?_
      refine n_iadd hx hb dX0_stepNumber_50 ?_
      refine n_icmp_gt (tgt := 103) hx hb (by omega) (by omega) dX0_stepNumber_51 (by decide) (fun c_51 => by exfalso; omega) (fun c_51 => ?_)
      refine lv_iload hx hb dX0_stepNumber_54 (lv_at hl 0 rfl) ?_
      refine lv_iconst (v := nI 0) hx hb dX0_stepNumber_56 (by decide) ?_
      refine lv_bipush (v := nI 20) hx hb dX0_stepNumber_57 (by decide) ?_
      refine ro_callS (As := [.int (nI (a + 1)), .int (nI 0), .int (nI 20)]) (rest := []) ⟨hx, hb, hml, hown, hts⟩ (kX0_within l (nI (a + 1)) (nI 0) (nI 20)) (va_cwS 3 hts gX0_stepNumber_X0_within rfl rfl rfl (by decide +kernel) ⟨Nat.le_of_ble_eq_true rfl, Nat.le_of_ble_eq_true rfl⟩) vT_bl vT_at rfl hl.1 rfl (Nat.le_of_ble_eq_true rfl) dX0_stepNumber_59 ⟨Nat.zero_le _, Nat.zero_le _⟩ ?_
      refine b_if_eq (tgt := 97) hx hb dX0_stepNumber_62 (by decide) (fun c_62b => ?_) (fun c_62b => ?_)
      · refine lv_iinc (v := nI (a + 1 + 2)) (lv' := [(8, .int (nI (a + 1 + 2))), (7, .int (fal A o i)), (6, .int (nI a)), (5, .int (nI a)), (4, .int (nI (k * 14 + qi o i))), (0, .ref (h 0)), (1, .int (nI k)), (2, .int (nI o)), (3, .int (nI i))]) hx hb dX0_stepNumber_97 hl (k := 0) rfl (nI_add _ 2) (by decide) rfl (fun ls hl => ?_)
        refine lv_goto (tgt := 45) hx hb dX0_stepNumber_100 (by decide) ?_
        refine lv_iload hx hb dX0_stepNumber_45 (lv_at hl 0 rfl) ?_
        refine lv_iload hx hb dX0_stepNumber_47 (lv_at hl 3 rfl) ?_
        refine lv_iconst (v := nI 1) hx hb dX0_stepNumber_49 (by decide) ?_
        refine n_iadd hx hb dX0_stepNumber_50 ?_
        refine n_icmp_gt (tgt := 103) hx hb (by omega) (by omega) dX0_stepNumber_51 (by decide) (fun c_51 => ?_) (fun c_51 => by exfalso; omega)
        refine lv_aload_n hx hb dX0_stepNumber_103 rfl (lv_at hl 5 rfl) ?_
        refine va_get (D := D) (ci := 0) (v := .ref (h 2)) (C := RX0) (T := TX0) (N := 12) hx hb hts hin0 hown hK hP 0 rfl rfl 4 (by decide) (hts (.fieldLink RX0 13 "VoiceParts" "voiceNumbers" "[I") (by decide +kernel)) (fun _ h9 => h9) rfl dX0_stepNumber_104 ?_
        refine lv_iload hx hb dX0_stepNumber_107 (lv_at hl 4 rfl) ?_
        refine lv_iload hx hb dX0_stepNumber_109 (lv_at hl 2 rfl) ?_
        refine n_iast hx hb hK hP hD hS 2 0 rfl rfl (by omega) (by decide) dX0_stepNumber_111 (fun H locs hP hD hS => ?_)
        obtain ⟨A1, eA1⟩ : ∃ z : St, z = uV A (upV (sV A) k (qi o i) (nI a)) := ⟨_, rfl⟩
        have hP : va_P D vwCl (xw h cI A1) H := by rw [eA1]; have z := hP; rw [xVup (k := k) (i := qi o i) (hq)] at z; exact z
        have hD : va_D G (xw h cI A1) := va_D.to hD rfl
        have xA1 : A1 = tryV A k (qi o i) a := eA1
        exact hQ dX0_stepNumber_112 (by rw [cst_eq c_14 ea ha (bst_0 (ms := (fun x => fal (tryV A k (qi o i) x) o i)) (b := a) (if_neg (fun z => c_62a ((st_b a (by omega)).mpr z.1))) (fun z => c_62b ((st_c a (by omega)).mpr z.1))), ← xA1]; exact hP) hS
      · have ha2 : a + 1 ≤ 20 := (st_c a (by omega)).mp c_62b
        refine lv_aload_n hx hb dX0_stepNumber_65 rfl (lv_at hl 5 rfl) ?_
        refine va_get (D := D) (ci := 0) (v := .ref (h 2)) (C := RX0) (T := TX0) (N := 12) hx hb hts hin0 hown hK hP 0 rfl rfl 4 (by decide) (hts (.fieldLink RX0 13 "VoiceParts" "voiceNumbers" "[I") (by decide +kernel)) (fun _ h9 => h9) rfl dX0_stepNumber_66 ?_
        refine lv_iload hx hb dX0_stepNumber_69 (lv_at hl 4 rfl) ?_
        refine lv_iload hx hb dX0_stepNumber_71 (lv_at hl 0 rfl) ?_
        refine n_iast hx hb hK hP hD hS 2 0 rfl rfl (by omega) (by decide) dX0_stepNumber_73 (fun H locs hP hD hS => ?_)
        obtain ⟨A2, eA2⟩ : ∃ z : St, z = uV A (upV (sV A) k (qi o i) (nI (a + 1))) := ⟨_, rfl⟩
        have hP : va_P D vwCl (xw h cI A2) H := by rw [eA2]; have z := hP; rw [xVup (k := k) (i := qi o i) (hq)] at z; exact z
        have hD : va_D G (xw h cI A2) := va_D.to hD rfl
        have hIA2 : Inv A2 := by rw [eA2]; exact hI.uV (nI_20 (by omega))
        have xA2 : A2 = tryV A k (qi o i) (a + 1) := eA2
        refine lv_aload_n hx hb dX0_stepNumber_74 rfl (lv_at hl 5 rfl) ?_
        refine lv_iload_n hx hb dX0_stepNumber_75 rfl (lv_at hl 7 rfl) ?_
        refine lv_iload_n hx hb dX0_stepNumber_76 rfl (lv_at hl 8 rfl) ?_
        refine ro_callV (As := [.int (nI o), .int (nI i)]) (rest := []) ⟨hx, hb, hml, hown, hts⟩ (kX0_missAlong l D h cI A2 hIA2 (o) (i) (by omega) (hi)) (cwV 2 hts gX0_stepNumber_X0_missAlong rfl rfl rfl (by decide +kernel) ⟨Nat.le_of_ble_eq_true rfl, Nat.le_of_ble_eq_true rfl⟩) vB_bl (vB_at hP hK) (va_recv hK hP (ci := 0) (q0 := 0) rfl rfl) rfl hl.1 rfl (Nat.le_of_ble_eq_true rfl) dX0_stepNumber_77 ⟨Nat.zero_le _, Nat.zero_le _⟩ ?_
        refine lv_istore (lv' := [(9, .int (fal A2 o i)), (8, .int (nI (a + 1))), (7, .int (fal A o i)), (6, .int (nI a)), (5, .int (nI a)), (4, .int (nI (k * 14 + qi o i))), (0, .ref (h 0)), (1, .int (nI k)), (2, .int (nI o)), (3, .int (nI i))]) hx hb dX0_stepNumber_80 hl (by decide) rfl (fun ls hl => ?_)
        refine lv_iload hx hb dX0_stepNumber_82 (lv_at hl 0 rfl) ?_
        refine lv_iload hx hb dX0_stepNumber_84 (lv_at hl 2 rfl) ?_
        refine lv_icmp_ge (tgt := 97) hx hb dX0_stepNumber_86 (by decide) (fun c_86b => ?_) (fun c_86b => ?_)
        · refine lv_iinc (v := nI (a + 1 + 2)) (lv' := [(8, .int (nI (a + 1 + 2))), (9, .int (fal A2 o i)), (7, .int (fal A o i)), (6, .int (nI a)), (5, .int (nI a)), (4, .int (nI (k * 14 + qi o i))), (0, .ref (h 0)), (1, .int (nI k)), (2, .int (nI o)), (3, .int (nI i))]) hx hb dX0_stepNumber_97 hl (k := 1) rfl (nI_add _ 2) (by decide) rfl (fun ls hl => ?_)
          refine lv_goto (tgt := 45) hx hb dX0_stepNumber_100 (by decide) ?_
          refine lv_iload hx hb dX0_stepNumber_45 (lv_at hl 0 rfl) ?_
          refine lv_iload hx hb dX0_stepNumber_47 (lv_at hl 4 rfl) ?_
          refine lv_iconst (v := nI 1) hx hb dX0_stepNumber_49 (by decide) ?_
          refine n_iadd hx hb dX0_stepNumber_50 ?_
          refine n_icmp_gt (tgt := 103) hx hb (by omega) (by omega) dX0_stepNumber_51 (by decide) (fun c_51 => ?_) (fun c_51 => by exfalso; omega)
          refine lv_aload_n hx hb dX0_stepNumber_103 rfl (lv_at hl 6 rfl) ?_
          refine va_get (D := D) (ci := 0) (v := .ref (h 2)) (C := RX0) (T := TX0) (N := 12) hx hb hts hin0 hown hK hP 0 rfl rfl 4 (by decide) (hts (.fieldLink RX0 13 "VoiceParts" "voiceNumbers" "[I") (by decide +kernel)) (fun _ h9 => h9) rfl dX0_stepNumber_104 ?_
          refine lv_iload hx hb dX0_stepNumber_107 (lv_at hl 5 rfl) ?_
          refine lv_iload hx hb dX0_stepNumber_109 (lv_at hl 3 rfl) ?_
          refine n_iast hx hb hK hP hD hS 2 0 rfl rfl (by omega) (by decide) dX0_stepNumber_111 (fun H locs hP hD hS => ?_)
          obtain ⟨A3, eA3⟩ : ∃ z : St, z = uV A2 (upV (sV A2) k (qi o i) (nI a)) := ⟨_, rfl⟩
          have hP : va_P D vwCl (xw h cI A3) H := by rw [eA3]; have z := hP; rw [xVup (k := k) (i := qi o i) (hq)] at z; exact z
          have hD : va_D G (xw h cI A3) := va_D.to hD rfl
          have xA3 : A3 = tryV A k (qi o i) a := by rw [eA3, xA2]; exact try_try A k (qi o i) _ _
          exact hQ dX0_stepNumber_112 (by rw [cst_eq c_14 ea ha (bst_0 (ms := (fun x => fal (tryV A k (qi o i) x) o i)) (b := a) (if_neg (fun z => c_62a ((st_b a (by omega)).mpr z.1))) (fun z => Int32.not_lt.mpr (show fal (tryV A k (qi o i) (a)) o i ≤ fal (tryV A k (qi o i) (a + 1)) o i by rw [try_self ea, ← xA2]; exact c_86b) z.2)), ← xA3]; exact hP) hS
        · refine lv_iload hx hb dX0_stepNumber_89 (lv_at hl 0 rfl) ?_
          refine lv_istore (lv' := [(7, .int (fal A2 o i)), (9, .int (fal A2 o i)), (8, .int (nI (a + 1))), (6, .int (nI a)), (5, .int (nI a)), (4, .int (nI (k * 14 + qi o i))), (0, .ref (h 0)), (1, .int (nI k)), (2, .int (nI o)), (3, .int (nI i))]) hx hb dX0_stepNumber_91 hl (by decide) rfl (fun ls hl => ?_)
          refine lv_iload hx hb dX0_stepNumber_93 (lv_at hl 2 rfl) ?_
          refine lv_istore (lv' := [(6, .int (nI (a + 1))), (7, .int (fal A2 o i)), (9, .int (fal A2 o i)), (8, .int (nI (a + 1))), (5, .int (nI a)), (4, .int (nI (k * 14 + qi o i))), (0, .ref (h 0)), (1, .int (nI k)), (2, .int (nI o)), (3, .int (nI i))]) hx hb dX0_stepNumber_95 hl (by decide) rfl (fun ls hl => ?_)
          refine lv_iinc (v := nI (a + 1 + 2)) (lv' := [(8, .int (nI (a + 1 + 2))), (6, .int (nI (a + 1))), (7, .int (fal A2 o i)), (9, .int (fal A2 o i)), (5, .int (nI a)), (4, .int (nI (k * 14 + qi o i))), (0, .ref (h 0)), (1, .int (nI k)), (2, .int (nI o)), (3, .int (nI i))]) hx hb dX0_stepNumber_97 hl (k := 3) rfl (nI_add _ 2) (by decide) rfl (fun ls hl => ?_)
          refine lv_goto (tgt := 45) hx hb dX0_stepNumber_100 (by decide) ?_
          refine lv_iload hx hb dX0_stepNumber_45 (lv_at hl 0 rfl) ?_
          refine lv_iload hx hb dX0_stepNumber_47 (lv_at hl 4 rfl) ?_
          refine lv_iconst (v := nI 1) hx hb dX0_stepNumber_49 (by decide) ?_
          refine n_iadd hx hb dX0_stepNumber_50 ?_
          refine n_icmp_gt (tgt := 103) hx hb (by omega) (by omega) dX0_stepNumber_51 (by decide) (fun c_51 => ?_) (fun c_51 => by exfalso; omega)
          refine lv_aload_n hx hb dX0_stepNumber_103 rfl (lv_at hl 6 rfl) ?_
          refine va_get (D := D) (ci := 0) (v := .ref (h 2)) (C := RX0) (T := TX0) (N := 12) hx hb hts hin0 hown hK hP 0 rfl rfl 4 (by decide) (hts (.fieldLink RX0 13 "VoiceParts" "voiceNumbers" "[I") (by decide +kernel)) (fun _ h9 => h9) rfl dX0_stepNumber_104 ?_
          refine lv_iload hx hb dX0_stepNumber_107 (lv_at hl 5 rfl) ?_
          refine lv_iload hx hb dX0_stepNumber_109 (lv_at hl 1 rfl) ?_
          refine n_iast hx hb hK hP hD hS 2 0 rfl rfl (by omega) (by decide) dX0_stepNumber_111 (fun H locs hP hD hS => ?_)
          obtain ⟨A4, eA4⟩ : ∃ z : St, z = uV A2 (upV (sV A2) k (qi o i) (nI (a + 1))) := ⟨_, rfl⟩
          have hP : va_P D vwCl (xw h cI A4) H := by rw [eA4]; have z := hP; rw [xVup (k := k) (i := qi o i) (hq)] at z; exact z
          have hD : va_D G (xw h cI A4) := va_D.to hD rfl
          have xA4 : A4 = tryV A k (qi o i) (a + 1) := by rw [eA4, xA2]; exact try_try A k (qi o i) _ _
          exact hQ dX0_stepNumber_112 (by rw [cst_eq c_14 ea ha (bst_1 (ms := (fun x => fal (tryV A k (qi o i) x) o i)) (b := a) (if_neg (fun z => c_62a ((st_b a (by omega)).mpr z.1))) (⟨ha2, show fal (tryV A k (qi o i) (a + 1)) o i < fal (tryV A k (qi o i) (a)) o i by rw [try_self ea, ← xA2]; exact Int32.not_le.mp c_86b⟩)), ← xA4]; exact hP) hS
    · have ha1 : 1 ≤ a := (st_b a (by omega)).mp c_62a
      have hl : lv_has ls 10 [(8, .int (nI (a - 1))), (7, .int (fal A o i)), (6, .int (nI a)), (5, .int (nI a)), (4, .int (nI (k * 14 + qi o i))), (0, .ref (h 0)), (1, .int (nI k)), (2, .int (nI o)), (3, .int (nI i))] := by rw [← pk_sub ha1]; exact hl
      refine lv_aload_n hx hb dX0_stepNumber_65 rfl (lv_at hl 5 rfl) ?_
      refine va_get (D := D) (ci := 0) (v := .ref (h 2)) (C := RX0) (T := TX0) (N := 12) hx hb hts hin0 hown hK hP 0 rfl rfl 4 (by decide) (hts (.fieldLink RX0 13 "VoiceParts" "voiceNumbers" "[I") (by decide +kernel)) (fun _ h9 => h9) rfl dX0_stepNumber_66 ?_
      refine lv_iload hx hb dX0_stepNumber_69 (lv_at hl 4 rfl) ?_
      refine lv_iload hx hb dX0_stepNumber_71 (lv_at hl 0 rfl) ?_
      refine n_iast hx hb hK hP hD hS 2 0 rfl rfl (by omega) (by decide) dX0_stepNumber_73 (fun H locs hP hD hS => ?_)
      obtain ⟨A5, eA5⟩ : ∃ z : St, z = uV A (upV (sV A) k (qi o i) (nI (a - 1))) := ⟨_, rfl⟩
      have hP : va_P D vwCl (xw h cI A5) H := by rw [eA5]; have z := hP; rw [xVup (k := k) (i := qi o i) (hq)] at z; exact z
      have hD : va_D G (xw h cI A5) := va_D.to hD rfl
      have hIA5 : Inv A5 := by rw [eA5]; exact hI.uV (nI_20 (by omega))
      have xA5 : A5 = tryV A k (qi o i) (a - 1) := eA5
      refine lv_aload_n hx hb dX0_stepNumber_74 rfl (lv_at hl 5 rfl) ?_
      refine lv_iload_n hx hb dX0_stepNumber_75 rfl (lv_at hl 7 rfl) ?_
      refine lv_iload_n hx hb dX0_stepNumber_76 rfl (lv_at hl 8 rfl) ?_
      refine ro_callV (As := [.int (nI o), .int (nI i)]) (rest := []) ⟨hx, hb, hml, hown, hts⟩ (kX0_missAlong l D h cI A5 hIA5 (o) (i) (by omega) (hi)) (cwV 2 hts gX0_stepNumber_X0_missAlong rfl rfl rfl (by decide +kernel) ⟨Nat.le_of_ble_eq_true rfl, Nat.le_of_ble_eq_true rfl⟩) vB_bl (vB_at hP hK) (va_recv hK hP (ci := 0) (q0 := 0) rfl rfl) rfl hl.1 rfl (Nat.le_of_ble_eq_true rfl) dX0_stepNumber_77 ⟨Nat.zero_le _, Nat.zero_le _⟩ ?_
      refine lv_istore (lv' := [(9, .int (fal A5 o i)), (8, .int (nI (a - 1))), (7, .int (fal A o i)), (6, .int (nI a)), (5, .int (nI a)), (4, .int (nI (k * 14 + qi o i))), (0, .ref (h 0)), (1, .int (nI k)), (2, .int (nI o)), (3, .int (nI i))]) hx hb dX0_stepNumber_80 hl (by decide) rfl (fun ls hl => ?_)
      refine lv_iload hx hb dX0_stepNumber_82 (lv_at hl 0 rfl) ?_
      refine lv_iload hx hb dX0_stepNumber_84 (lv_at hl 2 rfl) ?_
      refine lv_icmp_ge (tgt := 97) hx hb dX0_stepNumber_86 (by decide) (fun c_86a => ?_) (fun c_86a => ?_)
      · refine lv_iinc (v := nI (a + 1)) (lv' := [(8, .int (nI (a + 1))), (9, .int (fal A5 o i)), (7, .int (fal A o i)), (6, .int (nI a)), (5, .int (nI a)), (4, .int (nI (k * 14 + qi o i))), (0, .ref (h 0)), (1, .int (nI k)), (2, .int (nI o)), (3, .int (nI i))]) hx hb dX0_stepNumber_97 hl (k := 1) rfl (st_e ha1) (by decide) rfl (fun ls hl => ?_)
        refine lv_goto (tgt := 45) hx hb dX0_stepNumber_100 (by decide) ?_
        refine lv_iload hx hb dX0_stepNumber_45 (lv_at hl 0 rfl) ?_
        refine lv_iload hx hb dX0_stepNumber_47 (lv_at hl 4 rfl) ?_
        refine lv_iconst (v := nI 1) hx hb dX0_stepNumber_49 (by decide) ?_
        refine n_iadd hx hb dX0_stepNumber_50 ?_
        refine n_icmp_gt (tgt := 103) hx hb (by omega) (by omega) dX0_stepNumber_51 (by decide) (fun c_51 => by exfalso; omega) (fun c_51 => ?_)
        refine lv_iload hx hb dX0_stepNumber_54 (lv_at hl 0 rfl) ?_
        refine lv_iconst (v := nI 0) hx hb dX0_stepNumber_56 (by decide) ?_
        refine lv_bipush (v := nI 20) hx hb dX0_stepNumber_57 (by decide) ?_
        refine ro_callS (As := [.int (nI (a + 1)), .int (nI 0), .int (nI 20)]) (rest := []) ⟨hx, hb, hml, hown, hts⟩ (kX0_within l (nI (a + 1)) (nI 0) (nI 20)) (va_cwS 3 hts gX0_stepNumber_X0_within rfl rfl rfl (by decide +kernel) ⟨Nat.le_of_ble_eq_true rfl, Nat.le_of_ble_eq_true rfl⟩) vT_bl vT_at rfl hl.1 rfl (Nat.le_of_ble_eq_true rfl) dX0_stepNumber_59 ⟨Nat.zero_le _, Nat.zero_le _⟩ ?_
        refine b_if_eq (tgt := 97) hx hb dX0_stepNumber_62 (by decide) (fun c_62b => ?_) (fun c_62b => ?_)
        · refine lv_iinc (v := nI (a + 1 + 2)) (lv' := [(8, .int (nI (a + 1 + 2))), (9, .int (fal A5 o i)), (7, .int (fal A o i)), (6, .int (nI a)), (5, .int (nI a)), (4, .int (nI (k * 14 + qi o i))), (0, .ref (h 0)), (1, .int (nI k)), (2, .int (nI o)), (3, .int (nI i))]) hx hb dX0_stepNumber_97 hl (k := 0) rfl (nI_add _ 2) (by decide) rfl (fun ls hl => ?_)
          refine lv_goto (tgt := 45) hx hb dX0_stepNumber_100 (by decide) ?_
          refine lv_iload hx hb dX0_stepNumber_45 (lv_at hl 0 rfl) ?_
          refine lv_iload hx hb dX0_stepNumber_47 (lv_at hl 4 rfl) ?_
          refine lv_iconst (v := nI 1) hx hb dX0_stepNumber_49 (by decide) ?_
          refine n_iadd hx hb dX0_stepNumber_50 ?_
          refine n_icmp_gt (tgt := 103) hx hb (by omega) (by omega) dX0_stepNumber_51 (by decide) (fun c_51 => ?_) (fun c_51 => by exfalso; omega)
          refine lv_aload_n hx hb dX0_stepNumber_103 rfl (lv_at hl 6 rfl) ?_
          refine va_get (D := D) (ci := 0) (v := .ref (h 2)) (C := RX0) (T := TX0) (N := 12) hx hb hts hin0 hown hK hP 0 rfl rfl 4 (by decide) (hts (.fieldLink RX0 13 "VoiceParts" "voiceNumbers" "[I") (by decide +kernel)) (fun _ h9 => h9) rfl dX0_stepNumber_104 ?_
          refine lv_iload hx hb dX0_stepNumber_107 (lv_at hl 5 rfl) ?_
          refine lv_iload hx hb dX0_stepNumber_109 (lv_at hl 3 rfl) ?_
          refine n_iast hx hb hK hP hD hS 2 0 rfl rfl (by omega) (by decide) dX0_stepNumber_111 (fun H locs hP hD hS => ?_)
          obtain ⟨A6, eA6⟩ : ∃ z : St, z = uV A5 (upV (sV A5) k (qi o i) (nI a)) := ⟨_, rfl⟩
          have hP : va_P D vwCl (xw h cI A6) H := by rw [eA6]; have z := hP; rw [xVup (k := k) (i := qi o i) (hq)] at z; exact z
          have hD : va_D G (xw h cI A6) := va_D.to hD rfl
          have xA6 : A6 = tryV A k (qi o i) a := by rw [eA6, xA5]; exact try_try A k (qi o i) _ _
          exact hQ dX0_stepNumber_112 (by rw [cst_eq c_14 ea ha (bst_0 (ms := (fun x => fal (tryV A k (qi o i) x) o i)) (b := a) (if_neg (fun z => Int32.not_lt.mpr (show fal (tryV A k (qi o i) a) o i ≤ fal (tryV A k (qi o i) (a - 1)) o i by rw [try_self ea, ← xA5]; exact c_86a) z.2)) (fun z => c_62b ((st_c a (by omega)).mpr z.1))), ← xA6]; exact hP) hS
        · have ha2 : a + 1 ≤ 20 := (st_c a (by omega)).mp c_62b
          refine lv_aload_n hx hb dX0_stepNumber_65 rfl (lv_at hl 6 rfl) ?_
          refine va_get (D := D) (ci := 0) (v := .ref (h 2)) (C := RX0) (T := TX0) (N := 12) hx hb hts hin0 hown hK hP 0 rfl rfl 4 (by decide) (hts (.fieldLink RX0 13 "VoiceParts" "voiceNumbers" "[I") (by decide +kernel)) (fun _ h9 => h9) rfl dX0_stepNumber_66 ?_
          refine lv_iload hx hb dX0_stepNumber_69 (lv_at hl 5 rfl) ?_
          refine lv_iload hx hb dX0_stepNumber_71 (lv_at hl 0 rfl) ?_
          refine n_iast hx hb hK hP hD hS 2 0 rfl rfl (by omega) (by decide) dX0_stepNumber_73 (fun H locs hP hD hS => ?_)
          obtain ⟨A7, eA7⟩ : ∃ z : St, z = uV A5 (upV (sV A5) k (qi o i) (nI (a + 1))) := ⟨_, rfl⟩
          have hP : va_P D vwCl (xw h cI A7) H := by rw [eA7]; have z := hP; rw [xVup (k := k) (i := qi o i) (hq)] at z; exact z
          have hD : va_D G (xw h cI A7) := va_D.to hD rfl
          have hIA7 : Inv A7 := by rw [eA7]; exact hIA5.uV (nI_20 (by omega))
          have xA7 : A7 = tryV A k (qi o i) (a + 1) := by rw [eA7, xA5]; exact try_try A k (qi o i) _ _
          refine lv_aload_n hx hb dX0_stepNumber_74 rfl (lv_at hl 6 rfl) ?_
          refine lv_iload_n hx hb dX0_stepNumber_75 rfl (lv_at hl 8 rfl) ?_
          refine lv_iload_n hx hb dX0_stepNumber_76 rfl (lv_at hl 9 rfl) ?_
          refine ro_callV (As := [.int (nI o), .int (nI i)]) (rest := []) ⟨hx, hb, hml, hown, hts⟩ (kX0_missAlong l D h cI A7 hIA7 (o) (i) (by omega) (hi)) (cwV 2 hts gX0_stepNumber_X0_missAlong rfl rfl rfl (by decide +kernel) ⟨Nat.le_of_ble_eq_true rfl, Nat.le_of_ble_eq_true rfl⟩) vB_bl (vB_at hP hK) (va_recv hK hP (ci := 0) (q0 := 0) rfl rfl) rfl hl.1 rfl (Nat.le_of_ble_eq_true rfl) dX0_stepNumber_77 ⟨Nat.zero_le _, Nat.zero_le _⟩ ?_
          refine lv_istore (lv' := [(9, .int (fal A7 o i)), (8, .int (nI (a + 1))), (7, .int (fal A o i)), (6, .int (nI a)), (5, .int (nI a)), (4, .int (nI (k * 14 + qi o i))), (0, .ref (h 0)), (1, .int (nI k)), (2, .int (nI o)), (3, .int (nI i))]) hx hb dX0_stepNumber_80 hl (by decide) rfl (fun ls hl => ?_)
          refine lv_iload hx hb dX0_stepNumber_82 (lv_at hl 0 rfl) ?_
          refine lv_iload hx hb dX0_stepNumber_84 (lv_at hl 2 rfl) ?_
          refine lv_icmp_ge (tgt := 97) hx hb dX0_stepNumber_86 (by decide) (fun c_86b => ?_) (fun c_86b => ?_)
          · refine lv_iinc (v := nI (a + 1 + 2)) (lv' := [(8, .int (nI (a + 1 + 2))), (9, .int (fal A7 o i)), (7, .int (fal A o i)), (6, .int (nI a)), (5, .int (nI a)), (4, .int (nI (k * 14 + qi o i))), (0, .ref (h 0)), (1, .int (nI k)), (2, .int (nI o)), (3, .int (nI i))]) hx hb dX0_stepNumber_97 hl (k := 1) rfl (nI_add _ 2) (by decide) rfl (fun ls hl => ?_)
            refine lv_goto (tgt := 45) hx hb dX0_stepNumber_100 (by decide) ?_
            refine lv_iload hx hb dX0_stepNumber_45 (lv_at hl 0 rfl) ?_
            refine lv_iload hx hb dX0_stepNumber_47 (lv_at hl 4 rfl) ?_
            refine lv_iconst (v := nI 1) hx hb dX0_stepNumber_49 (by decide) ?_
            refine n_iadd hx hb dX0_stepNumber_50 ?_
            refine n_icmp_gt (tgt := 103) hx hb (by omega) (by omega) dX0_stepNumber_51 (by decide) (fun c_51 => ?_) (fun c_51 => by exfalso; omega)
            refine lv_aload_n hx hb dX0_stepNumber_103 rfl (lv_at hl 6 rfl) ?_
            refine va_get (D := D) (ci := 0) (v := .ref (h 2)) (C := RX0) (T := TX0) (N := 12) hx hb hts hin0 hown hK hP 0 rfl rfl 4 (by decide) (hts (.fieldLink RX0 13 "VoiceParts" "voiceNumbers" "[I") (by decide +kernel)) (fun _ h9 => h9) rfl dX0_stepNumber_104 ?_
            refine lv_iload hx hb dX0_stepNumber_107 (lv_at hl 5 rfl) ?_
            refine lv_iload hx hb dX0_stepNumber_109 (lv_at hl 3 rfl) ?_
            refine n_iast hx hb hK hP hD hS 2 0 rfl rfl (by omega) (by decide) dX0_stepNumber_111 (fun H locs hP hD hS => ?_)
            obtain ⟨A8, eA8⟩ : ∃ z : St, z = uV A7 (upV (sV A7) k (qi o i) (nI a)) := ⟨_, rfl⟩
            have hP : va_P D vwCl (xw h cI A8) H := by rw [eA8]; have z := hP; rw [xVup (k := k) (i := qi o i) (hq)] at z; exact z
            have hD : va_D G (xw h cI A8) := va_D.to hD rfl
            have xA8 : A8 = tryV A k (qi o i) a := by rw [eA8, xA7]; exact try_try A k (qi o i) _ _
            exact hQ dX0_stepNumber_112 (by rw [cst_eq c_14 ea ha (bst_0 (ms := (fun x => fal (tryV A k (qi o i) x) o i)) (b := a) (if_neg (fun z => Int32.not_lt.mpr (show fal (tryV A k (qi o i) a) o i ≤ fal (tryV A k (qi o i) (a - 1)) o i by rw [try_self ea, ← xA5]; exact c_86a) z.2)) (fun z => Int32.not_lt.mpr (show fal (tryV A k (qi o i) (a)) o i ≤ fal (tryV A k (qi o i) (a + 1)) o i by rw [try_self ea, ← xA7]; exact c_86b) z.2)), ← xA8]; exact hP) hS
          · refine lv_iload hx hb dX0_stepNumber_89 (lv_at hl 0 rfl) ?_
            refine lv_istore (lv' := [(7, .int (fal A7 o i)), (9, .int (fal A7 o i)), (8, .int (nI (a + 1))), (6, .int (nI a)), (5, .int (nI a)), (4, .int (nI (k * 14 + qi o i))), (0, .ref (h 0)), (1, .int (nI k)), (2, .int (nI o)), (3, .int (nI i))]) hx hb dX0_stepNumber_91 hl (by decide) rfl (fun ls hl => ?_)
            refine lv_iload hx hb dX0_stepNumber_93 (lv_at hl 2 rfl) ?_
            refine lv_istore (lv' := [(6, .int (nI (a + 1))), (7, .int (fal A7 o i)), (9, .int (fal A7 o i)), (8, .int (nI (a + 1))), (5, .int (nI a)), (4, .int (nI (k * 14 + qi o i))), (0, .ref (h 0)), (1, .int (nI k)), (2, .int (nI o)), (3, .int (nI i))]) hx hb dX0_stepNumber_95 hl (by decide) rfl (fun ls hl => ?_)
            refine lv_iinc (v := nI (a + 1 + 2)) (lv' := [(8, .int (nI (a + 1 + 2))), (6, .int (nI (a + 1))), (7, .int (fal A7 o i)), (9, .int (fal A7 o i)), (5, .int (nI a)), (4, .int (nI (k * 14 + qi o i))), (0, .ref (h 0)), (1, .int (nI k)), (2, .int (nI o)), (3, .int (nI i))]) hx hb dX0_stepNumber_97 hl (k := 3) rfl (nI_add _ 2) (by decide) rfl (fun ls hl => ?_)
            refine lv_goto (tgt := 45) hx hb dX0_stepNumber_100 (by decide) ?_
            refine lv_iload hx hb dX0_stepNumber_45 (lv_at hl 0 rfl) ?_
            refine lv_iload hx hb dX0_stepNumber_47 (lv_at hl 4 rfl) ?_
            refine lv_iconst (v := nI 1) hx hb dX0_stepNumber_49 (by decide) ?_
            refine n_iadd hx hb dX0_stepNumber_50 ?_
            refine n_icmp_gt (tgt := 103) hx hb (by omega) (by omega) dX0_stepNumber_51 (by decide) (fun c_51 => ?_) (fun c_51 => by exfalso; omega)
            refine lv_aload_n hx hb dX0_stepNumber_103 rfl (lv_at hl 6 rfl) ?_
            refine va_get (D := D) (ci := 0) (v := .ref (h 2)) (C := RX0) (T := TX0) (N := 12) hx hb hts hin0 hown hK hP 0 rfl rfl 4 (by decide) (hts (.fieldLink RX0 13 "VoiceParts" "voiceNumbers" "[I") (by decide +kernel)) (fun _ h9 => h9) rfl dX0_stepNumber_104 ?_
            refine lv_iload hx hb dX0_stepNumber_107 (lv_at hl 5 rfl) ?_
            refine lv_iload hx hb dX0_stepNumber_109 (lv_at hl 1 rfl) ?_
            refine n_iast hx hb hK hP hD hS 2 0 rfl rfl (by omega) (by decide) dX0_stepNumber_111 (fun H locs hP hD hS => ?_)
            obtain ⟨A9, eA9⟩ : ∃ z : St, z = uV A7 (upV (sV A7) k (qi o i) (nI (a + 1))) := ⟨_, rfl⟩
            have hP : va_P D vwCl (xw h cI A9) H := by rw [eA9]; have z := hP; rw [xVup (k := k) (i := qi o i) (hq)] at z; exact z
            have hD : va_D G (xw h cI A9) := va_D.to hD rfl
            have xA9 : A9 = tryV A k (qi o i) (a + 1) := by rw [eA9, xA7]; exact try_try A k (qi o i) _ _
            exact hQ dX0_stepNumber_112 (by rw [cst_eq c_14 ea ha (bst_1 (ms := (fun x => fal (tryV A k (qi o i) x) o i)) (b := a) (if_neg (fun z => Int32.not_lt.mpr (show fal (tryV A k (qi o i) a) o i ≤ fal (tryV A k (qi o i) (a - 1)) o i by rw [try_self ea, ← xA5]; exact c_86a) z.2)) (⟨ha2, show fal (tryV A k (qi o i) (a + 1)) o i < fal (tryV A k (qi o i) (a)) o i by rw [try_self ea, ← xA7]; exact Int32.not_le.mp c_86b⟩)), ← xA9]; exact hP) hS
      · refine lv_iload hx hb dX0_stepNumber_89 (lv_at hl 0 rfl) ?_
        refine lv_istore (lv' := [(7, .int (fal A5 o i)), (9, .int (fal A5 o i)), (8, .int (nI (a - 1))), (6, .int (nI a)), (5, .int (nI a)), (4, .int (nI (k * 14 + qi o i))), (0, .ref (h 0)), (1, .int (nI k)), (2, .int (nI o)), (3, .int (nI i))]) hx hb dX0_stepNumber_91 hl (by decide) rfl (fun ls hl => ?_)
        refine lv_iload hx hb dX0_stepNumber_93 (lv_at hl 2 rfl) ?_
        refine lv_istore (lv' := [(6, .int (nI (a - 1))), (7, .int (fal A5 o i)), (9, .int (fal A5 o i)), (8, .int (nI (a - 1))), (5, .int (nI a)), (4, .int (nI (k * 14 + qi o i))), (0, .ref (h 0)), (1, .int (nI k)), (2, .int (nI o)), (3, .int (nI i))]) hx hb dX0_stepNumber_95 hl (by decide) rfl (fun ls hl => ?_)
        refine lv_iinc (v := nI (a + 1)) (lv' := [(8, .int (nI (a + 1))), (6, .int (nI (a - 1))), (7, .int (fal A5 o i)), (9, .int (fal A5 o i)), (5, .int (nI a)), (4, .int (nI (k * 14 + qi o i))), (0, .ref (h 0)), (1, .int (nI k)), (2, .int (nI o)), (3, .int (nI i))]) hx hb dX0_stepNumber_97 hl (k := 3) rfl (st_e ha1) (by decide) rfl (fun ls hl => ?_)
        refine lv_goto (tgt := 45) hx hb dX0_stepNumber_100 (by decide) ?_
        refine lv_iload hx hb dX0_stepNumber_45 (lv_at hl 0 rfl) ?_
        refine lv_iload hx hb dX0_stepNumber_47 (lv_at hl 4 rfl) ?_
        refine lv_iconst (v := nI 1) hx hb dX0_stepNumber_49 (by decide) ?_
        refine n_iadd hx hb dX0_stepNumber_50 ?_
        refine n_icmp_gt (tgt := 103) hx hb (by omega) (by omega) dX0_stepNumber_51 (by decide) (fun c_51 => by exfalso; omega) (fun c_51 => ?_)
        refine lv_iload hx hb dX0_stepNumber_54 (lv_at hl 0 rfl) ?_
        refine lv_iconst (v := nI 0) hx hb dX0_stepNumber_56 (by decide) ?_
        refine lv_bipush (v := nI 20) hx hb dX0_stepNumber_57 (by decide) ?_
        refine ro_callS (As := [.int (nI (a + 1)), .int (nI 0), .int (nI 20)]) (rest := []) ⟨hx, hb, hml, hown, hts⟩ (kX0_within l (nI (a + 1)) (nI 0) (nI 20)) (va_cwS 3 hts gX0_stepNumber_X0_within rfl rfl rfl (by decide +kernel) ⟨Nat.le_of_ble_eq_true rfl, Nat.le_of_ble_eq_true rfl⟩) vT_bl vT_at rfl hl.1 rfl (Nat.le_of_ble_eq_true rfl) dX0_stepNumber_59 ⟨Nat.zero_le _, Nat.zero_le _⟩ ?_
        refine b_if_eq (tgt := 97) hx hb dX0_stepNumber_62 (by decide) (fun c_62b => ?_) (fun c_62b => ?_)
        · refine lv_iinc (v := nI (a + 1 + 2)) (lv' := [(8, .int (nI (a + 1 + 2))), (6, .int (nI (a - 1))), (7, .int (fal A5 o i)), (9, .int (fal A5 o i)), (5, .int (nI a)), (4, .int (nI (k * 14 + qi o i))), (0, .ref (h 0)), (1, .int (nI k)), (2, .int (nI o)), (3, .int (nI i))]) hx hb dX0_stepNumber_97 hl (k := 0) rfl (nI_add _ 2) (by decide) rfl (fun ls hl => ?_)
          refine lv_goto (tgt := 45) hx hb dX0_stepNumber_100 (by decide) ?_
          refine lv_iload hx hb dX0_stepNumber_45 (lv_at hl 0 rfl) ?_
          refine lv_iload hx hb dX0_stepNumber_47 (lv_at hl 4 rfl) ?_
          refine lv_iconst (v := nI 1) hx hb dX0_stepNumber_49 (by decide) ?_
          refine n_iadd hx hb dX0_stepNumber_50 ?_
          refine n_icmp_gt (tgt := 103) hx hb (by omega) (by omega) dX0_stepNumber_51 (by decide) (fun c_51 => ?_) (fun c_51 => by exfalso; omega)
          refine lv_aload_n hx hb dX0_stepNumber_103 rfl (lv_at hl 6 rfl) ?_
          refine va_get (D := D) (ci := 0) (v := .ref (h 2)) (C := RX0) (T := TX0) (N := 12) hx hb hts hin0 hown hK hP 0 rfl rfl 4 (by decide) (hts (.fieldLink RX0 13 "VoiceParts" "voiceNumbers" "[I") (by decide +kernel)) (fun _ h9 => h9) rfl dX0_stepNumber_104 ?_
          refine lv_iload hx hb dX0_stepNumber_107 (lv_at hl 5 rfl) ?_
          refine lv_iload hx hb dX0_stepNumber_109 (lv_at hl 1 rfl) ?_
          refine n_iast hx hb hK hP hD hS 2 0 rfl rfl (by omega) (by decide) dX0_stepNumber_111 (fun H locs hP hD hS => ?_)
          obtain ⟨A10, eA10⟩ : ∃ z : St, z = uV A5 (upV (sV A5) k (qi o i) (nI (a - 1))) := ⟨_, rfl⟩
          have hP : va_P D vwCl (xw h cI A10) H := by rw [eA10]; have z := hP; rw [xVup (k := k) (i := qi o i) (hq)] at z; exact z
          have hD : va_D G (xw h cI A10) := va_D.to hD rfl
          have xA10 : A10 = tryV A k (qi o i) (a - 1) := by rw [eA10, xA5]; exact try_try A k (qi o i) _ _
          exact hQ dX0_stepNumber_112 (by rw [cst_eq c_14 ea ha (bst_0 (ms := (fun x => fal (tryV A k (qi o i) x) o i)) (b := a - 1) (if_pos ⟨ha1, show fal (tryV A k (qi o i) (a - 1)) o i < fal (tryV A k (qi o i) a) o i by rw [try_self ea, ← xA5]; exact Int32.not_le.mp c_86a⟩) (fun z => c_62b ((st_c a (by omega)).mpr z.1))), ← xA10]; exact hP) hS
        · have ha2 : a + 1 ≤ 20 := (st_c a (by omega)).mp c_62b
          refine lv_aload_n hx hb dX0_stepNumber_65 rfl (lv_at hl 6 rfl) ?_
          refine va_get (D := D) (ci := 0) (v := .ref (h 2)) (C := RX0) (T := TX0) (N := 12) hx hb hts hin0 hown hK hP 0 rfl rfl 4 (by decide) (hts (.fieldLink RX0 13 "VoiceParts" "voiceNumbers" "[I") (by decide +kernel)) (fun _ h9 => h9) rfl dX0_stepNumber_66 ?_
          refine lv_iload hx hb dX0_stepNumber_69 (lv_at hl 5 rfl) ?_
          refine lv_iload hx hb dX0_stepNumber_71 (lv_at hl 0 rfl) ?_
          refine n_iast hx hb hK hP hD hS 2 0 rfl rfl (by omega) (by decide) dX0_stepNumber_73 (fun H locs hP hD hS => ?_)
          obtain ⟨A11, eA11⟩ : ∃ z : St, z = uV A5 (upV (sV A5) k (qi o i) (nI (a + 1))) := ⟨_, rfl⟩
          have hP : va_P D vwCl (xw h cI A11) H := by rw [eA11]; have z := hP; rw [xVup (k := k) (i := qi o i) (hq)] at z; exact z
          have hD : va_D G (xw h cI A11) := va_D.to hD rfl
          have hIA11 : Inv A11 := by rw [eA11]; exact hIA5.uV (nI_20 (by omega))
          have xA11 : A11 = tryV A k (qi o i) (a + 1) := by rw [eA11, xA5]; exact try_try A k (qi o i) _ _
          refine lv_aload_n hx hb dX0_stepNumber_74 rfl (lv_at hl 6 rfl) ?_
          refine lv_iload_n hx hb dX0_stepNumber_75 rfl (lv_at hl 8 rfl) ?_
          refine lv_iload_n hx hb dX0_stepNumber_76 rfl (lv_at hl 9 rfl) ?_
          refine ro_callV (As := [.int (nI o), .int (nI i)]) (rest := []) ⟨hx, hb, hml, hown, hts⟩ (kX0_missAlong l D h cI A11 hIA11 (o) (i) (by omega) (hi)) (cwV 2 hts gX0_stepNumber_X0_missAlong rfl rfl rfl (by decide +kernel) ⟨Nat.le_of_ble_eq_true rfl, Nat.le_of_ble_eq_true rfl⟩) vB_bl (vB_at hP hK) (va_recv hK hP (ci := 0) (q0 := 0) rfl rfl) rfl hl.1 rfl (Nat.le_of_ble_eq_true rfl) dX0_stepNumber_77 ⟨Nat.zero_le _, Nat.zero_le _⟩ ?_
          refine lv_istore (lv' := [(9, .int (fal A11 o i)), (8, .int (nI (a + 1))), (6, .int (nI (a - 1))), (7, .int (fal A5 o i)), (5, .int (nI a)), (4, .int (nI (k * 14 + qi o i))), (0, .ref (h 0)), (1, .int (nI k)), (2, .int (nI o)), (3, .int (nI i))]) hx hb dX0_stepNumber_80 hl (by decide) rfl (fun ls hl => ?_)
          refine lv_iload hx hb dX0_stepNumber_82 (lv_at hl 0 rfl) ?_
          refine lv_iload hx hb dX0_stepNumber_84 (lv_at hl 3 rfl) ?_
          refine lv_icmp_ge (tgt := 97) hx hb dX0_stepNumber_86 (by decide) (fun c_86b => ?_) (fun c_86b => ?_)
          · refine lv_iinc (v := nI (a + 1 + 2)) (lv' := [(8, .int (nI (a + 1 + 2))), (9, .int (fal A11 o i)), (6, .int (nI (a - 1))), (7, .int (fal A5 o i)), (5, .int (nI a)), (4, .int (nI (k * 14 + qi o i))), (0, .ref (h 0)), (1, .int (nI k)), (2, .int (nI o)), (3, .int (nI i))]) hx hb dX0_stepNumber_97 hl (k := 1) rfl (nI_add _ 2) (by decide) rfl (fun ls hl => ?_)
            refine lv_goto (tgt := 45) hx hb dX0_stepNumber_100 (by decide) ?_
            refine lv_iload hx hb dX0_stepNumber_45 (lv_at hl 0 rfl) ?_
            refine lv_iload hx hb dX0_stepNumber_47 (lv_at hl 4 rfl) ?_
            refine lv_iconst (v := nI 1) hx hb dX0_stepNumber_49 (by decide) ?_
            refine n_iadd hx hb dX0_stepNumber_50 ?_
            refine n_icmp_gt (tgt := 103) hx hb (by omega) (by omega) dX0_stepNumber_51 (by decide) (fun c_51 => ?_) (fun c_51 => by exfalso; omega)
            refine lv_aload_n hx hb dX0_stepNumber_103 rfl (lv_at hl 6 rfl) ?_
            refine va_get (D := D) (ci := 0) (v := .ref (h 2)) (C := RX0) (T := TX0) (N := 12) hx hb hts hin0 hown hK hP 0 rfl rfl 4 (by decide) (hts (.fieldLink RX0 13 "VoiceParts" "voiceNumbers" "[I") (by decide +kernel)) (fun _ h9 => h9) rfl dX0_stepNumber_104 ?_
            refine lv_iload hx hb dX0_stepNumber_107 (lv_at hl 5 rfl) ?_
            refine lv_iload hx hb dX0_stepNumber_109 (lv_at hl 2 rfl) ?_
            refine n_iast hx hb hK hP hD hS 2 0 rfl rfl (by omega) (by decide) dX0_stepNumber_111 (fun H locs hP hD hS => ?_)
            obtain ⟨A12, eA12⟩ : ∃ z : St, z = uV A11 (upV (sV A11) k (qi o i) (nI (a - 1))) := ⟨_, rfl⟩
            have hP : va_P D vwCl (xw h cI A12) H := by rw [eA12]; have z := hP; rw [xVup (k := k) (i := qi o i) (hq)] at z; exact z
            have hD : va_D G (xw h cI A12) := va_D.to hD rfl
            have xA12 : A12 = tryV A k (qi o i) (a - 1) := by rw [eA12, xA11]; exact try_try A k (qi o i) _ _
            exact hQ dX0_stepNumber_112 (by rw [cst_eq c_14 ea ha (bst_0 (ms := (fun x => fal (tryV A k (qi o i) x) o i)) (b := a - 1) (if_pos ⟨ha1, show fal (tryV A k (qi o i) (a - 1)) o i < fal (tryV A k (qi o i) a) o i by rw [try_self ea, ← xA5]; exact Int32.not_le.mp c_86a⟩) (fun z => Int32.not_lt.mpr (show fal (tryV A k (qi o i) (a - 1)) o i ≤ fal (tryV A k (qi o i) (a + 1)) o i by rw [← xA5, ← xA11]; exact c_86b) z.2)), ← xA12]; exact hP) hS
          · refine lv_iload hx hb dX0_stepNumber_89 (lv_at hl 0 rfl) ?_
            refine lv_istore (lv' := [(7, .int (fal A11 o i)), (9, .int (fal A11 o i)), (8, .int (nI (a + 1))), (6, .int (nI (a - 1))), (5, .int (nI a)), (4, .int (nI (k * 14 + qi o i))), (0, .ref (h 0)), (1, .int (nI k)), (2, .int (nI o)), (3, .int (nI i))]) hx hb dX0_stepNumber_91 hl (by decide) rfl (fun ls hl => ?_)
            refine lv_iload hx hb dX0_stepNumber_93 (lv_at hl 2 rfl) ?_
            refine lv_istore (lv' := [(6, .int (nI (a + 1))), (7, .int (fal A11 o i)), (9, .int (fal A11 o i)), (8, .int (nI (a + 1))), (5, .int (nI a)), (4, .int (nI (k * 14 + qi o i))), (0, .ref (h 0)), (1, .int (nI k)), (2, .int (nI o)), (3, .int (nI i))]) hx hb dX0_stepNumber_95 hl (by decide) rfl (fun ls hl => ?_)
            refine lv_iinc (v := nI (a + 1 + 2)) (lv' := [(8, .int (nI (a + 1 + 2))), (6, .int (nI (a + 1))), (7, .int (fal A11 o i)), (9, .int (fal A11 o i)), (5, .int (nI a)), (4, .int (nI (k * 14 + qi o i))), (0, .ref (h 0)), (1, .int (nI k)), (2, .int (nI o)), (3, .int (nI i))]) hx hb dX0_stepNumber_97 hl (k := 3) rfl (nI_add _ 2) (by decide) rfl (fun ls hl => ?_)
            refine lv_goto (tgt := 45) hx hb dX0_stepNumber_100 (by decide) ?_
            refine lv_iload hx hb dX0_stepNumber_45 (lv_at hl 0 rfl) ?_
            refine lv_iload hx hb dX0_stepNumber_47 (lv_at hl 4 rfl) ?_
            refine lv_iconst (v := nI 1) hx hb dX0_stepNumber_49 (by decide) ?_
            refine n_iadd hx hb dX0_stepNumber_50 ?_
            refine n_icmp_gt (tgt := 103) hx hb (by omega) (by omega) dX0_stepNumber_51 (by decide) (fun c_51 => ?_) (fun c_51 => by exfalso; omega)
            refine lv_aload_n hx hb dX0_stepNumber_103 rfl (lv_at hl 6 rfl) ?_
            refine va_get (D := D) (ci := 0) (v := .ref (h 2)) (C := RX0) (T := TX0) (N := 12) hx hb hts hin0 hown hK hP 0 rfl rfl 4 (by decide) (hts (.fieldLink RX0 13 "VoiceParts" "voiceNumbers" "[I") (by decide +kernel)) (fun _ h9 => h9) rfl dX0_stepNumber_104 ?_
            refine lv_iload hx hb dX0_stepNumber_107 (lv_at hl 5 rfl) ?_
            refine lv_iload hx hb dX0_stepNumber_109 (lv_at hl 1 rfl) ?_
            refine n_iast hx hb hK hP hD hS 2 0 rfl rfl (by omega) (by decide) dX0_stepNumber_111 (fun H locs hP hD hS => ?_)
            obtain ⟨A13, eA13⟩ : ∃ z : St, z = uV A11 (upV (sV A11) k (qi o i) (nI (a + 1))) := ⟨_, rfl⟩
            have hP : va_P D vwCl (xw h cI A13) H := by rw [eA13]; have z := hP; rw [xVup (k := k) (i := qi o i) (hq)] at z; exact z
            have hD : va_D G (xw h cI A13) := va_D.to hD rfl
            have xA13 : A13 = tryV A k (qi o i) (a + 1) := by rw [eA13, xA11]; exact try_try A k (qi o i) _ _
            exact hQ dX0_stepNumber_112 (by rw [cst_eq c_14 ea ha (bst_1 (ms := (fun x => fal (tryV A k (qi o i) x) o i)) (b := a - 1) (if_pos ⟨ha1, show fal (tryV A k (qi o i) (a - 1)) o i < fal (tryV A k (qi o i) a) o i by rw [try_self ea, ← xA5]; exact Int32.not_le.mp c_86a⟩) (⟨ha2, show fal (tryV A k (qi o i) (a + 1)) o i < fal (tryV A k (qi o i) (a - 1)) o i by rw [← xA5, ← xA11]; exact Int32.not_le.mp c_86b⟩)), ← xA13]; exact hP) hS
  · exact hQ dX0_stepNumber_17 (by unfold cst; rw [if_pos c_14]; exact hP) hS
def rmX0_playRound : Room := { frames := 5, cells := 0, slots := 0, locals := 124 }
set_option maxHeartbeats 4000000 in
set_option maxRecDepth 100000 in
/-- playRound -/
theorem kX0_playRound (l : Launch) (D : va_G) (h : Nat → Nat) (cI : ClassId) (A : St) (hI : Inv A) : MU l yX0_playRound wsX0_playRound rmX0_playRound [.ref (h 0)] D [(cI, .int)] (xw h cI A) (xw h cI (rK cst A (sK A))) none := by
  refine mu_ofWv (cc := cX0_playRound) (maxL := 5) (by decide) rfl (Nat.le_of_ble_eq_true rfl) ?_
  intro p e s m below meth c args Q G H locs hx hb hml hown hts hP hK hD hS hQ ls hl
  have hown : s.vm.findClass RX0 = some m.cls := hown
  have hin0 : ∀ w ∈ u_ws RX0 TX0 12, w ∈ wsX0_playRound := fun _ h => List.mem_cons_of_mem _ (List.mem_append_right _ h)
  have hl : lv_has ls 5 [(0, .ref (h 0))] := hl
  have hF := hI.F
  have hT := hI.T
  have hK3 := hI.K
  have hJ := hI.J
  have hZ := hI.Z
  refine lv_iconst (v := nI 0) hx hb dX0_playRound_0 (by decide) ?_
  refine lv_istore_n (lv' := [(1, .int (nI 0)), (0, .ref (h 0))]) hx hb dX0_playRound_1 rfl hl (by decide) rfl (fun ls hl => ?_)
  have lp2 : ∀ (n2 k : Nat), k + n2 = sK A → ∀ (H : Heap) (locs : List Loc), va_P D vwCl (xw h cI (rK cst A k)) H → va_S G s.heap H locs → ∀ (ls : Array Slot), lv_has ls 5 [(0, .ref (h 0)), (1, .int (nI k))] → W p l e rmX0_playRound s m args below meth c H locs 0 0 Q (F0 m 2 ls []) := by
    intro n2
    induction n2 with
    | zero =>
      intro k hi2 H locs hP hS ls hl
      obtain rfl : sK A = k := by omega
      have hD : va_D G (xw h cI (rK cst A (sK A))) := va_D.to hD rfl
      refine lv_iload_n hx hb dX0_playRound_2 rfl (lv_at hl 1 rfl) ?_
      refine lv_aload_n hx hb dX0_playRound_3 rfl (lv_at hl 0 rfl) ?_
      refine va_get (D := D) (ci := 0) (v := .int (nI (sK (rK cst A (sK A))))) (C := RX0) (T := TX0) (N := 12) hx hb hts hin0 hown hK hP 0 rfl rfl 2 (by decide) (hts (.fieldLink RX0 137 "VoiceParts" "voices" "I") (by decide +kernel)) (fun _ h9 => h9) rfl dX0_playRound_4 ?_
      refine n_top (y := nI (sK A)) (by rw [(kp_K Kp_cst A _).1.2.2.1]) ?_
      refine n_icmp_ge (tgt := 58) hx hb (by omega) (by omega) dX0_playRound_7 (by decide) (fun c_7 => ?_) (fun c_7 => by exfalso; omega)
      exact hQ dX0_playRound_58 (hP) hS
    | succ n2 ih2 =>
      intro k hi2 H locs hP hS ls hl
      have hD : va_D G (xw h cI (rK cst A k)) := va_D.to hD rfl
      refine lv_iload_n hx hb dX0_playRound_2 rfl (lv_at hl 1 rfl) ?_
      refine lv_aload_n hx hb dX0_playRound_3 rfl (lv_at hl 0 rfl) ?_
      refine va_get (D := D) (ci := 0) (v := .int (nI (sK (rK cst A k)))) (C := RX0) (T := TX0) (N := 12) hx hb hts hin0 hown hK hP 0 rfl rfl 2 (by decide) (hts (.fieldLink RX0 137 "VoiceParts" "voices" "I") (by decide +kernel)) (fun _ h9 => h9) rfl dX0_playRound_4 ?_
      refine n_top (y := nI (sK A)) (by rw [(kp_K Kp_cst A _).1.2.2.1]) ?_
      refine n_icmp_ge (tgt := 58) hx hb (by omega) (by omega) dX0_playRound_7 (by decide) (fun c_7 => by exfalso; omega) (fun c_7 => ?_)
      refine lv_iconst (v := nI 0) hx hb dX0_playRound_10 (by decide) ?_
      refine lv_istore_n (lv' := [(2, .int (nI 0)), (0, .ref (h 0)), (1, .int (nI k))]) hx hb dX0_playRound_11 rfl hl (by decide) rfl (fun ls hl => ?_)
      have lp12 : ∀ (n12 o : Nat), o + n12 = 2 → ∀ (H : Heap) (locs : List Loc), va_P D vwCl (xw h cI (rO cst (rK cst A k) k o)) H → va_S G s.heap H locs → ∀ (ls : Array Slot), lv_has ls 5 [(0, .ref (h 0)), (1, .int (nI k)), (2, .int (nI o))] → W p l e rmX0_playRound s m args below meth c H locs 0 0 Q (F0 m 12 ls []) := by
        intro n12
        induction n12 with
        | zero =>
          intro o hi12 H locs hP hS ls hl
          obtain rfl : 2 = o := by omega
          have hD : va_D G (xw h cI (rO cst (rK cst A k) k 2)) := va_D.to hD rfl
          refine lv_iload_n hx hb dX0_playRound_12 rfl (lv_at hl 2 rfl) ?_
          refine lv_iconst (v := nI 1) hx hb dX0_playRound_13 (by decide) ?_
          refine n_icmp_gt (tgt := 52) hx hb (by omega) (by omega) dX0_playRound_14 (by decide) (fun c_14 => ?_) (fun c_14 => by exfalso; omega)
          refine lv_iinc (v := nI (k + 1)) (lv' := [(1, .int (nI (k + 1))), (0, .ref (h 0)), (2, .int (nI 2))]) hx hb dX0_playRound_52 hl (k := 1) rfl (nI_inc _) (by decide) rfl (fun ls hl => ?_)
          refine lv_goto (tgt := 2) hx hb dX0_playRound_55 (by decide) ?_
          exact ih2 (k + 1) (by omega) H locs (hP) hS ls (lv_sub hl [1, 0] rfl)
        | succ n12 ih12 =>
          intro o hi12 H locs hP hS ls hl
          have hD : va_D G (xw h cI (rO cst (rK cst A k) k o)) := va_D.to hD rfl
          refine lv_iload_n hx hb dX0_playRound_12 rfl (lv_at hl 2 rfl) ?_
          refine lv_iconst (v := nI 1) hx hb dX0_playRound_13 (by decide) ?_
          refine n_icmp_gt (tgt := 52) hx hb (by omega) (by omega) dX0_playRound_14 (by decide) (fun c_14 => by exfalso; omega) (fun c_14 => ?_)
          refine lv_aload_n hx hb dX0_playRound_17 rfl (lv_at hl 0 rfl) ?_
          refine lv_iload_n hx hb dX0_playRound_18 rfl (lv_at hl 2 rfl) ?_
          refine ro_callV (As := [.int (nI o)]) (rest := []) ⟨hx, hb, hml, hown, hts⟩ (kX0_howManyOfN l D h cI (rO cst (rK cst A k) k o) (o) (by omega)) (cwV 1 hts gX0_playRound_X0_howManyOf rfl rfl rfl (by decide +kernel) ⟨Nat.le_of_ble_eq_true rfl, Nat.le_of_ble_eq_true rfl⟩) vB_bl (vB_at hP hK) (va_recv hK hP (ci := 0) (q0 := 0) rfl rfl) rfl hl.1 rfl (Nat.le_of_ble_eq_true rfl) dX0_playRound_19 ⟨Nat.zero_le _, Nat.zero_le _⟩ ?_
          refine n_top (y := nI (if o = 0 then sF (rK cst A k) else sT (rK cst A k))) (by rw [(kp_O Kp_cst (rK cst A k) k o).1.1, (kp_O Kp_cst (rK cst A k) k o).1.2.1]) ?_
          refine lv_istore_n (lv' := [(3, .int (nI (if o = 0 then sF (rK cst A k) else sT (rK cst A k)))), (0, .ref (h 0)), (1, .int (nI k)), (2, .int (nI o))]) hx hb dX0_playRound_22 rfl hl (by decide) rfl (fun ls hl => ?_)
          have hb9 : (if o = 0 then sF (rK cst A k) else sT (rK cst A k)) ≤ (if o = 0 then 6 else 8) := by rw [(kp_K Kp_cst A k).1.1, (kp_K Kp_cst A k).1.2.1]; split <;> omega
          have hb8 : (if o = 0 then sF (rK cst A k) else sT (rK cst A k)) ≤ 8 := by rw [(kp_K Kp_cst A k).1.1, (kp_K Kp_cst A k).1.2.1]; split <;> omega
          refine lv_iconst (v := nI 0) hx hb dX0_playRound_23 (by decide) ?_
          refine lv_istore (lv' := [(4, .int (nI 0)), (3, .int (nI (if o = 0 then sF (rK cst A k) else sT (rK cst A k)))), (0, .ref (h 0)), (1, .int (nI k)), (2, .int (nI o))]) hx hb dX0_playRound_24 hl (by decide) rfl (fun ls hl => ?_)
          have lp26 : ∀ (n26 i : Nat), i + n26 = (if o = 0 then sF (rK cst A k) else sT (rK cst A k)) → ∀ (H : Heap) (locs : List Loc), va_P D vwCl (xw h cI (rI cst (rO cst (rK cst A k) k o) k o i)) H → va_S G s.heap H locs → ∀ (ls : Array Slot), lv_has ls 5 [(0, .ref (h 0)), (1, .int (nI k)), (2, .int (nI o)), (3, .int (nI (if o = 0 then sF (rK cst A k) else sT (rK cst A k)))), (4, .int (nI i))] → W p l e rmX0_playRound s m args below meth c H locs 0 0 Q (F0 m 26 ls []) := by
            intro n26
            induction n26 with
            | zero =>
              intro i hi26 H locs hP hS ls hl
              obtain rfl : (if o = 0 then sF (rK cst A k) else sT (rK cst A k)) = i := by omega
              have hD : va_D G (xw h cI (rI cst (rO cst (rK cst A k) k o) k o (if o = 0 then sF (rK cst A k) else sT (rK cst A k)))) := va_D.to hD rfl
              refine lv_iload hx hb dX0_playRound_26 (lv_at hl 4 rfl) ?_
              refine lv_iload_n hx hb dX0_playRound_28 rfl (lv_at hl 3 rfl) ?_
              refine n_icmp_ge (tgt := 46) hx hb (by omega) (by omega) dX0_playRound_29 (by decide) (fun c_29 => ?_) (fun c_29 => by exfalso; omega)
              refine lv_iinc (v := nI (o + 1)) (lv' := [(2, .int (nI (o + 1))), (0, .ref (h 0)), (1, .int (nI k)), (3, .int (nI (if o = 0 then sF (rK cst A k) else sT (rK cst A k)))), (4, .int (nI (if o = 0 then sF (rK cst A k) else sT (rK cst A k))))]) hx hb dX0_playRound_46 hl (k := 2) rfl (nI_inc _) (by decide) rfl (fun ls hl => ?_)
              refine lv_goto (tgt := 12) hx hb dX0_playRound_49 (by decide) ?_
              exact ih12 (o + 1) (by omega) H locs (hP) hS ls (lv_sub hl [1, 2, 0] rfl)
            | succ n26 ih26 =>
              intro i hi26 H locs hP hS ls hl
              have hD : va_D G (xw h cI (rI cst (rO cst (rK cst A k) k o) k o i)) := va_D.to hD rfl
              refine lv_iload hx hb dX0_playRound_26 (lv_at hl 4 rfl) ?_
              refine lv_iload_n hx hb dX0_playRound_28 rfl (lv_at hl 3 rfl) ?_
              refine n_icmp_ge (tgt := 46) hx hb (by omega) (by omega) dX0_playRound_29 (by decide) (fun c_29 => by exfalso; omega) (fun c_29 => ?_)
              refine lv_aload_n hx hb dX0_playRound_32 rfl (lv_at hl 0 rfl) ?_
              refine lv_iload_n hx hb dX0_playRound_33 rfl (lv_at hl 1 rfl) ?_
              refine lv_iload_n hx hb dX0_playRound_34 rfl (lv_at hl 2 rfl) ?_
              refine lv_iload hx hb dX0_playRound_35 (lv_at hl 4 rfl) ?_
              refine mu_callV (As := [.int (nI k), .int (nI o), .int (nI i)]) (rest := []) ⟨hx, hb, hml, hown, hts⟩ (kX0_stepNumber l D h cI (rI cst (rO cst (rK cst A k) k o) k o i) ((kp_I Kp_cst (rO cst (rK cst A k) k o) k o i).2 ((kp_O Kp_cst (rK cst A k) k o).2 ((kp_K Kp_cst A k).2 hI))) (k) (o) (i) (by omega) (by omega) (Nat.lt_of_lt_of_le (by omega) hb9)) (cwV 3 hts gX0_playRound_X0_stepNumber rfl rfl rfl (by decide +kernel) ⟨Nat.le_of_ble_eq_true rfl, Nat.le_of_ble_eq_true rfl⟩) hP hK hD hS (va_recv hK hP (ci := 0) (q0 := 0) rfl rfl) rfl hl.1 rfl (Nat.le_of_ble_eq_true rfl) dX0_playRound_37 ⟨Nat.zero_le _, Nat.zero_le _⟩ (fun H locs hP hS _ => ?_)
              have hD : va_D G (xw h cI (cst (rI cst (rO cst (rK cst A k) k o) k o i) (k) (o) (i))) := va_D.to hD rfl
              refine W.eq (g2 := F0 m 40 ls []) rfl ?_
              refine lv_iinc (v := nI (i + 1)) (lv' := [(4, .int (nI (i + 1))), (0, .ref (h 0)), (1, .int (nI k)), (2, .int (nI o)), (3, .int (nI (if o = 0 then sF (rK cst A k) else sT (rK cst A k))))]) hx hb dX0_playRound_40 hl (k := 4) rfl (nI_inc _) (by decide) rfl (fun ls hl => ?_)
              refine lv_goto (tgt := 26) hx hb dX0_playRound_43 (by decide) ?_
              exact ih26 (i + 1) (by omega) H locs (hP) hS ls (lv_sub hl [1, 2, 3, 4, 0] rfl)
          exact lp26 ((if o = 0 then sF (rK cst A k) else sT (rK cst A k))) (0) (by omega) H locs (hP) hS ls (lv_sub hl [2, 3, 4, 1, 0] rfl)
      exact lp12 (2) (0) (by omega) H locs (hP) hS ls (lv_sub hl [1, 2, 0] rfl)
  exact lp2 (sK A) (0) (by omega) H locs (hP) hS ls (lv_sub hl [1, 0] rfl)
def rmX0_rounds : Room := { frames := 6, cells := 0, slots := 0, locals := 148 }
set_option maxHeartbeats 4000000 in
set_option maxRecDepth 100000 in
/-- rounds -/
theorem kX0_rounds (l : Launch) (D : va_G) (h : Nat → Nat) (cI : ClassId) (A : St) (hI : Inv A) (x : Int32) : MU l yX0_rounds wsX0_rounds rmX0_rounds [.ref (h 0), .int x] D [(cI, .int)] (xw h cI A) (xw h cI (nRn A x)) (some (.int (aRn A x))) := by
  refine mu_ofW (cc := cX0_rounds) (maxL := 3) (by decide) rfl (Nat.le_of_ble_eq_true rfl) ?_
  intro p e s m below meth c args Q G H locs hx hb hml hown hts hP hK hD hS hQ ls hl
  have hown : s.vm.findClass RX0 = some m.cls := hown
  have hin0 : ∀ w ∈ u_ws RX0 TX0 12, w ∈ wsX0_rounds := fun _ h => List.mem_cons_of_mem _ (List.mem_append_right _ h)
  have hl : lv_has ls 3 [(0, .ref (h 0)), (1, .int x)] := hl
  have hF := hI.F
  have hT := hI.T
  have hK3 := hI.K
  have hJ := hI.J
  have hZ := hI.Z
  refine lv_iload_n hx hb dX0_rounds_0 rfl (lv_at hl 1 rfl) ?_
  refine lv_iconst (v := nI 1) hx hb dX0_rounds_1 (by decide) ?_
  refine lv_bipush (v := nI 10) hx hb dX0_rounds_2 (by decide) ?_
  refine ro_callS (As := [.int x, .int (nI 1), .int (nI 10)]) (rest := []) ⟨hx, hb, hml, hown, hts⟩ (kX0_within l (x) (nI 1) (nI 10)) (va_cwS 3 hts gX0_rounds_X0_within rfl rfl rfl (by decide +kernel) ⟨Nat.le_of_ble_eq_true rfl, Nat.le_of_ble_eq_true rfl⟩) vT_bl vT_at rfl hl.1 rfl (Nat.le_of_ble_eq_true rfl) dX0_rounds_4 ⟨Nat.zero_le _, Nat.zero_le _⟩ ?_
  refine b_if_ne (tgt := 12) hx hb dX0_rounds_7 (by decide) (fun c_7 => ?_) (fun c_7 => ?_)
  · obtain ⟨u, hu, rfl⟩ := q1_of c_7 (by decide)
    refine lv_iconst (v := nI 0) hx hb dX0_rounds_12 (by decide) ?_
    refine lv_istore_n (lv' := [(2, .int (nI 0)), (0, .ref (h 0)), (1, .int (nI u))]) hx hb dX0_rounds_13 rfl hl (by decide) rfl (fun ls hl => ?_)
    have lp14 : ∀ (n14 r : Nat), r + n14 = u → ∀ (H : Heap) (locs : List Loc), va_P D vwCl (xw h cI (rN cst A r)) H → va_S G s.heap H locs → ∀ (ls : Array Slot), lv_has ls 3 [(0, .ref (h 0)), (1, .int (nI u)), (2, .int (nI r))] → W p l e rmX0_rounds s m args below meth c H locs 0 0 Q (F0 m 14 ls []) := by
      intro n14
      induction n14 with
      | zero =>
        intro r hi14 H locs hP hS ls hl
        obtain rfl : u = r := by omega
        have hD : va_D G (xw h cI (rN cst A u)) := va_D.to hD rfl
        refine lv_iload_n hx hb dX0_rounds_14 rfl (lv_at hl 2 rfl) ?_
        refine lv_iload_n hx hb dX0_rounds_15 rfl (lv_at hl 1 rfl) ?_
        refine n_icmp_ge (tgt := 29) hx hb (by omega) (by omega) dX0_rounds_16 (by decide) (fun c_16 => ?_) (fun c_16 => by exfalso; omega)
        refine lv_aload_n hx hb dX0_rounds_29 rfl (lv_at hl 0 rfl) ?_
        refine lv_dup hx hb dX0_rounds_30 rfl ?_
        refine va_get (D := D) (ci := 0) (v := .int (sN (rN cst A u))) (C := RX0) (T := TX0) (N := 12) hx hb hts hin0 hown hK hP 0 rfl rfl 10 (by decide) (hts (.fieldLink RX0 95 "VoiceParts" "roundsEver" "I") (by decide +kernel)) (fun _ h9 => h9) rfl dX0_rounds_31 ?_
        refine n_top (y := sN A) (by rw [(kp_N Kp_cst A u).1.2.2.2]) ?_
        refine lv_iload_n hx hb dX0_rounds_34 rfl (lv_at hl 1 rfl) ?_
        refine lv_iadd hx hb dX0_rounds_35 ?_
        refine va_put (D := D) (ci := 0) (v := .int ((sN A) + (nI u))) (ty := .int) (C := RX0) (T := TX0) (N := 12) hx hb hts hin0 tyX0 tyX0_ok nmX0 hown hK hP hD hS 0 rfl rfl 10 (by decide) (hts (.fieldLink RX0 95 "VoiceParts" "roundsEver" "I") (by decide +kernel)) (fun _ h9 => h9) rfl (by decide +kernel) rfl rfl (Nat.le_of_ble_eq_true rfl) dX0_rounds_36 (fun H locs hP hD hS => ?_)
        obtain ⟨A1, eA1⟩ : ∃ z : St, z = uN (rN cst A u) ((sN A) + (nI u)) := ⟨_, rfl⟩
        have hP : va_P D vwCl (xw h cI A1) H := by rw [eA1]; exact hP
        have hD : va_D G (xw h cI A1) := va_D.to hD rfl
        have hIA1 : Inv A1 := by rw [eA1]; exact Inv.uN ((kp_N Kp_cst A u).2 hI) _
        refine lv_aload_n hx hb dX0_rounds_39 rfl (lv_at hl 0 rfl) ?_
        refine ro_callV (As := []) (rest := []) ⟨hx, hb, hml, hown, hts⟩ (kX0_miss l D h cI A1 hIA1) (cwV 0 hts gX0_rounds_X0_miss rfl rfl rfl (by decide +kernel) ⟨Nat.le_of_ble_eq_true rfl, Nat.le_of_ble_eq_true rfl⟩) vB_bl (vB_at hP hK) (va_recv hK hP (ci := 0) (q0 := 0) rfl rfl) rfl hl.1 rfl (Nat.le_of_ble_eq_true rfl) dX0_rounds_40 ⟨Nat.zero_le _, Nat.zero_le _⟩ ?_
        exact hQ dX0_rounds_43 (by unfold aRn; rw [if_pos c_7, cl_nI (n := u) (by omega), ← eA1]) (by unfold nRn; rw [if_pos c_7, cl_nI (n := u) (by omega), ← eA1]; exact hP) hS
      | succ n14 ih14 =>
        intro r hi14 H locs hP hS ls hl
        have hD : va_D G (xw h cI (rN cst A r)) := va_D.to hD rfl
        refine lv_iload_n hx hb dX0_rounds_14 rfl (lv_at hl 2 rfl) ?_
        refine lv_iload_n hx hb dX0_rounds_15 rfl (lv_at hl 1 rfl) ?_
        refine n_icmp_ge (tgt := 29) hx hb (by omega) (by omega) dX0_rounds_16 (by decide) (fun c_16 => by exfalso; omega) (fun c_16 => ?_)
        refine lv_aload_n hx hb dX0_rounds_19 rfl (lv_at hl 0 rfl) ?_
        refine mu_callV (As := []) (rest := []) ⟨hx, hb, hml, hown, hts⟩ (kX0_playRound l D h cI (rN cst A r) ((kp_N Kp_cst A r).2 hI)) (cwV 0 hts gX0_rounds_X0_playRound rfl rfl rfl (by decide +kernel) ⟨Nat.le_of_ble_eq_true rfl, Nat.le_of_ble_eq_true rfl⟩) hP hK hD hS (va_recv hK hP (ci := 0) (q0 := 0) rfl rfl) rfl hl.1 rfl (Nat.le_of_ble_eq_true rfl) dX0_rounds_20 ⟨Nat.zero_le _, Nat.zero_le _⟩ (fun H locs hP hS _ => ?_)
        have hD : va_D G (xw h cI (rK cst (rN cst A r) (sK (rN cst A r)))) := va_D.to hD rfl
        refine W.eq (g2 := F0 m 23 ls []) rfl ?_
        refine lv_iinc (v := nI (r + 1)) (lv' := [(2, .int (nI (r + 1))), (0, .ref (h 0)), (1, .int (nI u))]) hx hb dX0_rounds_23 hl (k := 2) rfl (nI_inc _) (by decide) rfl (fun ls hl => ?_)
        refine lv_goto (tgt := 14) hx hb dX0_rounds_26 (by decide) ?_
        exact ih14 (r + 1) (by omega) H locs (by have z := hP; rw [(kp_N Kp_cst A r).1.2.2.1] at z; exact z) hS ls (lv_sub hl [1, 2, 0] rfl)
    exact lp14 (u) (0) (by omega) H locs (hP) hS ls (lv_sub hl [1, 2, 0] rfl)
  · refine lv_iconst (v := (-1)) hx hb dX0_rounds_10 (by decide) ?_
    exact hQ dX0_rounds_11 (by unfold aRn; rw [if_neg c_7]) (by unfold nRn; rw [if_neg c_7]; exact hP) hS
