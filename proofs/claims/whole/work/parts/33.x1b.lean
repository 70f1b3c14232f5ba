def rmX1_begins : Room := { frames := 0, cells := 0, slots := 0, locals := 0 }
set_option maxHeartbeats 4000000 in
set_option maxRecDepth 100000 in
theorem kX1_begins (l : Launch) (D : va_G) (h : Nat → Nat) (cI cZ : ClassId) (A : St) (M : Nat → Int32) (f t k : Nat) : MU l yX1_begins wsX1_begins rmX1_begins [.ref (h 0), .int (nI f), .int (nI t), .int (nI k)] D [(cI, .int), (cZ, .boolean)] (mw h cI cZ A M) (mw h cI cZ (fresh A f t k) M) none := by
  refine mu_ofWv (cc := cX1_begins) (maxL := 5) (by decide) rfl (Nat.le_of_ble_eq_true rfl) ?_
  intro p e s m below meth c args Q G H locs hx hb hml hown hts hP hK hD hS hQ ls hl
  have hown : s.vm.findClass RX1 = some m.cls := hown
  have hin0 : ∀ w ∈ u_ws RX1 TX1 13, w ∈ wsX1_begins := fun _ h => List.mem_cons_of_mem _ (List.mem_append_right _ h)
  have hl : lv_has ls 5 [(0, .ref (h 0)), (1, .int (nI f)), (2, .int (nI t)), (3, .int (nI k))] := hl
  refine lv_aload_n hx hb dX1_begins_0 rfl (lv_at hl 0 rfl) ?_
  refine lv_iload_n hx hb dX1_begins_1 rfl (lv_at hl 1 rfl) ?_
  refine va_put (D := D) (ci := 1) (v := .int (nI f)) (ty := .int) (C := RX1) (T := TX1) (N := 13) hx hb hts hin0 tyX1 tyX1_ok nmX1 hown hK hP hD hS 0 rfl rfl 0 (by decide) (hts (.fieldLink RX1 36 "VoicePartsModel" "tones" "I") (by decide +kernel)) (fun _ h9 => h9) rfl (by decide +kernel) rfl rfl (Nat.le_of_ble_eq_true rfl) dX1_begins_2 (fun H locs hP hD hS => ?_)
  obtain ⟨A1, eA1⟩ : ∃ z : St, z = uF A (f) := ⟨_, rfl⟩
  have hP : va_P D vwCl (mw h cI cZ A1 M) H := by rw [eA1]; exact hP
  have hD : va_D G (mw h cI cZ A1 M) := va_D.to hD rfl
  refine lv_aload_n hx hb dX1_begins_5 rfl (lv_at hl 0 rfl) ?_
  refine lv_iload_n hx hb dX1_begins_6 rfl (lv_at hl 2 rfl) ?_
  refine va_put (D := D) (ci := 1) (v := .int (nI t)) (ty := .int) (C := RX1) (T := TX1) (N := 13) hx hb hts hin0 tyX1 tyX1_ok nmX1 hown hK hP hD hS 0 rfl rfl 1 (by decide) (hts (.fieldLink RX1 40 "VoicePartsModel" "times" "I") (by decide +kernel)) (fun _ h9 => h9) rfl (by decide +kernel) rfl rfl (Nat.le_of_ble_eq_true rfl) dX1_begins_7 (fun H locs hP hD hS => ?_)
  obtain ⟨A2, eA2⟩ : ∃ z : St, z = uT A1 (t) := ⟨_, rfl⟩
  have hP : va_P D vwCl (mw h cI cZ A2 M) H := by rw [eA2]; exact hP
  have hD : va_D G (mw h cI cZ A2 M) := va_D.to hD rfl
  refine lv_aload_n hx hb dX1_begins_10 rfl (lv_at hl 0 rfl) ?_
  refine lv_iload_n hx hb dX1_begins_11 rfl (lv_at hl 3 rfl) ?_
  refine va_put (D := D) (ci := 1) (v := .int (nI k)) (ty := .int) (C := RX1) (T := TX1) (N := 13) hx hb hts hin0 tyX1 tyX1_ok nmX1 hown hK hP hD hS 0 rfl rfl 2 (by decide) (hts (.fieldLink RX1 43 "VoicePartsModel" "voices" "I") (by decide +kernel)) (fun _ h9 => h9) rfl (by decide +kernel) rfl rfl (Nat.le_of_ble_eq_true rfl) dX1_begins_12 (fun H locs hP hD hS => ?_)
  obtain ⟨A3, eA3⟩ : ∃ z : St, z = uK A2 (k) := ⟨_, rfl⟩
  have hP : va_P D vwCl (mw h cI cZ A3 M) H := by rw [eA3]; exact hP
  have hD : va_D G (mw h cI cZ A3 M) := va_D.to hD rfl
  refine lv_iconst (v := nI 0) hx hb dX1_begins_15 (by decide) ?_
  refine lv_istore (lv' := [(4, .int (nI 0)), (0, .ref (h 0)), (1, .int (nI f)), (2, .int (nI t)), (3, .int (nI k))]) hx hb dX1_begins_16 hl (by decide) rfl (fun ls hl => ?_)
  have lp18 : ∀ (n18 i : Nat), i + n18 = 48 → ∀ (H : Heap) (locs : List Loc), va_P D vwCl (mwR h cI cZ A3 (fil (nI 0) (sB A3) i) (fil (nI 1) (fun j => sV A3 (j / 16) (j % 16)) i) (fil (nI 0) (fun j => if sX A3 (j / 16) (j % 16) then 1 else 0) i) (sE A3) M) H → va_S G s.heap H locs → ∀ (ls : Array Slot), lv_has ls 5 [(0, .ref (h 0)), (1, .int (nI f)), (2, .int (nI t)), (3, .int (nI k)), (4, .int (nI i))] → W p l e rmX1_begins s m args below meth c H locs 0 0 Q (F0 m 18 ls []) := by
    intro n18
    induction n18 with
    | zero =>
      intro i hi18 H locs hP hS ls hl
      obtain rfl : 48 = i := by omega
      have hD : va_D G (mwR h cI cZ A3 (fil (nI 0) (sB A3) 48) (fil (nI 1) (fun j => sV A3 (j / 16) (j % 16)) 48) (fil (nI 0) (fun j => if sX A3 (j / 16) (j % 16) then 1 else 0) 48) (sE A3) M) := va_D.to hD rfl
      refine lv_iload hx hb dX1_begins_18 (lv_at hl 4 rfl) ?_
      refine lv_bipush (v := nI 48) hx hb dX1_begins_20 (by decide) ?_
      refine n_icmp_ge (tgt := 55) hx hb (by omega) (by omega) dX1_begins_22 (by decide) (fun c_22 => ?_) (fun c_22 => by exfalso; omega)
      refine lv_iconst (v := nI 0) hx hb dX1_begins_55 (by decide) ?_
      refine lv_istore (lv' := [(4, .int (nI 0)), (0, .ref (h 0)), (1, .int (nI f)), (2, .int (nI t)), (3, .int (nI k))]) hx hb dX1_begins_56 hl (by decide) rfl (fun ls hl => ?_)
      have lp58 : ∀ (n58 i : Nat), i + n58 = 144 → ∀ (H : Heap) (locs : List Loc), va_P D vwCl (mwR h cI cZ A3 (fil (nI 0) (sB A3) 48) (fil (nI 1) (fun j => sV A3 (j / 16) (j % 16)) 48) (fil (nI 0) (fun j => if sX A3 (j / 16) (j % 16) then 1 else 0) 48) (fil (nI 0) (sE A3) i) M) H → va_S G s.heap H locs → ∀ (ls : Array Slot), lv_has ls 5 [(0, .ref (h 0)), (1, .int (nI f)), (2, .int (nI t)), (3, .int (nI k)), (4, .int (nI i))] → W p l e rmX1_begins s m args below meth c H locs 0 0 Q (F0 m 58 ls []) := by
        intro n58
        induction n58 with
        | zero =>
          intro i hi58 H locs hP hS ls hl
          obtain rfl : 144 = i := by omega
          have hD : va_D G (mwR h cI cZ A3 (fil (nI 0) (sB A3) 48) (fil (nI 1) (fun j => sV A3 (j / 16) (j % 16)) 48) (fil (nI 0) (fun j => if sX A3 (j / 16) (j % 16) then 1 else 0) 48) (fil (nI 0) (sE A3) 144) M) := va_D.to hD rfl
          refine lv_iload hx hb dX1_begins_58 (lv_at hl 4 rfl) ?_
          refine lv_sipush (v := nI 144) hx hb dX1_begins_60 (by decide) ?_
          refine n_icmp_ge (tgt := 80) hx hb (by omega) (by omega) dX1_begins_63 (by decide) (fun c_63 => ?_) (fun c_63 => by exfalso; omega)
          exact hQ dX1_begins_80 (by have z := hP; rw [eA3, eA2, eA1] at z; exact mwR_fin z) hS
        | succ n58 ih58 =>
          intro i hi58 H locs hP hS ls hl
          have hD : va_D G (mwR h cI cZ A3 (fil (nI 0) (sB A3) 48) (fil (nI 1) (fun j => sV A3 (j / 16) (j % 16)) 48) (fil (nI 0) (fun j => if sX A3 (j / 16) (j % 16) then 1 else 0) 48) (fil (nI 0) (sE A3) i) M) := va_D.to hD rfl
          refine lv_iload hx hb dX1_begins_58 (lv_at hl 4 rfl) ?_
          refine lv_sipush (v := nI 144) hx hb dX1_begins_60 (by decide) ?_
          refine n_icmp_ge (tgt := 80) hx hb (by omega) (by omega) dX1_begins_63 (by decide) (fun c_63 => by exfalso; omega) (fun c_63 => ?_)
          refine lv_aload_n hx hb dX1_begins_66 rfl (lv_at hl 0 rfl) ?_
          refine va_get (D := D) (ci := 1) (v := .ref (h 4)) (C := RX1) (T := TX1) (N := 13) hx hb hts hin0 hown hK hP 0 rfl rfl 6 (by decide) (hts (.fieldLink RX1 20 "VoicePartsModel" "truth" "[I") (by decide +kernel)) (fun _ h9 => h9) rfl dX1_begins_67 ?_
          refine lv_iload hx hb dX1_begins_70 (lv_at hl 4 rfl) ?_
          refine lv_iconst (v := nI 0) hx hb dX1_begins_72 (by decide) ?_
          refine n_iast hx hb hK hP hD hS 4 0 rfl rfl (by omega) (by decide) dX1_begins_73 (fun H locs hP hD hS => ?_)
          have hP : va_P D vwCl (mwR h cI cZ A3 (fil (nI 0) (sB A3) 48) (fil (nI 1) (fun j => sV A3 (j / 16) (j % 16)) 48) (fil (nI 0) (fun j => if sX A3 (j / 16) (j % 16) then 1 else 0) 48) (fil (nI 0) (sE A3) (i + 1)) M) H := by have z := hP; rw [fil_s] at z; exact z
          have hD : va_D G (mwR h cI cZ A3 (fil (nI 0) (sB A3) 48) (fil (nI 1) (fun j => sV A3 (j / 16) (j % 16)) 48) (fil (nI 0) (fun j => if sX A3 (j / 16) (j % 16) then 1 else 0) 48) (fil (nI 0) (sE A3) (i + 1)) M) := va_D.to hD rfl
          refine lv_iinc (v := nI (i + 1)) (lv' := [(4, .int (nI (i + 1))), (0, .ref (h 0)), (1, .int (nI f)), (2, .int (nI t)), (3, .int (nI k))]) hx hb dX1_begins_74 hl (k := 4) rfl (nI_inc _) (by decide) rfl (fun ls hl => ?_)
          refine lv_goto (tgt := 58) hx hb dX1_begins_77 (by decide) ?_
          exact ih58 (i + 1) (by omega) H locs (hP) hS ls (lv_sub hl [1, 2, 3, 4, 0] rfl)
      exact lp58 (144) (0) (by omega) H locs (by rw [fil_0]; exact hP) hS ls (lv_sub hl [1, 2, 3, 4, 0] rfl)
    | succ n18 ih18 =>
      intro i hi18 H locs hP hS ls hl
      have hD : va_D G (mwR h cI cZ A3 (fil (nI 0) (sB A3) i) (fil (nI 1) (fun j => sV A3 (j / 16) (j % 16)) i) (fil (nI 0) (fun j => if sX A3 (j / 16) (j % 16) then 1 else 0) i) (sE A3) M) := va_D.to hD rfl
      refine lv_iload hx hb dX1_begins_18 (lv_at hl 4 rfl) ?_
      refine lv_bipush (v := nI 48) hx hb dX1_begins_20 (by decide) ?_
      refine n_icmp_ge (tgt := 55) hx hb (by omega) (by omega) dX1_begins_22 (by decide) (fun c_22 => by exfalso; omega) (fun c_22 => ?_)
      refine lv_aload_n hx hb dX1_begins_25 rfl (lv_at hl 0 rfl) ?_
      refine va_get (D := D) (ci := 1) (v := .ref (h 1)) (C := RX1) (T := TX1) (N := 13) hx hb hts hin0 hown hK hP 0 rfl rfl 3 (by decide) (hts (.fieldLink RX1 7 "VoicePartsModel" "board" "[I") (by decide +kernel)) (fun _ h9 => h9) rfl dX1_begins_26 ?_
      refine lv_iload hx hb dX1_begins_29 (lv_at hl 4 rfl) ?_
      refine lv_iconst (v := nI 0) hx hb dX1_begins_31 (by decide) ?_
      refine n_iast hx hb hK hP hD hS 1 0 rfl rfl (by omega) (by decide) dX1_begins_32 (fun H locs hP hD hS => ?_)
      have hP : va_P D vwCl (mwR h cI cZ A3 (fil (nI 0) (sB A3) (i + 1)) (fil (nI 1) (fun j => sV A3 (j / 16) (j % 16)) i) (fil (nI 0) (fun j => if sX A3 (j / 16) (j % 16) then 1 else 0) i) (sE A3) M) H := by have z := hP; rw [fil_s] at z; exact z
      have hD : va_D G (mwR h cI cZ A3 (fil (nI 0) (sB A3) (i + 1)) (fil (nI 1) (fun j => sV A3 (j / 16) (j % 16)) i) (fil (nI 0) (fun j => if sX A3 (j / 16) (j % 16) then 1 else 0) i) (sE A3) M) := va_D.to hD rfl
      refine lv_aload_n hx hb dX1_begins_33 rfl (lv_at hl 0 rfl) ?_
      refine va_get (D := D) (ci := 1) (v := .ref (h 2)) (C := RX1) (T := TX1) (N := 13) hx hb hts hin0 hown hK hP 0 rfl rfl 4 (by decide) (hts (.fieldLink RX1 13 "VoicePartsModel" "number" "[I") (by decide +kernel)) (fun _ h9 => h9) rfl dX1_begins_34 ?_
      refine lv_iload hx hb dX1_begins_37 (lv_at hl 4 rfl) ?_
      refine lv_iconst (v := nI 1) hx hb dX1_begins_39 (by decide) ?_
      refine n_iast hx hb hK hP hD hS 2 0 rfl rfl (by omega) (by decide) dX1_begins_40 (fun H locs hP hD hS => ?_)
      have hP : va_P D vwCl (mwR h cI cZ A3 (fil (nI 0) (sB A3) (i + 1)) (fil (nI 1) (fun j => sV A3 (j / 16) (j % 16)) (i + 1)) (fil (nI 0) (fun j => if sX A3 (j / 16) (j % 16) then 1 else 0) i) (sE A3) M) H := by have z := hP; rw [fil_s] at z; exact z
      have hD : va_D G (mwR h cI cZ A3 (fil (nI 0) (sB A3) (i + 1)) (fil (nI 1) (fun j => sV A3 (j / 16) (j % 16)) (i + 1)) (fil (nI 0) (fun j => if sX A3 (j / 16) (j % 16) then 1 else 0) i) (sE A3) M) := va_D.to hD rfl
      refine lv_aload_n hx hb dX1_begins_41 rfl (lv_at hl 0 rfl) ?_
      refine va_get (D := D) (ci := 1) (v := .ref (h 3)) (C := RX1) (T := TX1) (N := 13) hx hb hts hin0 hown hK hP 0 rfl rfl 5 (by decide) (hts (.fieldLink RX1 16 "VoicePartsModel" "isBarred" "[Z") (by decide +kernel)) (fun _ h9 => h9) rfl dX1_begins_42 ?_
      refine lv_iload hx hb dX1_begins_45 (lv_at hl 4 rfl) ?_
      refine lv_iconst (v := nI 0) hx hb dX1_begins_47 (by decide) ?_
      refine n_zast hx hb hK hP hD hS 3 1 rfl rfl (by omega) (by decide) (by decide) dX1_begins_48 (fun H locs hP hD hS => ?_)
      have hP : va_P D vwCl (mwR h cI cZ A3 (fil (nI 0) (sB A3) (i + 1)) (fil (nI 1) (fun j => sV A3 (j / 16) (j % 16)) (i + 1)) (fil (nI 0) (fun j => if sX A3 (j / 16) (j % 16) then 1 else 0) (i + 1)) (sE A3) M) H := by have z := hP; rw [fil_s] at z; exact z
      have hD : va_D G (mwR h cI cZ A3 (fil (nI 0) (sB A3) (i + 1)) (fil (nI 1) (fun j => sV A3 (j / 16) (j % 16)) (i + 1)) (fil (nI 0) (fun j => if sX A3 (j / 16) (j % 16) then 1 else 0) (i + 1)) (sE A3) M) := va_D.to hD rfl
      refine lv_iinc (v := nI (i + 1)) (lv' := [(4, .int (nI (i + 1))), (0, .ref (h 0)), (1, .int (nI f)), (2, .int (nI t)), (3, .int (nI k))]) hx hb dX1_begins_49 hl (k := 4) rfl (nI_inc _) (by decide) rfl (fun ls hl => ?_)
      refine lv_goto (tgt := 18) hx hb dX1_begins_52 (by decide) ?_
      exact ih18 (i + 1) (by omega) H locs (hP) hS ls (lv_sub hl [1, 2, 3, 4, 0] rfl)
  exact lp18 (48) (0) (by omega) H locs (by rw [fil_0, fil_0, fil_0]; exact hP) hS ls (lv_sub hl [1, 2, 3, 4, 0] rfl)
def rmX1_board : Room := { frames := 1, cells := 0, slots := 0, locals := 24 }
set_option maxHeartbeats 4000000 in
set_option maxRecDepth 100000 in
/-- board -/
theorem kX1_board (l : Launch) (D : va_G) (h : Nat → Nat) (cI cZ : ClassId) (A : St) (M : Nat → Int32) (hI : Inv A) (x y z : Int32) : MU l yX1_board wsX1_board rmX1_board [.ref (h 0), .int x, .int y, .int z] D [(cI, .int), (cZ, .boolean)] (mw h cI cZ A M) (mw h cI cZ (nBd A x y z) M) (some (.int (aBd x y z))) := by
  refine mu_ofW (cc := cX1_board) (maxL := 4) (by decide) rfl (Nat.le_of_ble_eq_true rfl) ?_
  intro p e s m below meth c args Q G H locs hx hb hml hown hts hP hK hD hS hQ ls hl
  have hown : s.vm.findClass RX1 = some m.cls := hown
  have hin0 : ∀ w ∈ u_ws RX1 TX1 13, w ∈ wsX1_board := fun _ h => List.mem_cons_of_mem _ (List.mem_append_right _ h)
  have hl : lv_has ls 4 [(0, .ref (h 0)), (1, .int x), (2, .int y), (3, .int z)] := hl
  have hF := hI.F
  have hT := hI.T
  have hK3 := hI.K
  have hJ := hI.J
  have hZ := hI.Z
  refine lv_iload_n hx hb dX1_board_0 rfl (lv_at hl 1 rfl) ?_
  refine lv_iconst (v := nI 1) hx hb dX1_board_1 (by decide) ?_
  refine lv_bipush (v := nI 6) hx hb dX1_board_2 (by decide) ?_
  refine ro_callS (As := [.int x, .int (nI 1), .int (nI 6)]) (rest := []) ⟨hx, hb, hml, hown, hts⟩ (kX1_in l (x) (nI 1) (nI 6)) (va_cwS 3 hts gX1_board_X1_in rfl rfl rfl (by decide +kernel) ⟨Nat.le_of_ble_eq_true rfl, Nat.le_of_ble_eq_true rfl⟩) vT_bl vT_at rfl hl.1 rfl (Nat.le_of_ble_eq_true rfl) dX1_board_4 ⟨Nat.zero_le _, Nat.zero_le _⟩ ?_
  refine b_if_eq (tgt := 29) hx hb dX1_board_7 (by decide) (fun c_7 => ?_) (fun c_7 => ?_)
  · refine lv_iconst (v := (-1)) hx hb dX1_board_29 (by decide) ?_
    exact hQ dX1_board_30 (by unfold aBd; rw [if_neg (fun q => c_7 q.1)]) (by unfold nBd; rw [if_neg (fun q => c_7 q.1)]; exact hP) hS
  · refine lv_iload_n hx hb dX1_board_10 rfl (lv_at hl 2 rfl) ?_
    refine lv_iconst (v := nI 1) hx hb dX1_board_11 (by decide) ?_
    refine lv_bipush (v := nI 8) hx hb dX1_board_12 (by decide) ?_
    refine ro_callS (As := [.int y, .int (nI 1), .int (nI 8)]) (rest := []) ⟨hx, hb, hml, hown, hts⟩ (kX1_in l (y) (nI 1) (nI 8)) (va_cwS 3 hts gX1_board_X1_in rfl rfl rfl (by decide +kernel) ⟨Nat.le_of_ble_eq_true rfl, Nat.le_of_ble_eq_true rfl⟩) vT_bl vT_at rfl hl.1 rfl (Nat.le_of_ble_eq_true rfl) dX1_board_14 ⟨Nat.zero_le _, Nat.zero_le _⟩ ?_
    refine b_if_eq (tgt := 29) hx hb dX1_board_17 (by decide) (fun c_17 => ?_) (fun c_17 => ?_)
    · refine lv_iconst (v := (-1)) hx hb dX1_board_29 (by decide) ?_
      exact hQ dX1_board_30 (by unfold aBd; rw [if_neg (fun q => c_17 q.2.1)]) (by unfold nBd; rw [if_neg (fun q => c_17 q.2.1)]; exact hP) hS
    · refine lv_iload_n hx hb dX1_board_20 rfl (lv_at hl 3 rfl) ?_
      refine lv_iconst (v := nI 1) hx hb dX1_board_21 (by decide) ?_
      refine lv_iconst (v := nI 3) hx hb dX1_board_22 (by decide) ?_
      refine ro_callS (As := [.int z, .int (nI 1), .int (nI 3)]) (rest := []) ⟨hx, hb, hml, hown, hts⟩ (kX1_in l (z) (nI 1) (nI 3)) (va_cwS 3 hts gX1_board_X1_in rfl rfl rfl (by decide +kernel) ⟨Nat.le_of_ble_eq_true rfl, Nat.le_of_ble_eq_true rfl⟩) vT_bl vT_at rfl hl.1 rfl (Nat.le_of_ble_eq_true rfl) dX1_board_23 ⟨Nat.zero_le _, Nat.zero_le _⟩ ?_
      refine b_if_ne (tgt := 31) hx hb dX1_board_26 (by decide) (fun c_26 => ?_) (fun c_26 => ?_)
      · obtain ⟨f, hf, rfl⟩ := q1_of c_7 (by decide)
        obtain ⟨t, ht, rfl⟩ := q1_of c_17 (by decide)
        obtain ⟨k, hk, rfl⟩ := q1_of c_26 (by decide)
        refine lv_aload_n hx hb dX1_board_31 rfl (lv_at hl 0 rfl) ?_
        refine lv_iload_n hx hb dX1_board_32 rfl (lv_at hl 1 rfl) ?_
        refine lv_iload_n hx hb dX1_board_33 rfl (lv_at hl 2 rfl) ?_
        refine lv_iload_n hx hb dX1_board_34 rfl (lv_at hl 3 rfl) ?_
        refine mu_callV (As := [.int (nI f), .int (nI t), .int (nI k)]) (rest := []) ⟨hx, hb, hml, hown, hts⟩ (kX1_begins l D h cI cZ A M (f) (t) (k)) (cwV 3 hts gX1_board_X1_begins rfl rfl rfl (by decide +kernel) ⟨Nat.le_of_ble_eq_true rfl, Nat.le_of_ble_eq_true rfl⟩) hP hK hD hS (va_recv hK hP (ci := 1) (q0 := 0) rfl rfl) rfl hl.1 rfl (Nat.le_of_ble_eq_true rfl) dX1_board_35 ⟨Nat.zero_le _, Nat.zero_le _⟩ (fun H locs hP hS _ => ?_)
        have hD : va_D G (mw h cI cZ (fresh A (f) (t) (k)) M) := va_D.to hD rfl
        refine W.eq (g2 := F0 m 38 ls []) rfl ?_
        refine lv_iload_n hx hb dX1_board_38 rfl (lv_at hl 1 rfl) ?_
        refine lv_iload_n hx hb dX1_board_39 rfl (lv_at hl 2 rfl) ?_
        refine n_imul hx hb dX1_board_40 ?_
        exact hQ dX1_board_41 (by unfold aBd; rw [if_pos ⟨c_7, c_17, c_26⟩, cl_nI (n := f) (by omega), cl_nI (n := t) (by omega)]) (by unfold nBd; rw [if_pos ⟨c_7, c_17, c_26⟩, cl_nI (n := f) (by omega), cl_nI (n := t) (by omega), cl_nI (n := k) (by omega)]; exact hP) hS
      · refine lv_iconst (v := (-1)) hx hb dX1_board_29 (by decide) ?_
        exact hQ dX1_board_30 (by unfold aBd; rw [if_neg (fun q => c_26 q.2.2)]) (by unfold nBd; rw [if_neg (fun q => c_26 q.2.2)]; exact hP) hS
def rmX1_set : Room := { frames := 2, cells := 0, slots := 0, locals := 44 }
set_option maxHeartbeats 4000000 in
set_option maxRecDepth 100000 in
/-- set -/
theorem kX1_set (l : Launch) (D : va_G) (h : Nat → Nat) (cI cZ : ClassId) (A : St) (M : Nat → Int32) (hI : Inv A) (x y v : Int32) : MU l yX1_set wsX1_set rmX1_set [.ref (h 0), .int x, .int y, .int v] D [(cI, .int), (cZ, .boolean)] (mw h cI cZ A M) (mw h cI cZ (nSet A x y v) M) (some (.int (aSet A x y v))) := by
  refine mu_ofW (cc := cX1_set) (maxL := 5) (by decide) rfl (Nat.le_of_ble_eq_true rfl) ?_
  intro p e s m below meth c args Q G H locs hx hb hml hown hts hP hK hD hS hQ ls hl
  have hown : s.vm.findClass RX1 = some m.cls := hown
  have hin0 : ∀ w ∈ u_ws RX1 TX1 13, w ∈ wsX1_set := fun _ h => List.mem_cons_of_mem _ (List.mem_append_right _ h)
  have hl : lv_has ls 5 [(0, .ref (h 0)), (1, .int x), (2, .int y), (3, .int v)] := hl
  have hF := hI.F
  have hT := hI.T
  have hK3 := hI.K
  have hJ := hI.J
  have hZ := hI.Z
  refine lv_aload_n hx hb dX1_set_0 rfl (lv_at hl 0 rfl) ?_
  refine lv_iload_n hx hb dX1_set_1 rfl (lv_at hl 1 rfl) ?_
  refine lv_iload_n hx hb dX1_set_2 rfl (lv_at hl 2 rfl) ?_
  refine ro_callV (As := [.int x, .int y]) (rest := []) ⟨hx, hb, hml, hown, hts⟩ (kX1_isPlace l D h cI cZ A M  hI (x) (y)) (cwV 2 hts gX1_set_X1_isPlace rfl rfl rfl (by decide +kernel) ⟨Nat.le_of_ble_eq_true rfl, Nat.le_of_ble_eq_true rfl⟩) vB_bl (vB_at hP hK) (va_recv hK hP (ci := 1) (q0 := 0) rfl rfl) rfl hl.1 rfl (Nat.le_of_ble_eq_true rfl) dX1_set_3 ⟨Nat.zero_le _, Nat.zero_le _⟩ ?_
  refine b_if_eq (tgt := 19) hx hb dX1_set_6 (by decide) (fun c_6 => ?_) (fun c_6 => ?_)
  · refine lv_iconst (v := (-1)) hx hb dX1_set_19 (by decide) ?_
    exact hQ dX1_set_20 (by unfold aSet; rw [if_neg (fun q => c_6 q.1)]) (by unfold nSet; rw [if_neg (fun q => c_6 q.1)]; exact hP) hS
  · refine lv_iload_n hx hb dX1_set_9 rfl (lv_at hl 3 rfl) ?_
    refine lv_iconst (v := nI 0) hx hb dX1_set_10 (by decide) ?_
    refine lv_bipush (v := nI 99) hx hb dX1_set_11 (by decide) ?_
    refine ro_callS (As := [.int v, .int (nI 0), .int (nI 99)]) (rest := []) ⟨hx, hb, hml, hown, hts⟩ (kX1_in l (v) (nI 0) (nI 99)) (va_cwS 3 hts gX1_set_X1_in rfl rfl rfl (by decide +kernel) ⟨Nat.le_of_ble_eq_true rfl, Nat.le_of_ble_eq_true rfl⟩) vT_bl vT_at rfl hl.1 rfl (Nat.le_of_ble_eq_true rfl) dX1_set_13 ⟨Nat.zero_le _, Nat.zero_le _⟩ ?_
    refine b_if_ne (tgt := 21) hx hb dX1_set_16 (by decide) (fun c_16 => ?_) (fun c_16 => ?_)
    · obtain ⟨f, hf, rfl⟩ := iN_of (n := sF A) c_6.1 (by omega) (by omega)
      obtain ⟨t, ht, rfl⟩ := iN_of (n := sT A) c_6.2 (by omega) (by omega)
      refine lv_aload_n hx hb dX1_set_21 rfl (lv_at hl 0 rfl) ?_
      refine va_get (D := D) (ci := 1) (v := .ref (h 1)) (C := RX1) (T := TX1) (N := 13) hx hb hts hin0 hown hK hP 0 rfl rfl 3 (by decide) (hts (.fieldLink RX1 7 "VoicePartsModel" "board" "[I") (by decide +kernel)) (fun _ h9 => h9) rfl dX1_set_22 ?_
      refine lv_bipush (v := nI 8) hx hb dX1_set_25 (by decide) ?_
      refine lv_iload_n hx hb dX1_set_27 rfl (lv_at hl 1 rfl) ?_
      refine n_imulc hx hb dX1_set_28 ?_
      refine lv_iload_n hx hb dX1_set_29 rfl (lv_at hl 2 rfl) ?_
      refine n_iadd hx hb dX1_set_30 ?_
      refine n_iald hx hb hK hP 1 0 rfl rfl (by omega) (by decide) dX1_set_31 ?_
      refine lv_istore (lv' := [(4, .int (sB A (f * 8 + t))), (0, .ref (h 0)), (1, .int (nI f)), (2, .int (nI t)), (3, .int v)]) hx hb dX1_set_32 hl (by decide) rfl (fun ls hl => ?_)
      refine lv_aload_n hx hb dX1_set_34 rfl (lv_at hl 1 rfl) ?_
      refine va_get (D := D) (ci := 1) (v := .ref (h 1)) (C := RX1) (T := TX1) (N := 13) hx hb hts hin0 hown hK hP 0 rfl rfl 3 (by decide) (hts (.fieldLink RX1 7 "VoicePartsModel" "board" "[I") (by decide +kernel)) (fun _ h9 => h9) rfl dX1_set_35 ?_
      refine lv_bipush (v := nI 8) hx hb dX1_set_38 (by decide) ?_
      refine lv_iload_n hx hb dX1_set_40 rfl (lv_at hl 2 rfl) ?_
      refine n_imulc hx hb dX1_set_41 ?_
      refine lv_iload_n hx hb dX1_set_42 rfl (lv_at hl 3 rfl) ?_
      refine n_iadd hx hb dX1_set_43 ?_
      refine lv_iload_n hx hb dX1_set_44 rfl (lv_at hl 4 rfl) ?_
      refine n_iast hx hb hK hP hD hS 1 0 rfl rfl (by omega) (by decide) dX1_set_45 (fun H locs hP hD hS => ?_)
      obtain ⟨A1, eA1⟩ : ∃ z : St, z = uB A (upd (sB A) (f * 8 + t) (v)) := ⟨_, rfl⟩
      have hP : va_P D vwCl (mw h cI cZ A1 M) H := by rw [eA1]; exact hP
      have hD : va_D G (mw h cI cZ A1 M) := va_D.to hD rfl
      refine lv_iload hx hb dX1_set_46 (lv_at hl 0 rfl) ?_
      exact hQ dX1_set_48 (by unfold aSet; rw [if_pos ⟨c_6, c_16⟩, cl_nI (n := f) (by omega), cl_nI (n := t) (by omega)]) (by rw [eA1] at hP; unfold nSet; rw [if_pos ⟨c_6, c_16⟩, cl_nI (n := f) (by omega), cl_nI (n := t) (by omega)]; exact hP) hS
    · refine lv_iconst (v := (-1)) hx hb dX1_set_19 (by decide) ?_
      exact hQ dX1_set_20 (by unfold aSet; rw [if_neg (fun q => c_16 q.2)]) (by unfold nSet; rw [if_neg (fun q => c_16 q.2)]; exact hP) hS
def rmX1_placeOf : Room := { frames := 2, cells := 0, slots := 0, locals := 43 }
set_option maxHeartbeats 4000000 in
set_option maxRecDepth 100000 in
/-- placeOf -/
theorem kX1_placeOf (l : Launch) (D : va_G) (h : Nat → Nat) (cI cZ : ClassId) (A : St) (M : Nat → Int32) (hI : Inv A) (x o y : Int32) : RO l yX1_placeOf wsX1_placeOf rmX1_placeOf [.ref (h 0), .int x, .int o, .int y] (vB D (mw h cI cZ A M) [(cI, .int), (cZ, .boolean)]) (fpo A x o y) := by
  refine ro_ofW (cc := cX1_placeOf) (maxL := 5) (by decide) rfl (Nat.le_of_ble_eq_true rfl) ?_
  intro p e s m below meth c args Q hx hb hml hown hts hB hQ ls hl
  have hown : s.vm.findClass RX1 = some m.cls := hown
  obtain ⟨hP, hK⟩ := hB
  have hin0 : ∀ w ∈ u_ws RX1 TX1 13, w ∈ wsX1_placeOf := fun _ h => List.mem_cons_of_mem _ (List.mem_append_right _ h)
  have hl : lv_has ls 5 [(0, .ref (h 0)), (1, .int x), (2, .int o), (3, .int y)] := hl
  have hF := hI.F
  have hT := hI.T
  have hK3 := hI.K
  have hJ := hI.J
  have hZ := hI.Z
  refine lv_aload_n hx hb dX1_placeOf_0 rfl (lv_at hl 0 rfl) ?_
  refine lv_iload_n hx hb dX1_placeOf_1 rfl (lv_at hl 1 rfl) ?_
  refine ro_callV (As := [.int x]) (rest := []) ⟨hx, hb, hml, hown, hts⟩ (kX1_isVoice l D h cI cZ A M  hI (x)) (cwV 1 hts gX1_placeOf_X1_isVoice rfl rfl rfl (by decide +kernel) ⟨Nat.le_of_ble_eq_true rfl, Nat.le_of_ble_eq_true rfl⟩) vB_bl (vB_at hP hK) (va_recv hK hP (ci := 1) (q0 := 0) rfl rfl) rfl hl.1 rfl (Nat.le_of_ble_eq_true rfl) dX1_placeOf_2 ⟨Nat.zero_le _, Nat.zero_le _⟩ ?_
  refine b_if_eq (tgt := 49) hx hb dX1_placeOf_5 (by decide) (fun c_5 => ?_) (fun c_5 => ?_)
  · refine lv_iconst (v := nI 0) hx hb dX1_placeOf_49 (by decide) ?_
    refine lv_istore (lv' := [(4, .int (nI 0)), (0, .ref (h 0)), (1, .int x), (2, .int o), (3, .int y)]) hx hb dX1_placeOf_50 hl (by decide) rfl (fun ls hl => ?_)
    refine lv_iload hx hb dX1_placeOf_52 (lv_at hl 0 rfl) ?_
    refine n_if_eq (tgt := 71) hx hb (by omega) dX1_placeOf_54 (by decide) (fun c_54 => ?_) (fun c_54 => by exfalso; omega)
    refine lv_iconst (v := (-1)) hx hb dX1_placeOf_71 (by decide) ?_
    exact hQ dX1_placeOf_72 (by unfold fpo; rw [if_neg (fun q => c_5 q.1)])
  · refine lv_iload_n hx hb dX1_placeOf_8 rfl (lv_at hl 2 rfl) ?_
    refine lv_if_ne (tgt := 26) hx hb dX1_placeOf_9 (by decide) (fun c_9 => ?_) (fun c_9 => ?_)
    · refine lv_iload_n hx hb dX1_placeOf_26 rfl (lv_at hl 2 rfl) ?_
      refine lv_iconst (v := nI 1) hx hb dX1_placeOf_27 (by decide) ?_
      refine lv_icmp_ne (tgt := 49) hx hb dX1_placeOf_28 (by decide) (fun c_28 => ?_) (fun c_28 => ?_)
      · refine lv_iconst (v := nI 0) hx hb dX1_placeOf_49 (by decide) ?_
        refine lv_istore (lv' := [(4, .int (nI 0)), (0, .ref (h 0)), (1, .int x), (2, .int o), (3, .int y)]) hx hb dX1_placeOf_50 hl (by decide) rfl (fun ls hl => ?_)
        refine lv_iload hx hb dX1_placeOf_52 (lv_at hl 0 rfl) ?_
        refine n_if_eq (tgt := 71) hx hb (by omega) dX1_placeOf_54 (by decide) (fun c_54 => ?_) (fun c_54 => by exfalso; omega)
        refine lv_iconst (v := (-1)) hx hb dX1_placeOf_71 (by decide) ?_
        exact hQ dX1_placeOf_72 (by unfold fpo; rw [if_neg (fun q => (of01 q.2.1).elim c_9 c_28)])
      · refine lv_iload_n hx hb dX1_placeOf_31 rfl (lv_at hl 3 rfl) ?_
        refine lv_iconst (v := nI 0) hx hb dX1_placeOf_32 (by decide) ?_
        refine lv_aload_n hx hb dX1_placeOf_33 rfl (lv_at hl 0 rfl) ?_
        refine va_get (D := D) (ci := 1) (v := .int (nI (sT A))) (C := RX1) (T := TX1) (N := 13) hx hb hts hin0 hown hK hP 0 rfl rfl 1 (by decide) (hts (.fieldLink RX1 40 "VoicePartsModel" "times" "I") (by decide +kernel)) (fun _ h9 => h9) rfl dX1_placeOf_34 ?_
        refine lv_iconst (v := nI 1) hx hb dX1_placeOf_37 (by decide) ?_
        refine n_isub hx hb (by omega) dX1_placeOf_38 ?_
        refine ro_callS (As := [.int y, .int (nI 0), .int (nI ((sT A) - 1))]) (rest := []) ⟨hx, hb, hml, hown, hts⟩ (kX1_in l (y) (nI 0) (nI ((sT A) - 1))) (va_cwS 3 hts gX1_placeOf_X1_in rfl rfl rfl (by decide +kernel) ⟨Nat.le_of_ble_eq_true rfl, Nat.le_of_ble_eq_true rfl⟩) vT_bl vT_at rfl hl.1 rfl (Nat.le_of_ble_eq_true rfl) dX1_placeOf_39 ⟨Nat.zero_le _, Nat.zero_le _⟩ ?_
        refine b_if_eq (tgt := 49) hx hb dX1_placeOf_42 (by decide) (fun c_42 => ?_) (fun c_42 => ?_)
        · refine lv_iconst (v := nI 0) hx hb dX1_placeOf_49 (by decide) ?_
          refine lv_istore (lv' := [(4, .int (nI 0)), (0, .ref (h 0)), (1, .int x), (2, .int o), (3, .int y)]) hx hb dX1_placeOf_50 hl (by decide) rfl (fun ls hl => ?_)
          refine lv_iload hx hb dX1_placeOf_52 (lv_at hl 0 rfl) ?_
          refine n_if_eq (tgt := 71) hx hb (by omega) dX1_placeOf_54 (by decide) (fun c_54 => ?_) (fun c_54 => by exfalso; omega)
          refine lv_iconst (v := (-1)) hx hb dX1_placeOf_71 (by decide) ?_
          exact hQ dX1_placeOf_72 (by unfold fpo; rw [if_neg (fun q => c_42 (by have z := q.2.2; rw [if_neg c_9] at z; exact z))])
        · obtain ⟨k, hk, rfl⟩ := iN_of (n := sK A) c_5 (by omega) (by omega)
          obtain rfl := c_28
          obtain ⟨i, hi, rfl⟩ := iN_of (n := sT A) c_42 (by omega) (by omega)
          refine lv_iconst (v := nI 1) hx hb dX1_placeOf_45 (by decide) ?_
          refine lv_goto (tgt := 50) hx hb dX1_placeOf_46 (by decide) ?_
          refine lv_istore (lv' := [(4, .int (nI 1)), (0, .ref (h 0)), (1, .int (nI k)), (2, .int (nI 1)), (3, .int (nI i))]) hx hb dX1_placeOf_50 hl (by decide) rfl (fun ls hl => ?_)
          refine lv_iload hx hb dX1_placeOf_52 (lv_at hl 0 rfl) ?_
          refine n_if_eq (tgt := 71) hx hb (by omega) dX1_placeOf_54 (by decide) (fun c_54 => by exfalso; omega) (fun c_54 => ?_)
          refine lv_bipush (v := nI 16) hx hb dX1_placeOf_57 (by decide) ?_
          refine lv_iload_n hx hb dX1_placeOf_59 rfl (lv_at hl 2 rfl) ?_
          refine n_imulc hx hb dX1_placeOf_60 ?_
          refine lv_bipush (v := nI 6) hx hb dX1_placeOf_61 (by decide) ?_
          refine lv_iload_n hx hb dX1_placeOf_63 rfl (lv_at hl 3 rfl) ?_
          refine n_imul hx hb dX1_placeOf_64 ?_
          refine n_iadd hx hb dX1_placeOf_65 ?_
          refine lv_iload_n hx hb dX1_placeOf_66 rfl (lv_at hl 4 rfl) ?_
          refine n_iadd hx hb dX1_placeOf_67 ?_
          refine lv_goto (tgt := 72) hx hb dX1_placeOf_68 (by decide) ?_
          exact hQ dX1_placeOf_72 (by unfold fpo; rw [if_pos ⟨c_5, by decide, c_42⟩, cl_nI (n := k) (by omega), cl_nI (n := 1) (by decide), cl_nI (n := i) (by omega)]; exact congrArg nI (show k * 16 + 6 * 1 + i = k * 16 + (6 + i) by omega))
    · refine lv_iload_n hx hb dX1_placeOf_12 rfl (lv_at hl 3 rfl) ?_
      refine lv_iconst (v := nI 0) hx hb dX1_placeOf_13 (by decide) ?_
      refine lv_aload_n hx hb dX1_placeOf_14 rfl (lv_at hl 0 rfl) ?_
      refine va_get (D := D) (ci := 1) (v := .int (nI (sF A))) (C := RX1) (T := TX1) (N := 13) hx hb hts hin0 hown hK hP 0 rfl rfl 0 (by decide) (hts (.fieldLink RX1 36 "VoicePartsModel" "tones" "I") (by decide +kernel)) (fun _ h9 => h9) rfl dX1_placeOf_15 ?_
      refine lv_iconst (v := nI 1) hx hb dX1_placeOf_18 (by decide) ?_
      refine n_isub hx hb (by omega) dX1_placeOf_19 ?_
      refine ro_callS (As := [.int y, .int (nI 0), .int (nI ((sF A) - 1))]) (rest := []) ⟨hx, hb, hml, hown, hts⟩ (kX1_in l (y) (nI 0) (nI ((sF A) - 1))) (va_cwS 3 hts gX1_placeOf_X1_in rfl rfl rfl (by decide +kernel) ⟨Nat.le_of_ble_eq_true rfl, Nat.le_of_ble_eq_true rfl⟩) vT_bl vT_at rfl hl.1 rfl (Nat.le_of_ble_eq_true rfl) dX1_placeOf_20 ⟨Nat.zero_le _, Nat.zero_le _⟩ ?_
      refine b_if_ne (tgt := 45) hx hb dX1_placeOf_23 (by decide) (fun c_23 => ?_) (fun c_23 => ?_)
      · obtain ⟨k, hk, rfl⟩ := iN_of (n := sK A) c_5 (by omega) (by omega)
        obtain rfl : o = nI 0 := c_9
        obtain ⟨i, hi, rfl⟩ := iN_of (n := sF A) c_23 (by omega) (by omega)
        refine lv_iconst (v := nI 1) hx hb dX1_placeOf_45 (by decide) ?_
        refine lv_goto (tgt := 50) hx hb dX1_placeOf_46 (by decide) ?_
        refine lv_istore (lv' := [(4, .int (nI 1)), (0, .ref (h 0)), (1, .int (nI k)), (2, .int (nI 0)), (3, .int (nI i))]) hx hb dX1_placeOf_50 hl (by decide) rfl (fun ls hl => ?_)
        refine lv_iload hx hb dX1_placeOf_52 (lv_at hl 0 rfl) ?_
        refine n_if_eq (tgt := 71) hx hb (by omega) dX1_placeOf_54 (by decide) (fun c_54 => by exfalso; omega) (fun c_54 => ?_)
        refine lv_bipush (v := nI 16) hx hb dX1_placeOf_57 (by decide) ?_
        refine lv_iload_n hx hb dX1_placeOf_59 rfl (lv_at hl 2 rfl) ?_
        refine n_imulc hx hb dX1_placeOf_60 ?_
        refine lv_bipush (v := nI 6) hx hb dX1_placeOf_61 (by decide) ?_
        refine lv_iload_n hx hb dX1_placeOf_63 rfl (lv_at hl 3 rfl) ?_
        refine n_imul hx hb dX1_placeOf_64 ?_
        refine n_iadd hx hb dX1_placeOf_65 ?_
        refine lv_iload_n hx hb dX1_placeOf_66 rfl (lv_at hl 4 rfl) ?_
        refine n_iadd hx hb dX1_placeOf_67 ?_
        refine lv_goto (tgt := 72) hx hb dX1_placeOf_68 (by decide) ?_
        exact hQ dX1_placeOf_72 (by unfold fpo; rw [if_pos ⟨c_5, by decide, c_23⟩, cl_nI (n := k) (by omega), cl_nI (n := 0) (by decide), cl_nI (n := i) (by omega)]; rfl)
      · refine lv_iload_n hx hb dX1_placeOf_26 rfl (lv_at hl 2 rfl) ?_
        refine lv_iconst (v := nI 1) hx hb dX1_placeOf_27 (by decide) ?_
        refine lv_icmp_ne (tgt := 49) hx hb dX1_placeOf_28 (by decide) (fun c_28 => ?_) (fun c_28 => absurd (c_28.symm.trans c_9) (by decide))
        refine lv_iconst (v := nI 0) hx hb dX1_placeOf_49 (by decide) ?_
        refine lv_istore (lv' := [(4, .int (nI 0)), (0, .ref (h 0)), (1, .int x), (2, .int o), (3, .int y)]) hx hb dX1_placeOf_50 hl (by decide) rfl (fun ls hl => ?_)
        refine lv_iload hx hb dX1_placeOf_52 (lv_at hl 0 rfl) ?_
        refine n_if_eq (tgt := 71) hx hb (by omega) dX1_placeOf_54 (by decide) (fun c_54 => ?_) (fun c_54 => by exfalso; omega)
        refine lv_iconst (v := (-1)) hx hb dX1_placeOf_71 (by decide) ?_
        exact hQ dX1_placeOf_72 (by unfold fpo; rw [if_neg (fun q => c_23 (by have z := q.2.2; rw [if_pos c_9] at z; exact z))])
def rmX1_number : Room := { frames := 3, cells := 0, slots := 0, locals := 67 }
set_option maxHeartbeats 4000000 in
set_option maxRecDepth 100000 in
/-- number -/
theorem kX1_number (l : Launch) (D : va_G) (h : Nat → Nat) (cI cZ : ClassId) (A : St) (M : Nat → Int32) (hI : Inv A) (x o y : Int32) : RO l yX1_number wsX1_number rmX1_number [.ref (h 0), .int x, .int o, .int y] (vB D (mw h cI cZ A M) [(cI, .int), (cZ, .boolean)]) (aNu A x o y) := by
  refine ro_ofW (cc := cX1_number) (maxL := 5) (by decide) rfl (Nat.le_of_ble_eq_true rfl) ?_
  intro p e s m below meth c args Q hx hb hml hown hts hB hQ ls hl
  have hown : s.vm.findClass RX1 = some m.cls := hown
  obtain ⟨hP, hK⟩ := hB
  have hin0 : ∀ w ∈ u_ws RX1 TX1 13, w ∈ wsX1_number := fun _ h => List.mem_cons_of_mem _ (List.mem_append_right _ h)
  have hl : lv_has ls 5 [(0, .ref (h 0)), (1, .int x), (2, .int o), (3, .int y)] := hl
  have hF := hI.F
  have hT := hI.T
  have hK3 := hI.K
  have hJ := hI.J
  have hZ := hI.Z
  refine lv_aload_n hx hb dX1_number_0 rfl (lv_at hl 0 rfl) ?_
  refine lv_iload_n hx hb dX1_number_1 rfl (lv_at hl 1 rfl) ?_
  refine lv_iload_n hx hb dX1_number_2 rfl (lv_at hl 2 rfl) ?_
  refine lv_iload_n hx hb dX1_number_3 rfl (lv_at hl 3 rfl) ?_
  refine ro_callV (As := [.int x, .int o, .int y]) (rest := []) ⟨hx, hb, hml, hown, hts⟩ (kX1_placeOf l D h cI cZ A M  hI (x) (o) (y)) (cwV 3 hts gX1_number_X1_placeOf rfl rfl rfl (by decide +kernel) ⟨Nat.le_of_ble_eq_true rfl, Nat.le_of_ble_eq_true rfl⟩) vB_bl (vB_at hP hK) (va_recv hK hP (ci := 1) (q0 := 0) rfl rfl) rfl hl.1 rfl (Nat.le_of_ble_eq_true rfl) dX1_number_4 ⟨Nat.zero_le _, Nat.zero_le _⟩ ?_
  by_cases hp : pNu A x o y
  · obtain ⟨k, hk, rfl⟩ := iN_of (n := sK A) hp.1 (by omega) (by omega)
    obtain ⟨p0, ho, rfl⟩ := iN_of (n := 2) hp.2.1 (by decide) (by decide)
    obtain ⟨i, hi, rfl⟩ := iN_of hp.2.2 (by split <;> omega) (by split <;> omega)
    have hi8 : i < 2 ^ 31 := by split at hi <;> omega
    have hq := qi_lt hI ho hi
    refine n_top (y := nI (k * 16 + qi p0 i)) (by unfold fpo; rw [if_pos hp, cl_nI (n := k) (by omega), cl_nI (n := p0) (by omega), cl_nI (n := i) hi8]) ?_
    refine lv_istore (lv' := [(4, .int (nI (k * 16 + qi p0 i))), (0, .ref (h 0)), (1, .int (nI k)), (2, .int (nI p0)), (3, .int (nI i))]) hx hb dX1_number_7 hl (by decide) rfl (fun ls hl => ?_)
    refine lv_iload hx hb dX1_number_9 (lv_at hl 0 rfl) ?_
    refine n_if_ge (tgt := 18) hx hb (by omega) dX1_number_11 (by decide) ?_
    refine lv_aload_n hx hb dX1_number_18 rfl (lv_at hl 1 rfl) ?_
    refine va_get (D := D) (ci := 1) (v := .ref (h 2)) (C := RX1) (T := TX1) (N := 13) hx hb hts hin0 hown hK hP 0 rfl rfl 4 (by decide) (hts (.fieldLink RX1 13 "VoicePartsModel" "number" "[I") (by decide +kernel)) (fun _ h9 => h9) rfl dX1_number_19 ?_
    refine lv_iload hx hb dX1_number_22 (lv_at hl 0 rfl) ?_
    refine n_iald hx hb hK hP 2 0 rfl rfl (by omega) (by decide) dX1_number_24 ?_
    refine n_top (y := sV A k (qi p0 i)) (mVat (f := sV A) (by omega) rfl) ?_
    exact hQ dX1_number_25 (by unfold aNu; rw [if_pos hp, cl_nI (n := k) (by omega), cl_nI (n := p0) (by omega), cl_nI (n := i) hi8])
  · refine n_top (y := (-1)) (by unfold fpo; rw [if_neg hp]) ?_
    refine lv_istore (lv' := [(4, .int (-1)), (0, .ref (h 0)), (1, .int x), (2, .int o), (3, .int y)]) hx hb dX1_number_7 hl (by decide) rfl (fun ls hl => ?_)
    refine lv_iload hx hb dX1_number_9 (lv_at hl 0 rfl) ?_
    refine lv_if_ge (tgt := 18) hx hb dX1_number_11 (by decide) (fun c_11 => absurd c_11 (by decide)) (fun c_11 => ?_)
    refine lv_iconst (v := (-1)) hx hb dX1_number_14 (by decide) ?_
    refine lv_goto (tgt := 25) hx hb dX1_number_15 (by decide) ?_
    exact hQ dX1_number_25 (by unfold aNu; rw [if_neg hp])
def rmX1_begin : Room := { frames := 3, cells := 0, slots := 0, locals := 67 }
set_option maxHeartbeats 4000000 in
set_option maxRecDepth 100000 in
/-- begin -/
theorem kX1_begin (l : Launch) (D : va_G) (h : Nat → Nat) (cI cZ : ClassId) (A : St) (M : Nat → Int32) (hI : Inv A) (x o y v : Int32) : MU l yX1_begin wsX1_begin rmX1_begin [.ref (h 0), .int x, .int o, .int y, .int v] D [(cI, .int), (cZ, .boolean)] (mw h cI cZ A M) (mw h cI cZ (nBeg A x o y v) M) (some (.int (aBeg A x o y v))) := by
  refine mu_ofW (cc := cX1_begin) (maxL := 7) (by decide) rfl (Nat.le_of_ble_eq_true rfl) ?_
  intro p e s m below meth c args Q G H locs hx hb hml hown hts hP hK hD hS hQ ls hl
  have hown : s.vm.findClass RX1 = some m.cls := hown
  have hin0 : ∀ w ∈ u_ws RX1 TX1 13, w ∈ wsX1_begin := fun _ h => List.mem_cons_of_mem _ (List.mem_append_right _ h)
  have hl : lv_has ls 7 [(0, .ref (h 0)), (1, .int x), (2, .int o), (3, .int y), (4, .int v)] := hl
  have hF := hI.F
  have hT := hI.T
  have hK3 := hI.K
  have hJ := hI.J
  have hZ := hI.Z
  refine lv_aload_n hx hb dX1_begin_0 rfl (lv_at hl 0 rfl) ?_
  refine lv_iload_n hx hb dX1_begin_1 rfl (lv_at hl 1 rfl) ?_
  refine lv_iload_n hx hb dX1_begin_2 rfl (lv_at hl 2 rfl) ?_
  refine lv_iload_n hx hb dX1_begin_3 rfl (lv_at hl 3 rfl) ?_
  refine ro_callV (As := [.int x, .int o, .int y]) (rest := []) ⟨hx, hb, hml, hown, hts⟩ (kX1_placeOf l D h cI cZ A M  hI (x) (o) (y)) (cwV 3 hts gX1_begin_X1_placeOf rfl rfl rfl (by decide +kernel) ⟨Nat.le_of_ble_eq_true rfl, Nat.le_of_ble_eq_true rfl⟩) vB_bl (vB_at hP hK) (va_recv hK hP (ci := 1) (q0 := 0) rfl rfl) rfl hl.1 rfl (Nat.le_of_ble_eq_true rfl) dX1_begin_4 ⟨Nat.zero_le _, Nat.zero_le _⟩ ?_
  by_cases hp : pNu A x o y
  · obtain ⟨k, hk, rfl⟩ := iN_of (n := sK A) hp.1 (by omega) (by omega)
    obtain ⟨p0, ho, rfl⟩ := iN_of (n := 2) hp.2.1 (by decide) (by decide)
    obtain ⟨i, hi, rfl⟩ := iN_of hp.2.2 (by split <;> omega) (by split <;> omega)
    have hi8 : i < 2 ^ 31 := by split at hi <;> omega
    have hq := qi_lt hI ho hi
    refine n_top (y := nI (k * 16 + qi p0 i)) (by unfold fpo; rw [if_pos hp, cl_nI (n := k) (by omega), cl_nI (n := p0) (by omega), cl_nI (n := i) hi8]) ?_
    refine lv_istore (lv' := [(5, .int (nI (k * 16 + qi p0 i))), (0, .ref (h 0)), (1, .int (nI k)), (2, .int (nI p0)), (3, .int (nI i)), (4, .int v)]) hx hb dX1_begin_7 hl (by decide) rfl (fun ls hl => ?_)
    refine lv_iload hx hb dX1_begin_9 (lv_at hl 0 rfl) ?_
    refine n_if_lt (tgt := 25) hx hb (by omega) dX1_begin_11 (by decide) ?_
    refine lv_iload hx hb dX1_begin_14 (lv_at hl 5 rfl) ?_
    refine lv_iconst (v := nI 0) hx hb dX1_begin_16 (by decide) ?_
    refine lv_bipush (v := nI 20) hx hb dX1_begin_17 (by decide) ?_
    refine ro_callS (As := [.int v, .int (nI 0), .int (nI 20)]) (rest := []) ⟨hx, hb, hml, hown, hts⟩ (kX1_in l (v) (nI 0) (nI 20)) (va_cwS 3 hts gX1_begin_X1_in rfl rfl rfl (by decide +kernel) ⟨Nat.le_of_ble_eq_true rfl, Nat.le_of_ble_eq_true rfl⟩) vT_bl vT_at rfl hl.1 rfl (Nat.le_of_ble_eq_true rfl) dX1_begin_19 ⟨Nat.zero_le _, Nat.zero_le _⟩ ?_
    refine b_if_ne (tgt := 27) hx hb dX1_begin_22 (by decide) (fun c_22 => ?_) (fun c_22 => ?_)
    · refine lv_aload_n hx hb dX1_begin_27 rfl (lv_at hl 1 rfl) ?_
      refine va_get (D := D) (ci := 1) (v := .ref (h 3)) (C := RX1) (T := TX1) (N := 13) hx hb hts hin0 hown hK hP 0 rfl rfl 5 (by decide) (hts (.fieldLink RX1 16 "VoicePartsModel" "isBarred" "[Z") (by decide +kernel)) (fun _ h9 => h9) rfl dX1_begin_28 ?_
      refine lv_iload hx hb dX1_begin_31 (lv_at hl 0 rfl) ?_
      refine n_zald hx hb hK hP 3 1 rfl rfl (by omega) (by decide) dX1_begin_33 ?_
      refine n_top (y := if sX A k (qi p0 i) = true then 1 else 0) (mXat (X := sX A) (by omega)) ?_
      refine b_if_eq (tgt := 40) hx hb dX1_begin_34 (by decide) (fun c_34 => ?_) (fun c_34 => ?_)
      · refine lv_aload_n hx hb dX1_begin_40 rfl (lv_at hl 1 rfl) ?_
        refine va_get (D := D) (ci := 1) (v := .ref (h 2)) (C := RX1) (T := TX1) (N := 13) hx hb hts hin0 hown hK hP 0 rfl rfl 4 (by decide) (hts (.fieldLink RX1 13 "VoicePartsModel" "number" "[I") (by decide +kernel)) (fun _ h9 => h9) rfl dX1_begin_41 ?_
        refine lv_iload hx hb dX1_begin_44 (lv_at hl 0 rfl) ?_
        refine n_iald hx hb hK hP 2 0 rfl rfl (by omega) (by decide) dX1_begin_46 ?_
        refine n_top (y := sV A k (qi p0 i)) (mVat (f := sV A) (by omega) rfl) ?_
        refine lv_istore (lv' := [(6, .int (sV A k (qi p0 i))), (5, .int (nI (k * 16 + qi p0 i))), (0, .ref (h 0)), (1, .int (nI k)), (2, .int (nI p0)), (3, .int (nI i)), (4, .int v)]) hx hb dX1_begin_47 hl (by decide) rfl (fun ls hl => ?_)
        refine lv_aload_n hx hb dX1_begin_49 rfl (lv_at hl 2 rfl) ?_
        refine va_get (D := D) (ci := 1) (v := .ref (h 2)) (C := RX1) (T := TX1) (N := 13) hx hb hts hin0 hown hK hP 0 rfl rfl 4 (by decide) (hts (.fieldLink RX1 13 "VoicePartsModel" "number" "[I") (by decide +kernel)) (fun _ h9 => h9) rfl dX1_begin_50 ?_
        refine lv_iload hx hb dX1_begin_53 (lv_at hl 1 rfl) ?_
        refine lv_iload hx hb dX1_begin_55 (lv_at hl 6 rfl) ?_
        refine n_iast hx hb hK hP hD hS 2 0 rfl rfl (by omega) (by decide) dX1_begin_57 (fun H locs hP hD hS => ?_)
        obtain ⟨A1, eA1⟩ : ∃ z : St, z = uV A (upV (sV A) k (qi p0 i) (v)) := ⟨_, rfl⟩
        have hP : va_P D vwCl (mw h cI cZ A1 M) H := by rw [eA1]; have z := hP; rw [mVup (k := k) (i := qi p0 i) (by omega)] at z; exact z
        have hD : va_D G (mw h cI cZ A1 M) := va_D.to hD rfl
        refine lv_iload hx hb dX1_begin_58 (lv_at hl 0 rfl) ?_
        exact hQ dX1_begin_60 (by unfold aBeg; rw [if_pos ⟨hp, c_22⟩, cl_nI (n := k) (by omega), cl_nI (n := p0) (by omega), cl_nI (n := i) hi8, if_neg c_34]) (by rw [eA1] at hP; unfold nBeg; rw [cl_nI (n := k) (by omega), cl_nI (n := p0) (by omega), cl_nI (n := i) hi8, if_pos ⟨⟨hp, c_22⟩, c_34⟩]; exact hP) hS
      · refine lv_bipush (v := (-2)) hx hb dX1_begin_37 (by decide) ?_
        exact hQ dX1_begin_39 (by unfold aBeg; rw [if_pos ⟨hp, c_22⟩, cl_nI (n := k) (by omega), cl_nI (n := p0) (by omega), cl_nI (n := i) hi8, if_pos c_34]) (by unfold nBeg; rw [cl_nI (n := k) (by omega), cl_nI (n := p0) (by omega), cl_nI (n := i) hi8, if_neg (fun q => q.2 c_34)]; exact hP) hS
    · refine lv_iconst (v := (-1)) hx hb dX1_begin_25 (by decide) ?_
      exact hQ dX1_begin_26 (by unfold aBeg; rw [if_neg (fun q => c_22 q.2)]) (by unfold nBeg; rw [if_neg (fun q => c_22 q.1.2)]; exact hP) hS
  · refine n_top (y := (-1)) (by unfold fpo; rw [if_neg hp]) ?_
    refine lv_istore (lv' := [(5, .int (-1)), (0, .ref (h 0)), (1, .int x), (2, .int o), (3, .int y), (4, .int v)]) hx hb dX1_begin_7 hl (by decide) rfl (fun ls hl => ?_)
    refine lv_iload hx hb dX1_begin_9 (lv_at hl 0 rfl) ?_
    refine lv_if_lt (tgt := 25) hx hb dX1_begin_11 (by decide) (fun c_11 => ?_) (fun c_11 => absurd (by decide) c_11)
    refine lv_iconst (v := (-1)) hx hb dX1_begin_25 (by decide) ?_
    exact hQ dX1_begin_26 (by unfold aBeg; rw [if_neg (fun q => hp q.1)]) (by unfold nBeg; rw [if_neg (fun q => hp q.1.1)]; exact hP) hS
def rmX1_bar : Room := { frames := 3, cells := 0, slots := 0, locals := 67 }
set_option maxHeartbeats 4000000 in
set_option maxRecDepth 100000 in
/-- bar -/
theorem kX1_bar (l : Launch) (D : va_G) (h : Nat → Nat) (cI cZ : ClassId) (A : St) (M : Nat → Int32) (hI : Inv A) (x o y : Int32) : MU l yX1_bar wsX1_bar rmX1_bar [.ref (h 0), .int x, .int o, .int y] D [(cI, .int), (cZ, .boolean)] (mw h cI cZ A M) (mw h cI cZ (nBar A x o y) M) (some (.int (aBar A x o y))) := by
  refine mu_ofW (cc := cX1_bar) (maxL := 6) (by decide) rfl (Nat.le_of_ble_eq_true rfl) ?_
  intro p e s m below meth c args Q G H locs hx hb hml hown hts hP hK hD hS hQ ls hl
  have hown : s.vm.findClass RX1 = some m.cls := hown
  have hin0 : ∀ w ∈ u_ws RX1 TX1 13, w ∈ wsX1_bar := fun _ h => List.mem_cons_of_mem _ (List.mem_append_right _ h)
  have hl : lv_has ls 6 [(0, .ref (h 0)), (1, .int x), (2, .int o), (3, .int y)] := hl
  have hF := hI.F
  have hT := hI.T
  have hK3 := hI.K
  have hJ := hI.J
  have hZ := hI.Z
  refine lv_aload_n hx hb dX1_bar_0 rfl (lv_at hl 0 rfl) ?_
  refine lv_iload_n hx hb dX1_bar_1 rfl (lv_at hl 1 rfl) ?_
  refine lv_iload_n hx hb dX1_bar_2 rfl (lv_at hl 2 rfl) ?_
  refine lv_iload_n hx hb dX1_bar_3 rfl (lv_at hl 3 rfl) ?_
  refine ro_callV (As := [.int x, .int o, .int y]) (rest := []) ⟨hx, hb, hml, hown, hts⟩ (kX1_placeOf l D h cI cZ A M  hI (x) (o) (y)) (cwV 3 hts gX1_bar_X1_placeOf rfl rfl rfl (by decide +kernel) ⟨Nat.le_of_ble_eq_true rfl, Nat.le_of_ble_eq_true rfl⟩) vB_bl (vB_at hP hK) (va_recv hK hP (ci := 1) (q0 := 0) rfl rfl) rfl hl.1 rfl (Nat.le_of_ble_eq_true rfl) dX1_bar_4 ⟨Nat.zero_le _, Nat.zero_le _⟩ ?_
  by_cases hp : pNu A x o y
  · obtain ⟨k, hk, rfl⟩ := iN_of (n := sK A) hp.1 (by omega) (by omega)
    obtain ⟨p0, ho, rfl⟩ := iN_of (n := 2) hp.2.1 (by decide) (by decide)
    obtain ⟨i, hi, rfl⟩ := iN_of hp.2.2 (by split <;> omega) (by split <;> omega)
    have hi8 : i < 2 ^ 31 := by split at hi <;> omega
    have hq := qi_lt hI ho hi
    refine n_top (y := nI (k * 16 + qi p0 i)) (by unfold fpo; rw [if_pos hp, cl_nI (n := k) (by omega), cl_nI (n := p0) (by omega), cl_nI (n := i) hi8]) ?_
    refine lv_istore (lv' := [(4, .int (nI (k * 16 + qi p0 i))), (0, .ref (h 0)), (1, .int (nI k)), (2, .int (nI p0)), (3, .int (nI i))]) hx hb dX1_bar_7 hl (by decide) rfl (fun ls hl => ?_)
    refine lv_iload hx hb dX1_bar_9 (lv_at hl 0 rfl) ?_
    refine n_if_ge (tgt := 16) hx hb (by omega) dX1_bar_11 (by decide) ?_
    refine lv_aload_n hx hb dX1_bar_16 rfl (lv_at hl 1 rfl) ?_
    refine va_get (D := D) (ci := 1) (v := .ref (h 3)) (C := RX1) (T := TX1) (N := 13) hx hb hts hin0 hown hK hP 0 rfl rfl 5 (by decide) (hts (.fieldLink RX1 16 "VoicePartsModel" "isBarred" "[Z") (by decide +kernel)) (fun _ h9 => h9) rfl dX1_bar_17 ?_
    refine lv_iload hx hb dX1_bar_20 (lv_at hl 0 rfl) ?_
    refine n_zald hx hb hK hP 3 1 rfl rfl (by omega) (by decide) dX1_bar_22 ?_
    refine n_top (y := if sX A k (qi p0 i) = true then 1 else 0) (mXat (X := sX A) (by omega)) ?_
    refine b_if_eq (tgt := 29) hx hb dX1_bar_23 (by decide) (fun c_23 => ?_) (fun c_23 => ?_)
    · refine lv_aload_n hx hb dX1_bar_29 rfl (lv_at hl 1 rfl) ?_
      refine va_get (D := D) (ci := 1) (v := .ref (h 2)) (C := RX1) (T := TX1) (N := 13) hx hb hts hin0 hown hK hP 0 rfl rfl 4 (by decide) (hts (.fieldLink RX1 13 "VoicePartsModel" "number" "[I") (by decide +kernel)) (fun _ h9 => h9) rfl dX1_bar_30 ?_
      refine lv_iload hx hb dX1_bar_33 (lv_at hl 0 rfl) ?_
      refine n_iald hx hb hK hP 2 0 rfl rfl (by omega) (by decide) dX1_bar_35 ?_
      refine n_top (y := sV A k (qi p0 i)) (mVat (f := sV A) (by omega) rfl) ?_
      refine lv_istore (lv' := [(5, .int (sV A k (qi p0 i))), (4, .int (nI (k * 16 + qi p0 i))), (0, .ref (h 0)), (1, .int (nI k)), (2, .int (nI p0)), (3, .int (nI i))]) hx hb dX1_bar_36 hl (by decide) rfl (fun ls hl => ?_)
      refine lv_aload_n hx hb dX1_bar_38 rfl (lv_at hl 2 rfl) ?_
      refine va_get (D := D) (ci := 1) (v := .ref (h 2)) (C := RX1) (T := TX1) (N := 13) hx hb hts hin0 hown hK hP 0 rfl rfl 4 (by decide) (hts (.fieldLink RX1 13 "VoicePartsModel" "number" "[I") (by decide +kernel)) (fun _ h9 => h9) rfl dX1_bar_39 ?_
      refine lv_iload hx hb dX1_bar_42 (lv_at hl 1 rfl) ?_
      refine lv_iconst (v := nI 0) hx hb dX1_bar_44 (by decide) ?_
      refine n_iast hx hb hK hP hD hS 2 0 rfl rfl (by omega) (by decide) dX1_bar_45 (fun H locs hP hD hS => ?_)
      obtain ⟨A1, eA1⟩ : ∃ z : St, z = uV A (upV (sV A) k (qi p0 i) (nI 0)) := ⟨_, rfl⟩
      have hP : va_P D vwCl (mw h cI cZ A1 M) H := by rw [eA1]; have z := hP; rw [mVup (k := k) (i := qi p0 i) (by omega)] at z; exact z
      have hD : va_D G (mw h cI cZ A1 M) := va_D.to hD rfl
      refine lv_aload_n hx hb dX1_bar_46 rfl (lv_at hl 2 rfl) ?_
      refine va_get (D := D) (ci := 1) (v := .ref (h 3)) (C := RX1) (T := TX1) (N := 13) hx hb hts hin0 hown hK hP 0 rfl rfl 5 (by decide) (hts (.fieldLink RX1 16 "VoicePartsModel" "isBarred" "[Z") (by decide +kernel)) (fun _ h9 => h9) rfl dX1_bar_47 ?_
      refine lv_iload hx hb dX1_bar_50 (lv_at hl 1 rfl) ?_
      refine lv_iconst (v := nI 1) hx hb dX1_bar_52 (by decide) ?_
      refine n_zast hx hb hK hP hD hS 3 1 rfl rfl (by omega) (by decide) (by decide) dX1_bar_53 (fun H locs hP hD hS => ?_)
      obtain ⟨A2, eA2⟩ : ∃ z : St, z = uX A1 (upX (sX A1) k (qi p0 i)) := ⟨_, rfl⟩
      have hP : va_P D vwCl (mw h cI cZ A2 M) H := by rw [eA2]; have z := hP; rw [mXup (k := k) (i := qi p0 i) (by omega)] at z; exact z
      have hD : va_D G (mw h cI cZ A2 M) := va_D.to hD rfl
      refine lv_iload hx hb dX1_bar_54 (lv_at hl 0 rfl) ?_
      exact hQ dX1_bar_56 (by unfold aBar; rw [if_pos hp, cl_nI (n := k) (by omega), cl_nI (n := p0) (by omega), cl_nI (n := i) hi8, if_neg c_23]) (by rw [eA2, eA1] at hP; unfold nBar; rw [cl_nI (n := k) (by omega), cl_nI (n := p0) (by omega), cl_nI (n := i) hi8, if_pos ⟨hp, c_23⟩]; exact hP) hS
    · refine lv_bipush (v := (-2)) hx hb dX1_bar_26 (by decide) ?_
      exact hQ dX1_bar_28 (by unfold aBar; rw [if_pos hp, cl_nI (n := k) (by omega), cl_nI (n := p0) (by omega), cl_nI (n := i) hi8, if_pos c_23]) (by unfold nBar; rw [cl_nI (n := k) (by omega), cl_nI (n := p0) (by omega), cl_nI (n := i) hi8, if_neg (fun q => q.2 c_23)]; exact hP) hS
  · refine n_top (y := (-1)) (by unfold fpo; rw [if_neg hp]) ?_
    refine lv_istore (lv' := [(4, .int (-1)), (0, .ref (h 0)), (1, .int x), (2, .int o), (3, .int y)]) hx hb dX1_bar_7 hl (by decide) rfl (fun ls hl => ?_)
    refine lv_iload hx hb dX1_bar_9 (lv_at hl 0 rfl) ?_
    refine lv_if_ge (tgt := 16) hx hb dX1_bar_11 (by decide) (fun c_11 => absurd c_11 (by decide)) (fun c_11 => ?_)
    refine lv_iconst (v := (-1)) hx hb dX1_bar_14 (by decide) ?_
    exact hQ dX1_bar_15 (by unfold aBar; rw [if_neg hp]) (by unfold nBar; rw [if_neg (fun q => hp q.1)]; exact hP) hS
def rmX1_judge : Room := { frames := 1, cells := 0, slots := 0, locals := 22 }
set_option maxHeartbeats 4000000 in
set_option maxRecDepth 100000 in
/-- judge -/
theorem kX1_judge (l : Launch) (D : va_G) (h : Nat → Nat) (cI cZ : ClassId) (A : St) (M : Nat → Int32) (hI : Inv A) (x : Int32) : MU l yX1_judge wsX1_judge rmX1_judge [.ref (h 0), .int x] D [(cI, .int), (cZ, .boolean)] (mw h cI cZ A M) (mw h cI cZ (nJu A x) M) (some (.int (aJu A x))) := by
  refine mu_ofW (cc := cX1_judge) (maxL := 3) (by decide) rfl (Nat.le_of_ble_eq_true rfl) ?_
  intro p e s m below meth c args Q G H locs hx hb hml hown hts hP hK hD hS hQ ls hl
  have hown : s.vm.findClass RX1 = some m.cls := hown
  have hin0 : ∀ w ∈ u_ws RX1 TX1 13, w ∈ wsX1_judge := fun _ h => List.mem_cons_of_mem _ (List.mem_append_right _ h)
  have hl : lv_has ls 3 [(0, .ref (h 0)), (1, .int x)] := hl
  have hF := hI.F
  have hT := hI.T
  have hK3 := hI.K
  have hJ := hI.J
  have hZ := hI.Z
  refine lv_iload_n hx hb dX1_judge_0 rfl (lv_at hl 1 rfl) ?_
  refine lv_iconst (v := nI 0) hx hb dX1_judge_1 (by decide) ?_
  refine lv_iconst (v := nI 2) hx hb dX1_judge_2 (by decide) ?_
  refine ro_callS (As := [.int x, .int (nI 0), .int (nI 2)]) (rest := []) ⟨hx, hb, hml, hown, hts⟩ (kX1_in l (x) (nI 0) (nI 2)) (va_cwS 3 hts gX1_judge_X1_in rfl rfl rfl (by decide +kernel) ⟨Nat.le_of_ble_eq_true rfl, Nat.le_of_ble_eq_true rfl⟩) vT_bl vT_at rfl hl.1 rfl (Nat.le_of_ble_eq_true rfl) dX1_judge_3 ⟨Nat.zero_le _, Nat.zero_le _⟩ ?_
  refine b_if_ne (tgt := 11) hx hb dX1_judge_6 (by decide) (fun c_6 => ?_) (fun c_6 => ?_)
  · obtain ⟨j, hj, rfl⟩ := iN_of (n := 3) c_6 (by decide) (by decide)
    refine lv_aload_n hx hb dX1_judge_11 rfl (lv_at hl 0 rfl) ?_
    refine va_get (D := D) (ci := 1) (v := .int (nI (sJ A))) (C := RX1) (T := TX1) (N := 13) hx hb hts hin0 hown hK hP 0 rfl rfl 7 (by decide) (hts (.fieldLink RX1 76 "VoicePartsModel" "judge" "I") (by decide +kernel)) (fun _ h9 => h9) rfl dX1_judge_12 ?_
    refine lv_istore_n (lv' := [(2, .int (nI (sJ A))), (0, .ref (h 0)), (1, .int (nI j))]) hx hb dX1_judge_15 rfl hl (by decide) rfl (fun ls hl => ?_)
    refine lv_aload_n hx hb dX1_judge_16 rfl (lv_at hl 1 rfl) ?_
    refine lv_iload_n hx hb dX1_judge_17 rfl (lv_at hl 2 rfl) ?_
    refine va_put (D := D) (ci := 1) (v := .int (nI j)) (ty := .int) (C := RX1) (T := TX1) (N := 13) hx hb hts hin0 tyX1 tyX1_ok nmX1 hown hK hP hD hS 0 rfl rfl 7 (by decide) (hts (.fieldLink RX1 76 "VoicePartsModel" "judge" "I") (by decide +kernel)) (fun _ h9 => h9) rfl (by decide +kernel) rfl rfl (Nat.le_of_ble_eq_true rfl) dX1_judge_18 (fun H locs hP hD hS => ?_)
    obtain ⟨A1, eA1⟩ : ∃ z : St, z = uJ A (j) := ⟨_, rfl⟩
    have hP : va_P D vwCl (mw h cI cZ A1 M) H := by rw [eA1]; exact hP
    have hD : va_D G (mw h cI cZ A1 M) := va_D.to hD rfl
    refine lv_iload_n hx hb dX1_judge_21 rfl (lv_at hl 0 rfl) ?_
    exact hQ dX1_judge_22 (by unfold aJu; rw [if_pos c_6]) (by rw [eA1] at hP; unfold nJu; rw [if_pos c_6, cl_nI (n := j) (by omega)]; exact hP) hS
  · refine lv_iconst (v := (-1)) hx hb dX1_judge_9 (by decide) ?_
    exact hQ dX1_judge_10 (by unfold aJu; rw [if_neg c_6]) (by unfold nJu; rw [if_neg c_6]; exact hP) hS
def rmX1_cost : Room := { frames := 1, cells := 0, slots := 0, locals := 22 }
set_option maxHeartbeats 4000000 in
set_option maxRecDepth 100000 in
/-- cost -/
theorem kX1_cost (l : Launch) (D : va_G) (h : Nat → Nat) (cI cZ : ClassId) (A : St) (M : Nat → Int32) (hI : Inv A) (x d : Int32) : MU l yX1_cost wsX1_cost rmX1_cost [.ref (h 0), .int x, .int d] D [(cI, .int), (cZ, .boolean)] (mw h cI cZ A M) (mw h cI cZ (nCs A x d) M) (some (.int (aCs x d))) := by
  refine mu_ofW (cc := cX1_cost) (maxL := 3) (by decide) rfl (Nat.le_of_ble_eq_true rfl) ?_
  intro p e s m below meth c args Q G H locs hx hb hml hown hts hP hK hD hS hQ ls hl
  have hown : s.vm.findClass RX1 = some m.cls := hown
  have hin0 : ∀ w ∈ u_ws RX1 TX1 13, w ∈ wsX1_cost := fun _ h => List.mem_cons_of_mem _ (List.mem_append_right _ h)
  have hl : lv_has ls 3 [(0, .ref (h 0)), (1, .int x), (2, .int d)] := hl
  have hF := hI.F
  have hT := hI.T
  have hK3 := hI.K
  have hJ := hI.J
  have hZ := hI.Z
  refine lv_iload_n hx hb dX1_cost_0 rfl (lv_at hl 1 rfl) ?_
  refine lv_iconst (v := nI 0) hx hb dX1_cost_1 (by decide) ?_
  refine lv_iconst (v := nI 2) hx hb dX1_cost_2 (by decide) ?_
  refine ro_callS (As := [.int x, .int (nI 0), .int (nI 2)]) (rest := []) ⟨hx, hb, hml, hown, hts⟩ (kX1_in l (x) (nI 0) (nI 2)) (va_cwS 3 hts gX1_cost_X1_in rfl rfl rfl (by decide +kernel) ⟨Nat.le_of_ble_eq_true rfl, Nat.le_of_ble_eq_true rfl⟩) vT_bl vT_at rfl hl.1 rfl (Nat.le_of_ble_eq_true rfl) dX1_cost_3 ⟨Nat.zero_le _, Nat.zero_le _⟩ ?_
  refine b_if_eq (tgt := 20) hx hb dX1_cost_6 (by decide) (fun c_6 => ?_) (fun c_6 => ?_)
  · refine lv_iconst (v := (-1)) hx hb dX1_cost_20 (by decide) ?_
    exact hQ dX1_cost_21 (by unfold aCs; rw [if_neg (fun q => c_6 q.1)]) (by unfold nCs; rw [if_neg (fun q => c_6 q.1)]; exact hP) hS
  · refine lv_iload_n hx hb dX1_cost_9 rfl (lv_at hl 2 rfl) ?_
    refine lv_iconst (v := nI 0) hx hb dX1_cost_10 (by decide) ?_
    refine lv_sipush (v := nI 2000) hx hb dX1_cost_11 (by decide) ?_
    refine ro_callS (As := [.int d, .int (nI 0), .int (nI 2000)]) (rest := []) ⟨hx, hb, hml, hown, hts⟩ (kX1_in l (d) (nI 0) (nI 2000)) (va_cwS 3 hts gX1_cost_X1_in rfl rfl rfl (by decide +kernel) ⟨Nat.le_of_ble_eq_true rfl, Nat.le_of_ble_eq_true rfl⟩) vT_bl vT_at rfl hl.1 rfl (Nat.le_of_ble_eq_true rfl) dX1_cost_14 ⟨Nat.zero_le _, Nat.zero_le _⟩ ?_
    refine b_if_ne (tgt := 22) hx hb dX1_cost_17 (by decide) (fun c_17 => ?_) (fun c_17 => ?_)
    · obtain ⟨j, hj, rfl⟩ := iN_of (n := 3) c_6 (by decide) (by decide)
      refine lv_aload_n hx hb dX1_cost_22 rfl (lv_at hl 0 rfl) ?_
      refine lv_dup hx hb dX1_cost_23 rfl ?_
      refine va_get (D := D) (ci := 1) (v := .long (sC A)) (C := RX1) (T := TX1) (N := 13) hx hb hts hin0 hown hK hP 0 rfl rfl 11 (by decide) (hts (.fieldLink RX1 79 "VoicePartsModel" "trace" "J") (by decide +kernel)) (fun _ h9 => h9) rfl dX1_cost_24 ?_
      refine lv_iload_n hx hb dX1_cost_27 rfl (lv_at hl 1 rfl) ?_
      refine n_if_ne (tgt := 35) hx hb (by omega) dX1_cost_28 (by decide) (fun c_28 => ?_) (fun c_28 => ?_)
      · refine lv_iload_n hx hb dX1_cost_35 rfl (lv_at hl 1 rfl) ?_
        refine lv_iconst (v := nI 1) hx hb dX1_cost_36 (by decide) ?_
        refine n_icmp_ne (tgt := 46) hx hb (by omega) (by omega) dX1_cost_37 (by decide) (fun c_37 => ?_) (fun c_37 => ?_)
        · refine lv_ldc2 (v := (111)) hx hb hown (hts (.constantLong RX1 85 (111)) (by decide +kernel)) dX1_cost_46 ?_
          refine lv_ladd hx hb dX1_cost_49 ?_
          refine n_topl (y := sC A + tk j) (by unfold tk; rw [if_neg c_28, if_neg c_37]) ?_
          refine va_put (D := D) (ci := 1) (v := .long (sC A + tk j)) (ty := .long) (C := RX1) (T := TX1) (N := 13) hx hb hts hin0 tyX1 tyX1_ok nmX1 hown hK hP hD hS 0 rfl rfl 11 (by decide) (hts (.fieldLink RX1 79 "VoicePartsModel" "trace" "J") (by decide +kernel)) (fun _ h9 => h9) rfl (by decide +kernel) rfl rfl (Nat.le_of_ble_eq_true rfl) dX1_cost_50 (fun H locs hP hD hS => ?_)
          obtain ⟨A1, eA1⟩ : ∃ z : St, z = uC A (sC A + tk j) := ⟨_, rfl⟩
          have hP : va_P D vwCl (mw h cI cZ A1 M) H := by rw [eA1]; exact hP
          have hD : va_D G (mw h cI cZ A1 M) := va_D.to hD rfl
          refine lv_iload_n hx hb dX1_cost_53 rfl (lv_at hl 1 rfl) ?_
          refine lv_iload_n hx hb dX1_cost_54 rfl (lv_at hl 2 rfl) ?_
          refine ro_callS (As := [.int (nI j), .int d]) (rest := []) ⟨hx, hb, hml, hown, hts⟩ (kX1_costOf l (j) (d) (by omega)) (va_cwS 2 hts gX1_cost_X1_costOf rfl rfl rfl (by decide +kernel) ⟨Nat.le_of_ble_eq_true rfl, Nat.le_of_ble_eq_true rfl⟩) vT_bl vT_at rfl hl.1 rfl (Nat.le_of_ble_eq_true rfl) dX1_cost_55 ⟨Nat.zero_le _, Nat.zero_le _⟩ ?_
          exact hQ dX1_cost_58 (by unfold aCs; rw [if_pos ⟨c_6, c_17⟩, cl_nI (n := j) (by omega)]) (by rw [eA1] at hP; unfold nCs; rw [if_pos ⟨c_6, c_17⟩, cl_nI (n := j) (by omega)]; exact hP) hS
        · refine lv_ldc2 (v := (11)) hx hb hown (hts (.constantLong RX1 83 (11)) (by decide +kernel)) dX1_cost_40 ?_
          refine lv_goto (tgt := 49) hx hb dX1_cost_43 (by decide) ?_
          refine lv_ladd hx hb dX1_cost_49 ?_
          refine n_topl (y := sC A + tk j) (by unfold tk; rw [if_neg c_28, if_pos c_37]) ?_
          refine va_put (D := D) (ci := 1) (v := .long (sC A + tk j)) (ty := .long) (C := RX1) (T := TX1) (N := 13) hx hb hts hin0 tyX1 tyX1_ok nmX1 hown hK hP hD hS 0 rfl rfl 11 (by decide) (hts (.fieldLink RX1 79 "VoicePartsModel" "trace" "J") (by decide +kernel)) (fun _ h9 => h9) rfl (by decide +kernel) rfl rfl (Nat.le_of_ble_eq_true rfl) dX1_cost_50 (fun H locs hP hD hS => ?_)
          obtain ⟨A2, eA2⟩ : ∃ z : St, z = uC A (sC A + tk j) := ⟨_, rfl⟩
          have hP : va_P D vwCl (mw h cI cZ A2 M) H := by rw [eA2]; exact hP
          have hD : va_D G (mw h cI cZ A2 M) := va_D.to hD rfl
          refine lv_iload_n hx hb dX1_cost_53 rfl (lv_at hl 1 rfl) ?_
          refine lv_iload_n hx hb dX1_cost_54 rfl (lv_at hl 2 rfl) ?_
          refine ro_callS (As := [.int (nI j), .int d]) (rest := []) ⟨hx, hb, hml, hown, hts⟩ (kX1_costOf l (j) (d) (by omega)) (va_cwS 2 hts gX1_cost_X1_costOf rfl rfl rfl (by decide +kernel) ⟨Nat.le_of_ble_eq_true rfl, Nat.le_of_ble_eq_true rfl⟩) vT_bl vT_at rfl hl.1 rfl (Nat.le_of_ble_eq_true rfl) dX1_cost_55 ⟨Nat.zero_le _, Nat.zero_le _⟩ ?_
          exact hQ dX1_cost_58 (by unfold aCs; rw [if_pos ⟨c_6, c_17⟩, cl_nI (n := j) (by omega)]) (by rw [eA2] at hP; unfold nCs; rw [if_pos ⟨c_6, c_17⟩, cl_nI (n := j) (by omega)]; exact hP) hS
      · refine lv_lconst (v := (1)) hx hb dX1_cost_31 (by decide) ?_
        refine lv_goto (tgt := 49) hx hb dX1_cost_32 (by decide) ?_
        refine lv_ladd hx hb dX1_cost_49 ?_
        refine n_topl (y := sC A + tk j) (by unfold tk; rw [if_pos c_28]) ?_
        refine va_put (D := D) (ci := 1) (v := .long (sC A + tk j)) (ty := .long) (C := RX1) (T := TX1) (N := 13) hx hb hts hin0 tyX1 tyX1_ok nmX1 hown hK hP hD hS 0 rfl rfl 11 (by decide) (hts (.fieldLink RX1 79 "VoicePartsModel" "trace" "J") (by decide +kernel)) (fun _ h9 => h9) rfl (by decide +kernel) rfl rfl (Nat.le_of_ble_eq_true rfl) dX1_cost_50 (fun H locs hP hD hS => ?_)
        obtain ⟨A3, eA3⟩ : ∃ z : St, z = uC A (sC A + tk j) := ⟨_, rfl⟩
        have hP : va_P D vwCl (mw h cI cZ A3 M) H := by rw [eA3]; exact hP
        have hD : va_D G (mw h cI cZ A3 M) := va_D.to hD rfl
        refine lv_iload_n hx hb dX1_cost_53 rfl (lv_at hl 1 rfl) ?_
        refine lv_iload_n hx hb dX1_cost_54 rfl (lv_at hl 2 rfl) ?_
        refine ro_callS (As := [.int (nI j), .int d]) (rest := []) ⟨hx, hb, hml, hown, hts⟩ (kX1_costOf l (j) (d) (by omega)) (va_cwS 2 hts gX1_cost_X1_costOf rfl rfl rfl (by decide +kernel) ⟨Nat.le_of_ble_eq_true rfl, Nat.le_of_ble_eq_true rfl⟩) vT_bl vT_at rfl hl.1 rfl (Nat.le_of_ble_eq_true rfl) dX1_cost_55 ⟨Nat.zero_le _, Nat.zero_le _⟩ ?_
        exact hQ dX1_cost_58 (by unfold aCs; rw [if_pos ⟨c_6, c_17⟩, cl_nI (n := j) (by omega)]) (by rw [eA3] at hP; unfold nCs; rw [if_pos ⟨c_6, c_17⟩, cl_nI (n := j) (by omega)]; exact hP) hS
    · refine lv_iconst (v := (-1)) hx hb dX1_cost_20 (by decide) ?_
      exact hQ dX1_cost_21 (by unfold aCs; rw [if_neg (fun q => c_17 q.2)]) (by unfold nCs; rw [if_neg (fun q => c_17 q.2)]; exact hP) hS
def rmX1_hear : Room := { frames := 1, cells := 0, slots := 0, locals := 22 }
set_option maxHeartbeats 4000000 in
set_option maxRecDepth 100000 in
/-- hear -/
theorem kX1_hear (l : Launch) (D : va_G) (h : Nat → Nat) (cI cZ : ClassId) (A : St) (M : Nat → Int32) (hI : Inv A) (r v : Int32) : MU l yX1_hear wsX1_hear rmX1_hear [.ref (h 0), .int r, .int v] D [(cI, .int), (cZ, .boolean)] (mw h cI cZ A M) (mw h cI cZ (nHe A r v) M) (some (.int (aHe A r v))) := by
  refine mu_ofW (cc := cX1_hear) (maxL := 3) (by decide) rfl (Nat.le_of_ble_eq_true rfl) ?_
  intro p e s m below meth c args Q G H locs hx hb hml hown hts hP hK hD hS hQ ls hl
  have hown : s.vm.findClass RX1 = some m.cls := hown
  have hin0 : ∀ w ∈ u_ws RX1 TX1 13, w ∈ wsX1_hear := fun _ h => List.mem_cons_of_mem _ (List.mem_append_right _ h)
  have hl : lv_has ls 3 [(0, .ref (h 0)), (1, .int r), (2, .int v)] := hl
  have hF := hI.F
  have hT := hI.T
  have hK3 := hI.K
  have hJ := hI.J
  have hZ := hI.Z
  refine lv_iload_n hx hb dX1_hear_0 rfl (lv_at hl 1 rfl) ?_
  refine lv_iconst (v := nI 0) hx hb dX1_hear_1 (by decide) ?_
  refine lv_iconst (v := nI 1) hx hb dX1_hear_2 (by decide) ?_
  refine ro_callS (As := [.int r, .int (nI 0), .int (nI 1)]) (rest := []) ⟨hx, hb, hml, hown, hts⟩ (kX1_in l (r) (nI 0) (nI 1)) (va_cwS 3 hts gX1_hear_X1_in rfl rfl rfl (by decide +kernel) ⟨Nat.le_of_ble_eq_true rfl, Nat.le_of_ble_eq_true rfl⟩) vT_bl vT_at rfl hl.1 rfl (Nat.le_of_ble_eq_true rfl) dX1_hear_3 ⟨Nat.zero_le _, Nat.zero_le _⟩ ?_
  refine b_if_eq (tgt := 22) hx hb dX1_hear_6 (by decide) (fun c_6 => ?_) (fun c_6 => ?_)
  · refine lv_iconst (v := (-1)) hx hb dX1_hear_22 (by decide) ?_
    exact hQ dX1_hear_23 (by unfold aHe; rw [if_neg (fun q => c_6 q.1)]) (by unfold nHe; rw [if_neg (fun q => c_6 q.1.1)]; exact hP) hS
  · refine lv_iload_n hx hb dX1_hear_9 rfl (lv_at hl 2 rfl) ?_
    refine lv_sipush (v := (-1000)) hx hb dX1_hear_10 (by decide) ?_
    refine lv_sipush (v := nI 1000) hx hb dX1_hear_13 (by decide) ?_
    refine ro_callS (As := [.int v, .int (-1000), .int (nI 1000)]) (rest := []) ⟨hx, hb, hml, hown, hts⟩ (kX1_in l (v) ((-1000)) (nI 1000)) (va_cwS 3 hts gX1_hear_X1_in rfl rfl rfl (by decide +kernel) ⟨Nat.le_of_ble_eq_true rfl, Nat.le_of_ble_eq_true rfl⟩) vT_bl vT_at rfl hl.1 rfl (Nat.le_of_ble_eq_true rfl) dX1_hear_16 ⟨Nat.zero_le _, Nat.zero_le _⟩ ?_
    refine b_if_ne (tgt := 24) hx hb dX1_hear_19 (by decide) (fun c_19 => ?_) (fun c_19 => ?_)
    · obtain ⟨rr, hrr, rfl⟩ := iN_of (n := 2) c_6 (by decide) (by decide)
      have hzb : sZ A rr ≤ 8 := by rcases (show rr = 0 ∨ rr = 1 by omega) with rfl | rfl; exact hZ.1; exact hZ.2
      refine lv_aload_n hx hb dX1_hear_24 rfl (lv_at hl 0 rfl) ?_
      refine va_get (D := D) (ci := 1) (v := .ref (h 5)) (C := RX1) (T := TX1) (N := 13) hx hb hts hin0 hown hK hP 0 rfl rfl 9 (by decide) (hts (.fieldLink RX1 23 "VoicePartsModel" "heard" "[I") (by decide +kernel)) (fun _ h9 => h9) rfl dX1_hear_25 ?_
      refine lv_iload_n hx hb dX1_hear_28 rfl (lv_at hl 1 rfl) ?_
      refine n_iald hx hb hK hP 5 0 rfl rfl (by omega) (by decide) dX1_hear_29 ?_
      refine lv_bipush (v := nI 8) hx hb dX1_hear_30 (by decide) ?_
      refine n_icmp_ne (tgt := 38) hx hb (by omega) (by omega) dX1_hear_32 (by decide) (fun c_32 => ?_) (fun c_32 => ?_)
      · refine lv_aload_n hx hb dX1_hear_38 rfl (lv_at hl 0 rfl) ?_
        refine va_get (D := D) (ci := 1) (v := .ref (h 6)) (C := RX1) (T := TX1) (N := 13) hx hb hts hin0 hown hK hP 0 rfl rfl 10 (by decide) (hts (.fieldLink RX1 26 "VoicePartsModel" "row" "[I") (by decide +kernel)) (fun _ h9 => h9) rfl dX1_hear_39 ?_
        refine lv_bipush (v := nI 8) hx hb dX1_hear_42 (by decide) ?_
        refine lv_iload_n hx hb dX1_hear_44 rfl (lv_at hl 1 rfl) ?_
        refine n_imulc hx hb dX1_hear_45 ?_
        refine lv_aload_n hx hb dX1_hear_46 rfl (lv_at hl 0 rfl) ?_
        refine va_get (D := D) (ci := 1) (v := .ref (h 5)) (C := RX1) (T := TX1) (N := 13) hx hb hts hin0 hown hK hP 0 rfl rfl 9 (by decide) (hts (.fieldLink RX1 23 "VoicePartsModel" "heard" "[I") (by decide +kernel)) (fun _ h9 => h9) rfl dX1_hear_47 ?_
        refine lv_iload_n hx hb dX1_hear_50 rfl (lv_at hl 1 rfl) ?_
        refine n_iald hx hb hK hP 5 0 rfl rfl (by omega) (by decide) dX1_hear_51 ?_
        refine n_iadd hx hb dX1_hear_52 ?_
        refine lv_iload_n hx hb dX1_hear_53 rfl (lv_at hl 2 rfl) ?_
        refine n_iast hx hb hK hP hD hS 6 0 rfl rfl (by omega) (by decide) dX1_hear_54 (fun H locs hP hD hS => ?_)
        obtain ⟨A1, eA1⟩ : ∃ z : St, z = uR A (upd (sR A) (rr * 8 + (sZ A (rr))) (v)) := ⟨_, rfl⟩
        have hP : va_P D vwCl (mw h cI cZ A1 M) H := by rw [eA1]; exact hP
        have hD : va_D G (mw h cI cZ A1 M) := va_D.to hD rfl
        refine lv_aload_n hx hb dX1_hear_55 rfl (lv_at hl 0 rfl) ?_
        refine va_get (D := D) (ci := 1) (v := .ref (h 5)) (C := RX1) (T := TX1) (N := 13) hx hb hts hin0 hown hK hP 0 rfl rfl 9 (by decide) (hts (.fieldLink RX1 23 "VoicePartsModel" "heard" "[I") (by decide +kernel)) (fun _ h9 => h9) rfl dX1_hear_56 ?_
        refine lv_iload_n hx hb dX1_hear_59 rfl (lv_at hl 1 rfl) ?_
        refine lv_dup2_11 hx hb dX1_hear_60 rfl rfl ?_
        refine n_iald hx hb hK hP 5 0 rfl rfl (by omega) (by decide) dX1_hear_61 ?_
        refine n_top (y := nI (sZ A rr)) (by rw [eA1]; rfl) ?_
        refine lv_iconst (v := nI 1) hx hb dX1_hear_62 (by decide) ?_
        refine n_iadd hx hb dX1_hear_63 ?_
        refine n_iast hx hb hK hP hD hS 5 0 rfl rfl (by omega) (by decide) dX1_hear_64 (fun H locs hP hD hS => ?_)
        obtain ⟨A2, eA2⟩ : ∃ z : St, z = uZ A1 (upN (sZ A1) (rr) (sZ A rr + 1)) := ⟨_, rfl⟩
        have hP : va_P D vwCl (mw h cI cZ A2 M) H := by rw [eA2]; have z := hP; rw [zup] at z; exact z
        have hD : va_D G (mw h cI cZ A2 M) := va_D.to hD rfl
        refine lv_aload_n hx hb dX1_hear_65 rfl (lv_at hl 0 rfl) ?_
        refine va_get (D := D) (ci := 1) (v := .ref (h 5)) (C := RX1) (T := TX1) (N := 13) hx hb hts hin0 hown hK hP 0 rfl rfl 9 (by decide) (hts (.fieldLink RX1 23 "VoicePartsModel" "heard" "[I") (by decide +kernel)) (fun _ h9 => h9) rfl dX1_hear_66 ?_
        refine lv_iload_n hx hb dX1_hear_69 rfl (lv_at hl 1 rfl) ?_
        refine n_iald hx hb hK hP 5 0 rfl rfl (by omega) (by decide) dX1_hear_70 ?_
        refine n_top (y := nI (sZ A rr + 1)) (by rw [eA2]; show nI (upN (sZ A1) rr (sZ A rr + 1) rr) = _; unfold upN; rw [if_pos rfl]) ?_
        exact hQ dX1_hear_71 (by unfold aHe; rw [if_pos ⟨c_6, c_19⟩, cl_nI (n := rr) (by omega), if_pos (by omega)]) (by rw [eA2, eA1] at hP; unfold nHe; rw [cl_nI (n := rr) (by omega), if_pos ⟨⟨c_6, c_19⟩, by omega⟩]; exact hP) hS
      · refine lv_bipush (v := (-3)) hx hb dX1_hear_35 (by decide) ?_
        exact hQ dX1_hear_37 (by unfold aHe; rw [if_pos ⟨c_6, c_19⟩, cl_nI (n := rr) (by omega), if_neg (by omega)]) (by unfold nHe; rw [cl_nI (n := rr) (by omega), if_neg (fun q => absurd q.2 (by omega))]; exact hP) hS
    · refine lv_iconst (v := (-1)) hx hb dX1_hear_22 (by decide) ?_
      exact hQ dX1_hear_23 (by unfold aHe; rw [if_neg (fun q => c_19 q.2)]) (by unfold nHe; rw [if_neg (fun q => c_19 q.1.2)]; exact hP) hS
def rmX1_clear : Room := { frames := 1, cells := 0, slots := 0, locals := 22 }
set_option maxHeartbeats 4000000 in
set_option maxRecDepth 100000 in
/-- clear -/
theorem kX1_clear (l : Launch) (D : va_G) (h : Nat → Nat) (cI cZ : ClassId) (A : St) (M : Nat → Int32) (hI : Inv A) (r : Int32) : MU l yX1_clear wsX1_clear rmX1_clear [.ref (h 0), .int r] D [(cI, .int), (cZ, .boolean)] (mw h cI cZ A M) (mw h cI cZ (nCl A r) M) (some (.int (aCl A r))) := by
  refine mu_ofW (cc := cX1_clear) (maxL := 3) (by decide) rfl (Nat.le_of_ble_eq_true rfl) ?_
  intro p e s m below meth c args Q G H locs hx hb hml hown hts hP hK hD hS hQ ls hl
  have hown : s.vm.findClass RX1 = some m.cls := hown
  have hin0 : ∀ w ∈ u_ws RX1 TX1 13, w ∈ wsX1_clear := fun _ h => List.mem_cons_of_mem _ (List.mem_append_right _ h)
  have hl : lv_has ls 3 [(0, .ref (h 0)), (1, .int r)] := hl
  have hF := hI.F
  have hT := hI.T
  have hK3 := hI.K
  have hJ := hI.J
  have hZ := hI.Z
  refine lv_iload_n hx hb dX1_clear_0 rfl (lv_at hl 1 rfl) ?_
  refine lv_iconst (v := nI 0) hx hb dX1_clear_1 (by decide) ?_
  refine lv_iconst (v := nI 1) hx hb dX1_clear_2 (by decide) ?_
  refine ro_callS (As := [.int r, .int (nI 0), .int (nI 1)]) (rest := []) ⟨hx, hb, hml, hown, hts⟩ (kX1_in l (r) (nI 0) (nI 1)) (va_cwS 3 hts gX1_clear_X1_in rfl rfl rfl (by decide +kernel) ⟨Nat.le_of_ble_eq_true rfl, Nat.le_of_ble_eq_true rfl⟩) vT_bl vT_at rfl hl.1 rfl (Nat.le_of_ble_eq_true rfl) dX1_clear_3 ⟨Nat.zero_le _, Nat.zero_le _⟩ ?_
  refine b_if_ne (tgt := 11) hx hb dX1_clear_6 (by decide) (fun c_6 => ?_) (fun c_6 => ?_)
  · obtain ⟨rr, hrr, rfl⟩ := iN_of (n := 2) c_6 (by decide) (by decide)
    have hzb : sZ A rr ≤ 8 := by rcases (show rr = 0 ∨ rr = 1 by omega) with rfl | rfl; exact hZ.1; exact hZ.2
    refine lv_aload_n hx hb dX1_clear_11 rfl (lv_at hl 0 rfl) ?_
    refine va_get (D := D) (ci := 1) (v := .ref (h 5)) (C := RX1) (T := TX1) (N := 13) hx hb hts hin0 hown hK hP 0 rfl rfl 9 (by decide) (hts (.fieldLink RX1 23 "VoicePartsModel" "heard" "[I") (by decide +kernel)) (fun _ h9 => h9) rfl dX1_clear_12 ?_
    refine lv_iload_n hx hb dX1_clear_15 rfl (lv_at hl 1 rfl) ?_
    refine n_iald hx hb hK hP 5 0 rfl rfl (by omega) (by decide) dX1_clear_16 ?_
    refine lv_istore_n (lv' := [(2, .int (nI (sZ A (rr)))), (0, .ref (h 0)), (1, .int (nI rr))]) hx hb dX1_clear_17 rfl hl (by decide) rfl (fun ls hl => ?_)
    refine lv_aload_n hx hb dX1_clear_18 rfl (lv_at hl 1 rfl) ?_
    refine va_get (D := D) (ci := 1) (v := .ref (h 5)) (C := RX1) (T := TX1) (N := 13) hx hb hts hin0 hown hK hP 0 rfl rfl 9 (by decide) (hts (.fieldLink RX1 23 "VoicePartsModel" "heard" "[I") (by decide +kernel)) (fun _ h9 => h9) rfl dX1_clear_19 ?_
    refine lv_iload_n hx hb dX1_clear_22 rfl (lv_at hl 2 rfl) ?_
    refine lv_iconst (v := nI 0) hx hb dX1_clear_23 (by decide) ?_
    refine n_iast hx hb hK hP hD hS 5 0 rfl rfl (by omega) (by decide) dX1_clear_24 (fun H locs hP hD hS => ?_)
    obtain ⟨A1, eA1⟩ : ∃ z : St, z = uZ A (upN (sZ A) (rr) (0)) := ⟨_, rfl⟩
    have hP : va_P D vwCl (mw h cI cZ A1 M) H := by rw [eA1]; have z := hP; rw [zup] at z; exact z
    have hD : va_D G (mw h cI cZ A1 M) := va_D.to hD rfl
    refine lv_iload_n hx hb dX1_clear_25 rfl (lv_at hl 0 rfl) ?_
    exact hQ dX1_clear_26 (by unfold aCl; rw [if_pos c_6, cl_nI (n := rr) (by omega)]) (by rw [eA1] at hP; unfold nCl; rw [if_pos c_6, cl_nI (n := rr) (by omega)]; exact hP) hS
  · refine lv_iconst (v := (-1)) hx hb dX1_clear_9 (by decide) ?_
    exact hQ dX1_clear_10 (by unfold aCl; rw [if_neg c_6]) (by unfold nCl; rw [if_neg c_6]; exact hP) hS
def rmX1_truth : Room := { frames := 2, cells := 0, slots := 0, locals := 44 }
set_option maxHeartbeats 4000000 in
set_option maxRecDepth 100000 in
/-- truth -/
theorem kX1_truth (l : Launch) (D : va_G) (h : Nat → Nat) (cI cZ : ClassId) (A : St) (M : Nat → Int32) (hI : Inv A) (z x y v : Int32) : MU l yX1_truth wsX1_truth rmX1_truth [.ref (h 0), .int z, .int x, .int y, .int v] D [(cI, .int), (cZ, .boolean)] (mw h cI cZ A M) (mw h cI cZ (nTr A z x y v) M) (some (.int (aTr A z x y v))) := by
  refine mu_ofW (cc := cX1_truth) (maxL := 7) (by decide) rfl (Nat.le_of_ble_eq_true rfl) ?_
  intro p e s m below meth c args Q G H locs hx hb hml hown hts hP hK hD hS hQ ls hl
  have hown : s.vm.findClass RX1 = some m.cls := hown
  have hin0 : ∀ w ∈ u_ws RX1 TX1 13, w ∈ wsX1_truth := fun _ h => List.mem_cons_of_mem _ (List.mem_append_right _ h)
  have hl : lv_has ls 7 [(0, .ref (h 0)), (1, .int z), (2, .int x), (3, .int y), (4, .int v)] := hl
  have hF := hI.F
  have hT := hI.T
  have hK3 := hI.K
  have hJ := hI.J
  have hZ := hI.Z
  refine lv_aload_n hx hb dX1_truth_0 rfl (lv_at hl 0 rfl) ?_
  refine lv_iload_n hx hb dX1_truth_1 rfl (lv_at hl 1 rfl) ?_
  refine ro_callV (As := [.int z]) (rest := []) ⟨hx, hb, hml, hown, hts⟩ (kX1_isVoice l D h cI cZ A M  hI (z)) (cwV 1 hts gX1_truth_X1_isVoice rfl rfl rfl (by decide +kernel) ⟨Nat.le_of_ble_eq_true rfl, Nat.le_of_ble_eq_true rfl⟩) vB_bl (vB_at hP hK) (va_recv hK hP (ci := 1) (q0 := 0) rfl rfl) rfl hl.1 rfl (Nat.le_of_ble_eq_true rfl) dX1_truth_2 ⟨Nat.zero_le _, Nat.zero_le _⟩ ?_
  refine b_if_eq (tgt := 28) hx hb dX1_truth_5 (by decide) (fun c_5 => ?_) (fun c_5 => ?_)
  · refine lv_iconst (v := (-1)) hx hb dX1_truth_28 (by decide) ?_
    exact hQ dX1_truth_29 (by unfold aTr; rw [if_neg (fun q => c_5 q.1)]) (by unfold nTr; rw [if_neg (fun q => c_5 q.1)]; exact hP) hS
  · refine lv_aload_n hx hb dX1_truth_8 rfl (lv_at hl 0 rfl) ?_
    refine lv_iload_n hx hb dX1_truth_9 rfl (lv_at hl 2 rfl) ?_
    refine lv_iload_n hx hb dX1_truth_10 rfl (lv_at hl 3 rfl) ?_
    refine ro_callV (As := [.int x, .int y]) (rest := []) ⟨hx, hb, hml, hown, hts⟩ (kX1_isPlace l D h cI cZ A M  hI (x) (y)) (cwV 2 hts gX1_truth_X1_isPlace rfl rfl rfl (by decide +kernel) ⟨Nat.le_of_ble_eq_true rfl, Nat.le_of_ble_eq_true rfl⟩) vB_bl (vB_at hP hK) (va_recv hK hP (ci := 1) (q0 := 0) rfl rfl) rfl hl.1 rfl (Nat.le_of_ble_eq_true rfl) dX1_truth_11 ⟨Nat.zero_le _, Nat.zero_le _⟩ ?_
    refine b_if_eq (tgt := 28) hx hb dX1_truth_14 (by decide) (fun c_14 => ?_) (fun c_14 => ?_)
    · refine lv_iconst (v := (-1)) hx hb dX1_truth_28 (by decide) ?_
      exact hQ dX1_truth_29 (by unfold aTr; rw [if_neg (fun q => c_14 q.2.1)]) (by unfold nTr; rw [if_neg (fun q => c_14 q.2.1)]; exact hP) hS
    · refine lv_iload hx hb dX1_truth_17 (lv_at hl 4 rfl) ?_
      refine lv_iconst (v := nI 0) hx hb dX1_truth_19 (by decide) ?_
      refine lv_bipush (v := nI 99) hx hb dX1_truth_20 (by decide) ?_
      refine ro_callS (As := [.int v, .int (nI 0), .int (nI 99)]) (rest := []) ⟨hx, hb, hml, hown, hts⟩ (kX1_in l (v) (nI 0) (nI 99)) (va_cwS 3 hts gX1_truth_X1_in rfl rfl rfl (by decide +kernel) ⟨Nat.le_of_ble_eq_true rfl, Nat.le_of_ble_eq_true rfl⟩) vT_bl vT_at rfl hl.1 rfl (Nat.le_of_ble_eq_true rfl) dX1_truth_22 ⟨Nat.zero_le _, Nat.zero_le _⟩ ?_
      refine b_if_ne (tgt := 30) hx hb dX1_truth_25 (by decide) (fun c_25 => ?_) (fun c_25 => ?_)
      · obtain ⟨k, hk, rfl⟩ := iN_of (n := sK A) c_5 (by omega) (by omega)
        obtain ⟨f, hf, rfl⟩ := iN_of (n := sF A) c_14.1 (by omega) (by omega)
        obtain ⟨t, ht, rfl⟩ := iN_of (n := sT A) c_14.2 (by omega) (by omega)
        refine lv_bipush (v := nI 48) hx hb dX1_truth_30 (by decide) ?_
        refine lv_iload_n hx hb dX1_truth_32 rfl (lv_at hl 1 rfl) ?_
        refine n_imulc hx hb dX1_truth_33 ?_
        refine lv_bipush (v := nI 8) hx hb dX1_truth_34 (by decide) ?_
        refine lv_iload_n hx hb dX1_truth_36 rfl (lv_at hl 2 rfl) ?_
        refine n_imulc hx hb dX1_truth_37 ?_
        refine n_iadd hx hb dX1_truth_38 ?_
        refine lv_iload_n hx hb dX1_truth_39 rfl (lv_at hl 3 rfl) ?_
        refine n_iadd hx hb dX1_truth_40 ?_
        refine n_top (y := nI (k * 48 + (f * 8 + t))) (by rw [Nat.add_assoc]) ?_
        refine lv_istore (lv' := [(5, .int (nI (k * 48 + (f * 8 + t)))), (0, .ref (h 0)), (1, .int (nI k)), (2, .int (nI f)), (3, .int (nI t)), (4, .int v)]) hx hb dX1_truth_41 hl (by decide) rfl (fun ls hl => ?_)
        refine lv_aload_n hx hb dX1_truth_43 rfl (lv_at hl 1 rfl) ?_
        refine va_get (D := D) (ci := 1) (v := .ref (h 4)) (C := RX1) (T := TX1) (N := 13) hx hb hts hin0 hown hK hP 0 rfl rfl 6 (by decide) (hts (.fieldLink RX1 20 "VoicePartsModel" "truth" "[I") (by decide +kernel)) (fun _ h9 => h9) rfl dX1_truth_44 ?_
        refine lv_iload hx hb dX1_truth_47 (lv_at hl 0 rfl) ?_
        refine n_iald hx hb hK hP 4 0 rfl rfl (by omega) (by decide) dX1_truth_49 ?_
        refine lv_istore (lv' := [(6, .int (sE A (k * 48 + (f * 8 + t)))), (5, .int (nI (k * 48 + (f * 8 + t)))), (0, .ref (h 0)), (1, .int (nI k)), (2, .int (nI f)), (3, .int (nI t)), (4, .int v)]) hx hb dX1_truth_50 hl (by decide) rfl (fun ls hl => ?_)
        refine lv_aload_n hx hb dX1_truth_52 rfl (lv_at hl 2 rfl) ?_
        refine va_get (D := D) (ci := 1) (v := .ref (h 4)) (C := RX1) (T := TX1) (N := 13) hx hb hts hin0 hown hK hP 0 rfl rfl 6 (by decide) (hts (.fieldLink RX1 20 "VoicePartsModel" "truth" "[I") (by decide +kernel)) (fun _ h9 => h9) rfl dX1_truth_53 ?_
        refine lv_iload hx hb dX1_truth_56 (lv_at hl 1 rfl) ?_
        refine lv_iload hx hb dX1_truth_58 (lv_at hl 6 rfl) ?_
        refine n_iast hx hb hK hP hD hS 4 0 rfl rfl (by omega) (by decide) dX1_truth_60 (fun H locs hP hD hS => ?_)
        obtain ⟨A1, eA1⟩ : ∃ z : St, z = uE A (upd (sE A) (k * 48 + (f * 8 + t)) (v)) := ⟨_, rfl⟩
        have hP : va_P D vwCl (mw h cI cZ A1 M) H := by rw [eA1]; exact hP
        have hD : va_D G (mw h cI cZ A1 M) := va_D.to hD rfl
        refine lv_iload hx hb dX1_truth_61 (lv_at hl 0 rfl) ?_
        exact hQ dX1_truth_63 (by unfold aTr; rw [if_pos ⟨c_5, c_14, c_25⟩, cl_nI (n := k) (by omega), cl_nI (n := f) (by omega), cl_nI (n := t) (by omega)]) (by rw [eA1] at hP; unfold nTr; rw [if_pos ⟨c_5, c_14, c_25⟩, cl_nI (n := k) (by omega), cl_nI (n := f) (by omega), cl_nI (n := t) (by omega)]; exact hP) hS
      · refine lv_iconst (v := (-1)) hx hb dX1_truth_28 (by decide) ?_
        exact hQ dX1_truth_29 (by unfold aTr; rw [if_neg (fun q => c_25 q.2.2)]) (by unfold nTr; rw [if_neg (fun q => c_25 q.2.2)]; exact hP) hS
