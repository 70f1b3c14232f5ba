def rmX1_better : Room := { frames := 3, cells := 0, slots := 0, locals := 70 }
set_option maxHeartbeats 4000000 in
set_option maxRecDepth 100000 in
/-- better -/
theorem kX1_better (l : Launch) (D : va_G) (h : Nat → Nat) (cI cZ : ClassId) (A : St) (M : Nat → Int32) (hI : Inv A) (k o i : Nat) (hk : k < 3) (ho : o < 2) (hi : i < if o = 0 then 6 else 8) : MU l yX1_better wsX1_better rmX1_better [.ref (h 0), .int (nI (k * 16 + qi o i))] D [(cI, .int), (cZ, .boolean)] (mw h cI cZ A M) (mw h cI cZ (mst A k o i) M) none := by
  refine mu_ofWv (cc := cX1_better) (maxL := 7) (by decide) rfl (Nat.le_of_ble_eq_true rfl) ?_
  intro p e s m below meth c args Q G H locs hx hb hml hown hts hP hK hD hS hQ ls hl
  have hown : s.vm.findClass RX1 = some m.cls := hown
  have hin0 : ∀ w ∈ u_ws RX1 TX1 13, w ∈ wsX1_better := fun _ h => List.mem_cons_of_mem _ (List.mem_append_right _ h)
  have hl : lv_has ls 7 [(0, .ref (h 0)), (1, .int (nI (k * 16 + qi o i)))] := hl
  have hF := hI.F
  have hT := hI.T
  have hK3 := hI.K
  have hJ := hI.J
  have hZ := hI.Z
  have hq : qi o i < 14 := qi_lt2 ho hi
  obtain ⟨a, ha, ea⟩ := V_nI hI k (qi o i)
  refine lv_aload_n hx hb dX1_better_0 rfl (lv_at hl 0 rfl) ?_
  refine va_get (D := D) (ci := 1) (v := .ref (h 3)) (C := RX1) (T := TX1) (N := 13) hx hb hts hin0 hown hK hP 0 rfl rfl 5 (by decide) (hts (.fieldLink RX1 16 "VoicePartsModel" "isBarred" "[Z") (by decide +kernel)) (fun _ h9 => h9) rfl dX1_better_1 ?_
  refine lv_iload_n hx hb dX1_better_4 rfl (lv_at hl 1 rfl) ?_
  refine n_zald hx hb hK hP 3 1 rfl rfl (by omega) (by decide) dX1_better_5 ?_
  refine n_top (y := if sX A k (qi o i) = true then 1 else 0) (mXat (X := sX A) (by omega)) ?_
  refine b_if_eq (tgt := 10) hx hb dX1_better_6 (by decide) (fun c_6 => ?_) (fun c_6 => ?_)
  · refine lv_aload_n hx hb dX1_better_10 rfl (lv_at hl 0 rfl) ?_
    refine va_get (D := D) (ci := 1) (v := .ref (h 2)) (C := RX1) (T := TX1) (N := 13) hx hb hts hin0 hown hK hP 0 rfl rfl 4 (by decide) (hts (.fieldLink RX1 13 "VoicePartsModel" "number" "[I") (by decide +kernel)) (fun _ h9 => h9) rfl dX1_better_11 ?_
    refine lv_iload_n hx hb dX1_better_14 rfl (lv_at hl 1 rfl) ?_
    refine n_iald hx hb hK hP 2 0 rfl rfl (by omega) (by decide) dX1_better_15 ?_
    refine n_top (y := nI a) ((mVat (f := sV A) (by omega) rfl).trans ea) ?_
    refine lv_istore_n (lv' := [(2, .int (nI a)), (0, .ref (h 0)), (1, .int (nI (k * 16 + qi o i)))]) hx hb dX1_better_16 rfl hl (by decide) rfl (fun ls hl => ?_)
    refine lv_iload_n hx hb dX1_better_17 rfl (lv_at hl 0 rfl) ?_
    refine lv_istore_n (lv' := [(3, .int (nI a)), (2, .int (nI a)), (0, .ref (h 0)), (1, .int (nI (k * 16 + qi o i)))]) hx hb dX1_better_18 rfl hl (by decide) rfl (fun ls hl => ?_)
    refine lv_aload_n hx hb dX1_better_19 rfl (lv_at hl 2 rfl) ?_
    refine ro_callV (As := []) (rest := []) ⟨hx, hb, hml, hown, hts⟩ (kX1_missNow l D h cI cZ A M  hI ) (cwV 0 hts gX1_better_X1_missNow rfl rfl rfl (by decide +kernel) ⟨Nat.le_of_ble_eq_true rfl, Nat.le_of_ble_eq_true rfl⟩) vB_bl (vB_at hP hK) (va_recv hK hP (ci := 1) (q0 := 0) rfl rfl) rfl hl.1 rfl (Nat.le_of_ble_eq_true rfl) dX1_better_20 ⟨Nat.zero_le _, Nat.zero_le _⟩ ?_
    refine lv_istore (lv' := [(4, .int (fm A)), (3, .int (nI a)), (2, .int (nI a)), (0, .ref (h 0)), (1, .int (nI (k * 16 + qi o i)))]) hx hb dX1_better_23 hl (by decide) rfl (fun ls hl => ?_)
    refine lv_iload_n hx hb dX1_better_25 rfl (lv_at hl 2 rfl) ?_
    refine lv_iconst (v := nI 1) hx hb dX1_better_26 (by decide) ?_
    refine lv_isub hx hb dX1_better_27 ?_
    refine lv_istore (lv' := [(5, .int ((nI a) - (nI 1))), (4, .int (fm A)), (3, .int (nI a)), (2, .int (nI a)), (0, .ref (h 0)), (1, .int (nI (k * 16 + qi o i)))]) hx hb dX1_better_28 hl (by decide) rfl (fun ls hl => ?_)
    refine lv_iload hx hb dX1_better_30 (lv_at hl 0 rfl) ?_
    refine lv_iload_n hx hb dX1_better_32 rfl (lv_at hl 3 rfl) ?_
    refine lv_iconst (v := nI 1) hx hb dX1_better_33 (by decide) ?_
    refine n_iadd hx hb dX1_better_34 ?_
    refine lv_icmp_gt (tgt := 99) hx hb dX1_better_35 (by decide) (fun c_35 => absurd c_35 (st_a a (by omega))) (fun c_35 => ?_)
    refine lv_iload hx hb dX1_better_38 (lv_at hl 0 rfl) ?_
    refine lv_iconst (v := nI 0) hx hb dX1_better_40 (by decide) ?_
    refine lv_bipush (v := nI 20) hx hb dX1_better_41 (by decide) ?_
    refine ro_callS (As := [.int ((nI a) - (nI 1)), .int (nI 0), .int (nI 20)]) (rest := []) ⟨hx, hb, hml, hown, hts⟩ (kX1_in l ((nI a) - (nI 1)) (nI 0) (nI 20)) (va_cwS 3 hts gX1_better_X1_in rfl rfl rfl (by decide +kernel) ⟨Nat.le_of_ble_eq_true rfl, Nat.le_of_ble_eq_true rfl⟩) vT_bl vT_at rfl hl.1 rfl (Nat.le_of_ble_eq_true rfl) dX1_better_43 ⟨Nat.zero_le _, Nat.zero_le _⟩ ?_
    refine b_if_eq (tgt := 93) hx hb dX1_better_46 (by decide) (fun c_46a => ?_) (fun c_46a => ?_)
    · refine lv_iinc (v := nI (a + 1)) (lv' := [(5, .int (nI (a + 1))), (4, .int (fm A)), (3, .int (nI a)), (2, .int (nI a)), (0, .ref (h 0)), (1, .int (nI (k * 16 + qi o i)))]) hx hb dX1_better_93 hl (k := 0) rfl (st_d a) (by decide) rfl (fun ls hl => ?_)
      refine lv_goto (tgt := 30) hx hb dX1_better_96 (by decide) ?_
      refine lv_iload hx hb dX1_better_30 (lv_at hl 0 rfl) ?_
      refine lv_iload_n hx hb dX1_better_32 rfl (lv_at hl 3 rfl) ?_
      refine lv_iconst (v := nI 1) hx hb dX1_better_33 (by decide) ?_
      refine n_iadd hx hb dX1_better_34 ?_
      refine n_icmp_gt (tgt := 99) hx hb (by omega) (by omega) dX1_better_35 (by decide) (fun c_35 => by exfalso; omega) (fun c_35 => ?_)
      refine lv_iload hx hb dX1_better_38 (lv_at hl 0 rfl) ?_
      refine lv_iconst (v := nI 0) hx hb dX1_better_40 (by decide) ?_
      refine lv_bipush (v := nI 20) hx hb dX1_better_41 (by decide) ?_
      refine ro_callS (As := [.int (nI (a + 1)), .int (nI 0), .int (nI 20)]) (rest := []) ⟨hx, hb, hml, hown, hts⟩ (kX1_in l (nI (a + 1)) (nI 0) (nI 20)) (va_cwS 3 hts gX1_better_X1_in rfl rfl rfl (by decide +kernel) ⟨Nat.le_of_ble_eq_true rfl, Nat.le_of_ble_eq_true rfl⟩) vT_bl vT_at rfl hl.1 rfl (Nat.le_of_ble_eq_true rfl) dX1_better_43 ⟨Nat.zero_le _, Nat.zero_le _⟩ ?_
      refine b_if_eq (tgt := 93) hx hb dX1_better_46 (by decide) (fun c_46b => ?_) (fun c_46b => ?_)
      · refine lv_iinc (v := nI (a + 1 + 2)) (lv' := [(5, .int (nI (a + 1 + 2))), (4, .int (fm A)), (3, .int (nI a)), (2, .int (nI a)), (0, .ref (h 0)), (1, .int (nI (k * 16 + qi o i)))]) hx hb dX1_better_93 hl (k := 0) rfl (nI_add _ 2) (by decide) rfl (fun ls hl => ?_)
        refine lv_goto (tgt := 30) hx hb dX1_better_96 (by decide) ?_
        refine lv_iload hx hb dX1_better_30 (lv_at hl 0 rfl) ?_
        refine lv_iload_n hx hb dX1_better_32 rfl (lv_at hl 3 rfl) ?_
        refine lv_iconst (v := nI 1) hx hb dX1_better_33 (by decide) ?_
        refine n_iadd hx hb dX1_better_34 ?_
        refine n_icmp_gt (tgt := 99) hx hb (by omega) (by omega) dX1_better_35 (by decide) (fun c_35 => ?_) (fun c_35 => by exfalso; omega)
        refine lv_aload_n hx hb dX1_better_99 rfl (lv_at hl 4 rfl) ?_
        refine va_get (D := D) (ci := 1) (v := .ref (h 2)) (C := RX1) (T := TX1) (N := 13) hx hb hts hin0 hown hK hP 0 rfl rfl 4 (by decide) (hts (.fieldLink RX1 13 "VoicePartsModel" "number" "[I") (by decide +kernel)) (fun _ h9 => h9) rfl dX1_better_100 ?_
        refine lv_iload_n hx hb dX1_better_103 rfl (lv_at hl 5 rfl) ?_
        refine lv_iload_n hx hb dX1_better_104 rfl (lv_at hl 2 rfl) ?_
        refine n_iast hx hb hK hP hD hS 2 0 rfl rfl (by omega) (by decide) dX1_better_105 (fun H locs hP hD hS => ?_)
        obtain ⟨A1, eA1⟩ : ∃ z : St, z = uV A (upV (sV A) k (qi o i) (nI a)) := ⟨_, rfl⟩
        have hP : va_P D vwCl (mw h cI cZ A1 M) H := by rw [eA1]; have z := hP; rw [mVup (k := k) (i := qi o i) (by omega)] at z; exact z
        have hD : va_D G (mw h cI cZ A1 M) := va_D.to hD rfl
        have xA1 : A1 = tryV A k (qi o i) a := eA1
        exact hQ dX1_better_106 (by rw [mst_eq c_6 ea ha (bst_0 (ms := (fun x => fm (tryV A k (qi o i) x))) (b := a) (if_neg (fun z => c_46a ((st_b a (by omega)).mpr z.1))) (fun z => c_46b ((st_c a (by omega)).mpr z.1))), ← xA1]; exact hP) hS
      · have ha2 : a + 1 ≤ 20 := (st_c a (by omega)).mp c_46b
        refine lv_aload_n hx hb dX1_better_49 rfl (lv_at hl 4 rfl) ?_
        refine va_get (D := D) (ci := 1) (v := .ref (h 2)) (C := RX1) (T := TX1) (N := 13) hx hb hts hin0 hown hK hP 0 rfl rfl 4 (by decide) (hts (.fieldLink RX1 13 "VoicePartsModel" "number" "[I") (by decide +kernel)) (fun _ h9 => h9) rfl dX1_better_50 ?_
        refine lv_iload_n hx hb dX1_better_53 rfl (lv_at hl 5 rfl) ?_
        refine lv_iload hx hb dX1_better_54 (lv_at hl 0 rfl) ?_
        refine n_iast hx hb hK hP hD hS 2 0 rfl rfl (by omega) (by decide) dX1_better_56 (fun H locs hP hD hS => ?_)
        obtain ⟨A2, eA2⟩ : ∃ z : St, z = uV A (upV (sV A) k (qi o i) (nI (a + 1))) := ⟨_, rfl⟩
        have hP : va_P D vwCl (mw h cI cZ A2 M) H := by rw [eA2]; have z := hP; rw [mVup (k := k) (i := qi o i) (by omega)] at z; exact z
        have hD : va_D G (mw h cI cZ A2 M) := va_D.to hD rfl
        have hIA2 : Inv A2 := by rw [eA2]; exact hI.uV (nI_20 (by omega))
        have xA2 : A2 = tryV A k (qi o i) (a + 1) := eA2
        refine lv_aload_n hx hb dX1_better_57 rfl (lv_at hl 4 rfl) ?_
        refine ro_callV (As := []) (rest := []) ⟨hx, hb, hml, hown, hts⟩ (kX1_missNow l D h cI cZ A2 M  hIA2 ) (cwV 0 hts gX1_better_X1_missNow rfl rfl rfl (by decide +kernel) ⟨Nat.le_of_ble_eq_true rfl, Nat.le_of_ble_eq_true rfl⟩) vB_bl (vB_at hP hK) (va_recv hK hP (ci := 1) (q0 := 0) rfl rfl) rfl hl.1 rfl (Nat.le_of_ble_eq_true rfl) dX1_better_58 ⟨Nat.zero_le _, Nat.zero_le _⟩ ?_
        refine lv_istore (lv' := [(6, .int (fm A2)), (5, .int (nI (a + 1))), (4, .int (fm A)), (3, .int (nI a)), (2, .int (nI a)), (0, .ref (h 0)), (1, .int (nI (k * 16 + qi o i)))]) hx hb dX1_better_61 hl (by decide) rfl (fun ls hl => ?_)
        refine lv_iload hx hb dX1_better_63 (lv_at hl 0 rfl) ?_
        refine lv_iload hx hb dX1_better_65 (lv_at hl 2 rfl) ?_
        refine lv_icmp_ge (tgt := 75) hx hb dX1_better_67 (by decide) (fun c_67b => ?_) (fun c_67b => ?_)
        · refine lv_iload_n hx hb dX1_better_75 rfl (lv_at hl 3 rfl) ?_
          refine lv_istore_n (lv' := [(3, .int (nI a)), (6, .int (fm A2)), (5, .int (nI (a + 1))), (4, .int (fm A)), (2, .int (nI a)), (0, .ref (h 0)), (1, .int (nI (k * 16 + qi o i)))]) hx hb dX1_better_76 rfl hl (by decide) rfl (fun ls hl => ?_)
          refine lv_iload hx hb dX1_better_77 (lv_at hl 1 rfl) ?_
          refine lv_iload hx hb dX1_better_79 (lv_at hl 3 rfl) ?_
          refine lv_icmp_ge (tgt := 89) hx hb dX1_better_81 (by decide) (fun c_81 => ?_) (fun c_81 => absurd c_67b c_81)
          refine lv_iload hx hb dX1_better_89 (lv_at hl 3 rfl) ?_
          refine lv_istore (lv' := [(4, .int (fm A)), (3, .int (nI a)), (6, .int (fm A2)), (5, .int (nI (a + 1))), (2, .int (nI a)), (0, .ref (h 0)), (1, .int (nI (k * 16 + qi o i)))]) hx hb dX1_better_91 hl (by decide) rfl (fun ls hl => ?_)
          refine lv_iinc (v := nI (a + 1 + 2)) (lv' := [(5, .int (nI (a + 1 + 2))), (4, .int (fm A)), (3, .int (nI a)), (6, .int (fm A2)), (2, .int (nI a)), (0, .ref (h 0)), (1, .int (nI (k * 16 + qi o i)))]) hx hb dX1_better_93 hl (k := 3) rfl (nI_add _ 2) (by decide) rfl (fun ls hl => ?_)
          refine lv_goto (tgt := 30) hx hb dX1_better_96 (by decide) ?_
          refine lv_iload hx hb dX1_better_30 (lv_at hl 0 rfl) ?_
          refine lv_iload_n hx hb dX1_better_32 rfl (lv_at hl 4 rfl) ?_
          refine lv_iconst (v := nI 1) hx hb dX1_better_33 (by decide) ?_
          refine n_iadd hx hb dX1_better_34 ?_
          refine n_icmp_gt (tgt := 99) hx hb (by omega) (by omega) dX1_better_35 (by decide) (fun c_35 => ?_) (fun c_35 => by exfalso; omega)
          refine lv_aload_n hx hb dX1_better_99 rfl (lv_at hl 5 rfl) ?_
          refine va_get (D := D) (ci := 1) (v := .ref (h 2)) (C := RX1) (T := TX1) (N := 13) hx hb hts hin0 hown hK hP 0 rfl rfl 4 (by decide) (hts (.fieldLink RX1 13 "VoicePartsModel" "number" "[I") (by decide +kernel)) (fun _ h9 => h9) rfl dX1_better_100 ?_
          refine lv_iload_n hx hb dX1_better_103 rfl (lv_at hl 6 rfl) ?_
          refine lv_iload_n hx hb dX1_better_104 rfl (lv_at hl 2 rfl) ?_
          refine n_iast hx hb hK hP hD hS 2 0 rfl rfl (by omega) (by decide) dX1_better_105 (fun H locs hP hD hS => ?_)
          obtain ⟨A3, eA3⟩ : ∃ z : St, z = uV A2 (upV (sV A2) k (qi o i) (nI a)) := ⟨_, rfl⟩
          have hP : va_P D vwCl (mw h cI cZ A3 M) H := by rw [eA3]; have z := hP; rw [mVup (k := k) (i := qi o i) (by omega)] at z; exact z
          have hD : va_D G (mw h cI cZ A3 M) := va_D.to hD rfl
          have xA3 : A3 = tryV A k (qi o i) a := by rw [eA3, xA2]; exact try_try A k (qi o i) _ _
          exact hQ dX1_better_106 (by rw [mst_eq c_6 ea ha (bst_0 (ms := (fun x => fm (tryV A k (qi o i) x))) (b := a) (if_neg (fun z => c_46a ((st_b a (by omega)).mpr z.1))) (fun z => Int32.not_lt.mpr (show fm (tryV A k (qi o i) (a)) ≤ fm (tryV A k (qi o i) (a + 1)) by rw [try_self ea, ← xA2]; exact c_67b) z.2)), ← xA3]; exact hP) hS
        · refine lv_iload hx hb dX1_better_70 (lv_at hl 1 rfl) ?_
          refine lv_goto (tgt := 76) hx hb dX1_better_72 (by decide) ?_
          refine lv_istore_n (lv' := [(3, .int (nI (a + 1))), (6, .int (fm A2)), (5, .int (nI (a + 1))), (4, .int (fm A)), (2, .int (nI a)), (0, .ref (h 0)), (1, .int (nI (k * 16 + qi o i)))]) hx hb dX1_better_76 rfl hl (by decide) rfl (fun ls hl => ?_)
          refine lv_iload hx hb dX1_better_77 (lv_at hl 1 rfl) ?_
          refine lv_iload hx hb dX1_better_79 (lv_at hl 3 rfl) ?_
          refine lv_icmp_ge (tgt := 89) hx hb dX1_better_81 (by decide) (fun c_81 => absurd c_81 c_67b) (fun c_81 => ?_)
          refine lv_iload hx hb dX1_better_84 (lv_at hl 1 rfl) ?_
          refine lv_goto (tgt := 91) hx hb dX1_better_86 (by decide) ?_
          refine lv_istore (lv' := [(4, .int (fm A2)), (3, .int (nI (a + 1))), (6, .int (fm A2)), (5, .int (nI (a + 1))), (2, .int (nI a)), (0, .ref (h 0)), (1, .int (nI (k * 16 + qi o i)))]) hx hb dX1_better_91 hl (by decide) rfl (fun ls hl => ?_)
          refine lv_iinc (v := nI (a + 1 + 2)) (lv' := [(5, .int (nI (a + 1 + 2))), (4, .int (fm A2)), (3, .int (nI (a + 1))), (6, .int (fm A2)), (2, .int (nI a)), (0, .ref (h 0)), (1, .int (nI (k * 16 + qi o i)))]) hx hb dX1_better_93 hl (k := 3) rfl (nI_add _ 2) (by decide) rfl (fun ls hl => ?_)
          refine lv_goto (tgt := 30) hx hb dX1_better_96 (by decide) ?_
          refine lv_iload hx hb dX1_better_30 (lv_at hl 0 rfl) ?_
          refine lv_iload_n hx hb dX1_better_32 rfl (lv_at hl 4 rfl) ?_
          refine lv_iconst (v := nI 1) hx hb dX1_better_33 (by decide) ?_
          refine n_iadd hx hb dX1_better_34 ?_
          refine n_icmp_gt (tgt := 99) hx hb (by omega) (by omega) dX1_better_35 (by decide) (fun c_35 => ?_) (fun c_35 => by exfalso; omega)
          refine lv_aload_n hx hb dX1_better_99 rfl (lv_at hl 5 rfl) ?_
          refine va_get (D := D) (ci := 1) (v := .ref (h 2)) (C := RX1) (T := TX1) (N := 13) hx hb hts hin0 hown hK hP 0 rfl rfl 4 (by decide) (hts (.fieldLink RX1 13 "VoicePartsModel" "number" "[I") (by decide +kernel)) (fun _ h9 => h9) rfl dX1_better_100 ?_
          refine lv_iload_n hx hb dX1_better_103 rfl (lv_at hl 6 rfl) ?_
          refine lv_iload_n hx hb dX1_better_104 rfl (lv_at hl 2 rfl) ?_
          refine n_iast hx hb hK hP hD hS 2 0 rfl rfl (by omega) (by decide) dX1_better_105 (fun H locs hP hD hS => ?_)
          obtain ⟨A4, eA4⟩ : ∃ z : St, z = uV A2 (upV (sV A2) k (qi o i) (nI (a + 1))) := ⟨_, rfl⟩
          have hP : va_P D vwCl (mw h cI cZ A4 M) H := by rw [eA4]; have z := hP; rw [mVup (k := k) (i := qi o i) (by omega)] at z; exact z
          have hD : va_D G (mw h cI cZ A4 M) := va_D.to hD rfl
          have xA4 : A4 = tryV A k (qi o i) (a + 1) := by rw [eA4, xA2]; exact try_try A k (qi o i) _ _
          exact hQ dX1_better_106 (by rw [mst_eq c_6 ea ha (bst_1 (ms := (fun x => fm (tryV A k (qi o i) x))) (b := a) (if_neg (fun z => c_46a ((st_b a (by omega)).mpr z.1))) (⟨ha2, show fm (tryV A k (qi o i) (a + 1)) < fm (tryV A k (qi o i) (a)) by rw [try_self ea, ← xA2]; exact Int32.not_le.mp c_67b⟩)), ← xA4]; exact hP) hS
    · have ha1 : 1 ≤ a := (st_b a (by omega)).mp c_46a
      have hl : lv_has ls 7 [(5, .int (nI (a - 1))), (4, .int (fm A)), (3, .int (nI a)), (2, .int (nI a)), (0, .ref (h 0)), (1, .int (nI (k * 16 + qi o i)))] := by rw [← pk_sub ha1]; exact hl
      refine lv_aload_n hx hb dX1_better_49 rfl (lv_at hl 4 rfl) ?_
      refine va_get (D := D) (ci := 1) (v := .ref (h 2)) (C := RX1) (T := TX1) (N := 13) hx hb hts hin0 hown hK hP 0 rfl rfl 4 (by decide) (hts (.fieldLink RX1 13 "VoicePartsModel" "number" "[I") (by decide +kernel)) (fun _ h9 => h9) rfl dX1_better_50 ?_
      refine lv_iload_n hx hb dX1_better_53 rfl (lv_at hl 5 rfl) ?_
      refine lv_iload hx hb dX1_better_54 (lv_at hl 0 rfl) ?_
      refine n_iast hx hb hK hP hD hS 2 0 rfl rfl (by omega) (by decide) dX1_better_56 (fun H locs hP hD hS => ?_)
      obtain ⟨A5, eA5⟩ : ∃ z : St, z = uV A (upV (sV A) k (qi o i) (nI (a - 1))) := ⟨_, rfl⟩
      have hP : va_P D vwCl (mw h cI cZ A5 M) H := by rw [eA5]; have z := hP; rw [mVup (k := k) (i := qi o i) (by omega)] at z; exact z
      have hD : va_D G (mw h cI cZ A5 M) := va_D.to hD rfl
      have hIA5 : Inv A5 := by rw [eA5]; exact hI.uV (nI_20 (by omega))
      have xA5 : A5 = tryV A k (qi o i) (a - 1) := eA5
      refine lv_aload_n hx hb dX1_better_57 rfl (lv_at hl 4 rfl) ?_
      refine ro_callV (As := []) (rest := []) ⟨hx, hb, hml, hown, hts⟩ (kX1_missNow l D h cI cZ A5 M  hIA5 ) (cwV 0 hts gX1_better_X1_missNow rfl rfl rfl (by decide +kernel) ⟨Nat.le_of_ble_eq_true rfl, Nat.le_of_ble_eq_true rfl⟩) vB_bl (vB_at hP hK) (va_recv hK hP (ci := 1) (q0 := 0) rfl rfl) rfl hl.1 rfl (Nat.le_of_ble_eq_true rfl) dX1_better_58 ⟨Nat.zero_le _, Nat.zero_le _⟩ ?_
      refine lv_istore (lv' := [(6, .int (fm A5)), (5, .int (nI (a - 1))), (4, .int (fm A)), (3, .int (nI a)), (2, .int (nI a)), (0, .ref (h 0)), (1, .int (nI (k * 16 + qi o i)))]) hx hb dX1_better_61 hl (by decide) rfl (fun ls hl => ?_)
      refine lv_iload hx hb dX1_better_63 (lv_at hl 0 rfl) ?_
      refine lv_iload hx hb dX1_better_65 (lv_at hl 2 rfl) ?_
      refine lv_icmp_ge (tgt := 75) hx hb dX1_better_67 (by decide) (fun c_67a => ?_) (fun c_67a => ?_)
      · refine lv_iload_n hx hb dX1_better_75 rfl (lv_at hl 3 rfl) ?_
        refine lv_istore_n (lv' := [(3, .int (nI a)), (6, .int (fm A5)), (5, .int (nI (a - 1))), (4, .int (fm A)), (2, .int (nI a)), (0, .ref (h 0)), (1, .int (nI (k * 16 + qi o i)))]) hx hb dX1_better_76 rfl hl (by decide) rfl (fun ls hl => ?_)
        refine lv_iload hx hb dX1_better_77 (lv_at hl 1 rfl) ?_
        refine lv_iload hx hb dX1_better_79 (lv_at hl 3 rfl) ?_
        refine lv_icmp_ge (tgt := 89) hx hb dX1_better_81 (by decide) (fun c_81 => ?_) (fun c_81 => absurd c_67a c_81)
        refine lv_iload hx hb dX1_better_89 (lv_at hl 3 rfl) ?_
        refine lv_istore (lv' := [(4, .int (fm A)), (3, .int (nI a)), (6, .int (fm A5)), (5, .int (nI (a - 1))), (2, .int (nI a)), (0, .ref (h 0)), (1, .int (nI (k * 16 + qi o i)))]) hx hb dX1_better_91 hl (by decide) rfl (fun ls hl => ?_)
        refine lv_iinc (v := nI (a + 1)) (lv' := [(5, .int (nI (a + 1))), (4, .int (fm A)), (3, .int (nI a)), (6, .int (fm A5)), (2, .int (nI a)), (0, .ref (h 0)), (1, .int (nI (k * 16 + qi o i)))]) hx hb dX1_better_93 hl (k := 3) rfl (st_e ha1) (by decide) rfl (fun ls hl => ?_)
        refine lv_goto (tgt := 30) hx hb dX1_better_96 (by decide) ?_
        refine lv_iload hx hb dX1_better_30 (lv_at hl 0 rfl) ?_
        refine lv_iload_n hx hb dX1_better_32 rfl (lv_at hl 4 rfl) ?_
        refine lv_iconst (v := nI 1) hx hb dX1_better_33 (by decide) ?_
        refine n_iadd hx hb dX1_better_34 ?_
        refine n_icmp_gt (tgt := 99) hx hb (by omega) (by omega) dX1_better_35 (by decide) (fun c_35 => by exfalso; omega) (fun c_35 => ?_)
        refine lv_iload hx hb dX1_better_38 (lv_at hl 0 rfl) ?_
        refine lv_iconst (v := nI 0) hx hb dX1_better_40 (by decide) ?_
        refine lv_bipush (v := nI 20) hx hb dX1_better_41 (by decide) ?_
        refine ro_callS (As := [.int (nI (a + 1)), .int (nI 0), .int (nI 20)]) (rest := []) ⟨hx, hb, hml, hown, hts⟩ (kX1_in l (nI (a + 1)) (nI 0) (nI 20)) (va_cwS 3 hts gX1_better_X1_in rfl rfl rfl (by decide +kernel) ⟨Nat.le_of_ble_eq_true rfl, Nat.le_of_ble_eq_true rfl⟩) vT_bl vT_at rfl hl.1 rfl (Nat.le_of_ble_eq_true rfl) dX1_better_43 ⟨Nat.zero_le _, Nat.zero_le _⟩ ?_
        refine b_if_eq (tgt := 93) hx hb dX1_better_46 (by decide) (fun c_46b => ?_) (fun c_46b => ?_)
        · refine lv_iinc (v := nI (a + 1 + 2)) (lv' := [(5, .int (nI (a + 1 + 2))), (4, .int (fm A)), (3, .int (nI a)), (6, .int (fm A5)), (2, .int (nI a)), (0, .ref (h 0)), (1, .int (nI (k * 16 + qi o i)))]) hx hb dX1_better_93 hl (k := 0) rfl (nI_add _ 2) (by decide) rfl (fun ls hl => ?_)
          refine lv_goto (tgt := 30) hx hb dX1_better_96 (by decide) ?_
          refine lv_iload hx hb dX1_better_30 (lv_at hl 0 rfl) ?_
          refine lv_iload_n hx hb dX1_better_32 rfl (lv_at hl 4 rfl) ?_
          refine lv_iconst (v := nI 1) hx hb dX1_better_33 (by decide) ?_
          refine n_iadd hx hb dX1_better_34 ?_
          refine n_icmp_gt (tgt := 99) hx hb (by omega) (by omega) dX1_better_35 (by decide) (fun c_35 => ?_) (fun c_35 => by exfalso; omega)
          refine lv_aload_n hx hb dX1_better_99 rfl (lv_at hl 5 rfl) ?_
          refine va_get (D := D) (ci := 1) (v := .ref (h 2)) (C := RX1) (T := TX1) (N := 13) hx hb hts hin0 hown hK hP 0 rfl rfl 4 (by decide) (hts (.fieldLink RX1 13 "VoicePartsModel" "number" "[I") (by decide +kernel)) (fun _ h9 => h9) rfl dX1_better_100 ?_
          refine lv_iload_n hx hb dX1_better_103 rfl (lv_at hl 6 rfl) ?_
          refine lv_iload_n hx hb dX1_better_104 rfl (lv_at hl 2 rfl) ?_
          refine n_iast hx hb hK hP hD hS 2 0 rfl rfl (by omega) (by decide) dX1_better_105 (fun H locs hP hD hS => ?_)
          obtain ⟨A6, eA6⟩ : ∃ z : St, z = uV A5 (upV (sV A5) k (qi o i) (nI a)) := ⟨_, rfl⟩
          have hP : va_P D vwCl (mw h cI cZ A6 M) H := by rw [eA6]; have z := hP; rw [mVup (k := k) (i := qi o i) (by omega)] at z; exact z
          have hD : va_D G (mw h cI cZ A6 M) := va_D.to hD rfl
          have xA6 : A6 = tryV A k (qi o i) a := by rw [eA6, xA5]; exact try_try A k (qi o i) _ _
          exact hQ dX1_better_106 (by rw [mst_eq c_6 ea ha (bst_0 (ms := (fun x => fm (tryV A k (qi o i) x))) (b := a) (if_neg (fun z => Int32.not_lt.mpr (show fm (tryV A k (qi o i) a) ≤ fm (tryV A k (qi o i) (a - 1)) by rw [try_self ea, ← xA5]; exact c_67a) z.2)) (fun z => c_46b ((st_c a (by omega)).mpr z.1))), ← xA6]; exact hP) hS
        · have ha2 : a + 1 ≤ 20 := (st_c a (by omega)).mp c_46b
          refine lv_aload_n hx hb dX1_better_49 rfl (lv_at hl 5 rfl) ?_
          refine va_get (D := D) (ci := 1) (v := .ref (h 2)) (C := RX1) (T := TX1) (N := 13) hx hb hts hin0 hown hK hP 0 rfl rfl 4 (by decide) (hts (.fieldLink RX1 13 "VoicePartsModel" "number" "[I") (by decide +kernel)) (fun _ h9 => h9) rfl dX1_better_50 ?_
          refine lv_iload_n hx hb dX1_better_53 rfl (lv_at hl 6 rfl) ?_
          refine lv_iload hx hb dX1_better_54 (lv_at hl 0 rfl) ?_
          refine n_iast hx hb hK hP hD hS 2 0 rfl rfl (by omega) (by decide) dX1_better_56 (fun H locs hP hD hS => ?_)
          obtain ⟨A7, eA7⟩ : ∃ z : St, z = uV A5 (upV (sV A5) k (qi o i) (nI (a + 1))) := ⟨_, rfl⟩
          have hP : va_P D vwCl (mw h cI cZ A7 M) H := by rw [eA7]; have z := hP; rw [mVup (k := k) (i := qi o i) (by omega)] at z; exact z
          have hD : va_D G (mw h cI cZ A7 M) := va_D.to hD rfl
          have hIA7 : Inv A7 := by rw [eA7]; exact hIA5.uV (nI_20 (by omega))
          have xA7 : A7 = tryV A k (qi o i) (a + 1) := by rw [eA7, xA5]; exact try_try A k (qi o i) _ _
          refine lv_aload_n hx hb dX1_better_57 rfl (lv_at hl 5 rfl) ?_
          refine ro_callV (As := []) (rest := []) ⟨hx, hb, hml, hown, hts⟩ (kX1_missNow l D h cI cZ A7 M  hIA7 ) (cwV 0 hts gX1_better_X1_missNow rfl rfl rfl (by decide +kernel) ⟨Nat.le_of_ble_eq_true rfl, Nat.le_of_ble_eq_true rfl⟩) vB_bl (vB_at hP hK) (va_recv hK hP (ci := 1) (q0 := 0) rfl rfl) rfl hl.1 rfl (Nat.le_of_ble_eq_true rfl) dX1_better_58 ⟨Nat.zero_le _, Nat.zero_le _⟩ ?_
          refine lv_istore (lv' := [(6, .int (fm A7)), (5, .int (nI (a + 1))), (4, .int (fm A)), (3, .int (nI a)), (2, .int (nI a)), (0, .ref (h 0)), (1, .int (nI (k * 16 + qi o i)))]) hx hb dX1_better_61 hl (by decide) rfl (fun ls hl => ?_)
          refine lv_iload hx hb dX1_better_63 (lv_at hl 0 rfl) ?_
          refine lv_iload hx hb dX1_better_65 (lv_at hl 2 rfl) ?_
          refine lv_icmp_ge (tgt := 75) hx hb dX1_better_67 (by decide) (fun c_67b => ?_) (fun c_67b => ?_)
          · refine lv_iload_n hx hb dX1_better_75 rfl (lv_at hl 3 rfl) ?_
            refine lv_istore_n (lv' := [(3, .int (nI a)), (6, .int (fm A7)), (5, .int (nI (a + 1))), (4, .int (fm A)), (2, .int (nI a)), (0, .ref (h 0)), (1, .int (nI (k * 16 + qi o i)))]) hx hb dX1_better_76 rfl hl (by decide) rfl (fun ls hl => ?_)
            refine lv_iload hx hb dX1_better_77 (lv_at hl 1 rfl) ?_
            refine lv_iload hx hb dX1_better_79 (lv_at hl 3 rfl) ?_
            refine lv_icmp_ge (tgt := 89) hx hb dX1_better_81 (by decide) (fun c_81 => ?_) (fun c_81 => absurd c_67b c_81)
            refine lv_iload hx hb dX1_better_89 (lv_at hl 3 rfl) ?_
            refine lv_istore (lv' := [(4, .int (fm A)), (3, .int (nI a)), (6, .int (fm A7)), (5, .int (nI (a + 1))), (2, .int (nI a)), (0, .ref (h 0)), (1, .int (nI (k * 16 + qi o i)))]) hx hb dX1_better_91 hl (by decide) rfl (fun ls hl => ?_)
            refine lv_iinc (v := nI (a + 1 + 2)) (lv' := [(5, .int (nI (a + 1 + 2))), (4, .int (fm A)), (3, .int (nI a)), (6, .int (fm A7)), (2, .int (nI a)), (0, .ref (h 0)), (1, .int (nI (k * 16 + qi o i)))]) hx hb dX1_better_93 hl (k := 3) rfl (nI_add _ 2) (by decide) rfl (fun ls hl => ?_)
            refine lv_goto (tgt := 30) hx hb dX1_better_96 (by decide) ?_
            refine lv_iload hx hb dX1_better_30 (lv_at hl 0 rfl) ?_
            refine lv_iload_n hx hb dX1_better_32 rfl (lv_at hl 4 rfl) ?_
            refine lv_iconst (v := nI 1) hx hb dX1_better_33 (by decide) ?_
            refine n_iadd hx hb dX1_better_34 ?_
            refine n_icmp_gt (tgt := 99) hx hb (by omega) (by omega) dX1_better_35 (by decide) (fun c_35 => ?_) (fun c_35 => by exfalso; omega)
            refine lv_aload_n hx hb dX1_better_99 rfl (lv_at hl 5 rfl) ?_
            refine va_get (D := D) (ci := 1) (v := .ref (h 2)) (C := RX1) (T := TX1) (N := 13) hx hb hts hin0 hown hK hP 0 rfl rfl 4 (by decide) (hts (.fieldLink RX1 13 "VoicePartsModel" "number" "[I") (by decide +kernel)) (fun _ h9 => h9) rfl dX1_better_100 ?_
            refine lv_iload_n hx hb dX1_better_103 rfl (lv_at hl 6 rfl) ?_
            refine lv_iload_n hx hb dX1_better_104 rfl (lv_at hl 2 rfl) ?_
            refine n_iast hx hb hK hP hD hS 2 0 rfl rfl (by omega) (by decide) dX1_better_105 (fun H locs hP hD hS => ?_)
            obtain ⟨A8, eA8⟩ : ∃ z : St, z = uV A7 (upV (sV A7) k (qi o i) (nI a)) := ⟨_, rfl⟩
            have hP : va_P D vwCl (mw h cI cZ A8 M) H := by rw [eA8]; have z := hP; rw [mVup (k := k) (i := qi o i) (by omega)] at z; exact z
            have hD : va_D G (mw h cI cZ A8 M) := va_D.to hD rfl
            have xA8 : A8 = tryV A k (qi o i) a := by rw [eA8, xA7]; exact try_try A k (qi o i) _ _
            exact hQ dX1_better_106 (by rw [mst_eq c_6 ea ha (bst_0 (ms := (fun x => fm (tryV A k (qi o i) x))) (b := a) (if_neg (fun z => Int32.not_lt.mpr (show fm (tryV A k (qi o i) a) ≤ fm (tryV A k (qi o i) (a - 1)) by rw [try_self ea, ← xA5]; exact c_67a) z.2)) (fun z => Int32.not_lt.mpr (show fm (tryV A k (qi o i) (a)) ≤ fm (tryV A k (qi o i) (a + 1)) by rw [try_self ea, ← xA7]; exact c_67b) z.2)), ← xA8]; exact hP) hS
          · refine lv_iload hx hb dX1_better_70 (lv_at hl 1 rfl) ?_
            refine lv_goto (tgt := 76) hx hb dX1_better_72 (by decide) ?_
            refine lv_istore_n (lv' := [(3, .int (nI (a + 1))), (6, .int (fm A7)), (5, .int (nI (a + 1))), (4, .int (fm A)), (2, .int (nI a)), (0, .ref (h 0)), (1, .int (nI (k * 16 + qi o i)))]) hx hb dX1_better_76 rfl hl (by decide) rfl (fun ls hl => ?_)
            refine lv_iload hx hb dX1_better_77 (lv_at hl 1 rfl) ?_
            refine lv_iload hx hb dX1_better_79 (lv_at hl 3 rfl) ?_
            refine lv_icmp_ge (tgt := 89) hx hb dX1_better_81 (by decide) (fun c_81 => absurd c_81 c_67b) (fun c_81 => ?_)
            refine lv_iload hx hb dX1_better_84 (lv_at hl 1 rfl) ?_
            refine lv_goto (tgt := 91) hx hb dX1_better_86 (by decide) ?_
            refine lv_istore (lv' := [(4, .int (fm A7)), (3, .int (nI (a + 1))), (6, .int (fm A7)), (5, .int (nI (a + 1))), (2, .int (nI a)), (0, .ref (h 0)), (1, .int (nI (k * 16 + qi o i)))]) hx hb dX1_better_91 hl (by decide) rfl (fun ls hl => ?_)
            refine lv_iinc (v := nI (a + 1 + 2)) (lv' := [(5, .int (nI (a + 1 + 2))), (4, .int (fm A7)), (3, .int (nI (a + 1))), (6, .int (fm A7)), (2, .int (nI a)), (0, .ref (h 0)), (1, .int (nI (k * 16 + qi o i)))]) hx hb dX1_better_93 hl (k := 3) rfl (nI_add _ 2) (by decide) rfl (fun ls hl => ?_)
            refine lv_goto (tgt := 30) hx hb dX1_better_96 (by decide) ?_
            refine lv_iload hx hb dX1_better_30 (lv_at hl 0 rfl) ?_
            refine lv_iload_n hx hb dX1_better_32 rfl (lv_at hl 4 rfl) ?_
            refine lv_iconst (v := nI 1) hx hb dX1_better_33 (by decide) ?_
            refine n_iadd hx hb dX1_better_34 ?_
            refine n_icmp_gt (tgt := 99) hx hb (by omega) (by omega) dX1_better_35 (by decide) (fun c_35 => ?_) (fun c_35 => by exfalso; omega)
            refine lv_aload_n hx hb dX1_better_99 rfl (lv_at hl 5 rfl) ?_
            refine va_get (D := D) (ci := 1) (v := .ref (h 2)) (C := RX1) (T := TX1) (N := 13) hx hb hts hin0 hown hK hP 0 rfl rfl 4 (by decide) (hts (.fieldLink RX1 13 "VoicePartsModel" "number" "[I") (by decide +kernel)) (fun _ h9 => h9) rfl dX1_better_100 ?_
            refine lv_iload_n hx hb dX1_better_103 rfl (lv_at hl 6 rfl) ?_
            refine lv_iload_n hx hb dX1_better_104 rfl (lv_at hl 2 rfl) ?_
            refine n_iast hx hb hK hP hD hS 2 0 rfl rfl (by omega) (by decide) dX1_better_105 (fun H locs hP hD hS => ?_)
            obtain ⟨A9, eA9⟩ : ∃ z : St, z = uV A7 (upV (sV A7) k (qi o i) (nI (a + 1))) := ⟨_, rfl⟩
            have hP : va_P D vwCl (mw h cI cZ A9 M) H := by rw [eA9]; have z := hP; rw [mVup (k := k) (i := qi o i) (by omega)] at z; exact z
            have hD : va_D G (mw h cI cZ A9 M) := va_D.to hD rfl
            have xA9 : A9 = tryV A k (qi o i) (a + 1) := by rw [eA9, xA7]; exact try_try A k (qi o i) _ _
            exact hQ dX1_better_106 (by rw [mst_eq c_6 ea ha (bst_1 (ms := (fun x => fm (tryV A k (qi o i) x))) (b := a) (if_neg (fun z => Int32.not_lt.mpr (show fm (tryV A k (qi o i) a) ≤ fm (tryV A k (qi o i) (a - 1)) by rw [try_self ea, ← xA5]; exact c_67a) z.2)) (⟨ha2, show fm (tryV A k (qi o i) (a + 1)) < fm (tryV A k (qi o i) (a)) by rw [try_self ea, ← xA7]; exact Int32.not_le.mp c_67b⟩)), ← xA9]; exact hP) hS
      · refine lv_iload hx hb dX1_better_70 (lv_at hl 1 rfl) ?_
        refine lv_goto (tgt := 76) hx hb dX1_better_72 (by decide) ?_
        refine lv_istore_n (lv' := [(3, .int (nI (a - 1))), (6, .int (fm A5)), (5, .int (nI (a - 1))), (4, .int (fm A)), (2, .int (nI a)), (0, .ref (h 0)), (1, .int (nI (k * 16 + qi o i)))]) hx hb dX1_better_76 rfl hl (by decide) rfl (fun ls hl => ?_)
        refine lv_iload hx hb dX1_better_77 (lv_at hl 1 rfl) ?_
        refine lv_iload hx hb dX1_better_79 (lv_at hl 3 rfl) ?_
        refine lv_icmp_ge (tgt := 89) hx hb dX1_better_81 (by decide) (fun c_81 => absurd c_81 c_67a) (fun c_81 => ?_)
        refine lv_iload hx hb dX1_better_84 (lv_at hl 1 rfl) ?_
        refine lv_goto (tgt := 91) hx hb dX1_better_86 (by decide) ?_
        refine lv_istore (lv' := [(4, .int (fm A5)), (3, .int (nI (a - 1))), (6, .int (fm A5)), (5, .int (nI (a - 1))), (2, .int (nI a)), (0, .ref (h 0)), (1, .int (nI (k * 16 + qi o i)))]) hx hb dX1_better_91 hl (by decide) rfl (fun ls hl => ?_)
        refine lv_iinc (v := nI (a + 1)) (lv' := [(5, .int (nI (a + 1))), (4, .int (fm A5)), (3, .int (nI (a - 1))), (6, .int (fm A5)), (2, .int (nI a)), (0, .ref (h 0)), (1, .int (nI (k * 16 + qi o i)))]) hx hb dX1_better_93 hl (k := 3) rfl (st_e ha1) (by decide) rfl (fun ls hl => ?_)
        refine lv_goto (tgt := 30) hx hb dX1_better_96 (by decide) ?_
        refine lv_iload hx hb dX1_better_30 (lv_at hl 0 rfl) ?_
        refine lv_iload_n hx hb dX1_better_32 rfl (lv_at hl 4 rfl) ?_
        refine lv_iconst (v := nI 1) hx hb dX1_better_33 (by decide) ?_
        refine n_iadd hx hb dX1_better_34 ?_
        refine n_icmp_gt (tgt := 99) hx hb (by omega) (by omega) dX1_better_35 (by decide) (fun c_35 => by exfalso; omega) (fun c_35 => ?_)
        refine lv_iload hx hb dX1_better_38 (lv_at hl 0 rfl) ?_
        refine lv_iconst (v := nI 0) hx hb dX1_better_40 (by decide) ?_
        refine lv_bipush (v := nI 20) hx hb dX1_better_41 (by decide) ?_
        refine ro_callS (As := [.int (nI (a + 1)), .int (nI 0), .int (nI 20)]) (rest := []) ⟨hx, hb, hml, hown, hts⟩ (kX1_in l (nI (a + 1)) (nI 0) (nI 20)) (va_cwS 3 hts gX1_better_X1_in rfl rfl rfl (by decide +kernel) ⟨Nat.le_of_ble_eq_true rfl, Nat.le_of_ble_eq_true rfl⟩) vT_bl vT_at rfl hl.1 rfl (Nat.le_of_ble_eq_true rfl) dX1_better_43 ⟨Nat.zero_le _, Nat.zero_le _⟩ ?_
        refine b_if_eq (tgt := 93) hx hb dX1_better_46 (by decide) (fun c_46b => ?_) (fun c_46b => ?_)
        · refine lv_iinc (v := nI (a + 1 + 2)) (lv' := [(5, .int (nI (a + 1 + 2))), (4, .int (fm A5)), (3, .int (nI (a - 1))), (6, .int (fm A5)), (2, .int (nI a)), (0, .ref (h 0)), (1, .int (nI (k * 16 + qi o i)))]) hx hb dX1_better_93 hl (k := 0) rfl (nI_add _ 2) (by decide) rfl (fun ls hl => ?_)
          refine lv_goto (tgt := 30) hx hb dX1_better_96 (by decide) ?_
          refine lv_iload hx hb dX1_better_30 (lv_at hl 0 rfl) ?_
          refine lv_iload_n hx hb dX1_better_32 rfl (lv_at hl 4 rfl) ?_
          refine lv_iconst (v := nI 1) hx hb dX1_better_33 (by decide) ?_
          refine n_iadd hx hb dX1_better_34 ?_
          refine n_icmp_gt (tgt := 99) hx hb (by omega) (by omega) dX1_better_35 (by decide) (fun c_35 => ?_) (fun c_35 => by exfalso; omega)
          refine lv_aload_n hx hb dX1_better_99 rfl (lv_at hl 5 rfl) ?_
          refine va_get (D := D) (ci := 1) (v := .ref (h 2)) (C := RX1) (T := TX1) (N := 13) hx hb hts hin0 hown hK hP 0 rfl rfl 4 (by decide) (hts (.fieldLink RX1 13 "VoicePartsModel" "number" "[I") (by decide +kernel)) (fun _ h9 => h9) rfl dX1_better_100 ?_
          refine lv_iload_n hx hb dX1_better_103 rfl (lv_at hl 6 rfl) ?_
          refine lv_iload_n hx hb dX1_better_104 rfl (lv_at hl 2 rfl) ?_
          refine n_iast hx hb hK hP hD hS 2 0 rfl rfl (by omega) (by decide) dX1_better_105 (fun H locs hP hD hS => ?_)
          obtain ⟨A10, eA10⟩ : ∃ z : St, z = uV A5 (upV (sV A5) k (qi o i) (nI (a - 1))) := ⟨_, rfl⟩
          have hP : va_P D vwCl (mw h cI cZ A10 M) H := by rw [eA10]; have z := hP; rw [mVup (k := k) (i := qi o i) (by omega)] at z; exact z
          have hD : va_D G (mw h cI cZ A10 M) := va_D.to hD rfl
          have xA10 : A10 = tryV A k (qi o i) (a - 1) := by rw [eA10, xA5]; exact try_try A k (qi o i) _ _
          exact hQ dX1_better_106 (by rw [mst_eq c_6 ea ha (bst_0 (ms := (fun x => fm (tryV A k (qi o i) x))) (b := a - 1) (if_pos ⟨ha1, show fm (tryV A k (qi o i) (a - 1)) < fm (tryV A k (qi o i) a) by rw [try_self ea, ← xA5]; exact Int32.not_le.mp c_67a⟩) (fun z => c_46b ((st_c a (by omega)).mpr z.1))), ← xA10]; exact hP) hS
        · have ha2 : a + 1 ≤ 20 := (st_c a (by omega)).mp c_46b
          refine lv_aload_n hx hb dX1_better_49 rfl (lv_at hl 5 rfl) ?_
          refine va_get (D := D) (ci := 1) (v := .ref (h 2)) (C := RX1) (T := TX1) (N := 13) hx hb hts hin0 hown hK hP 0 rfl rfl 4 (by decide) (hts (.fieldLink RX1 13 "VoicePartsModel" "number" "[I") (by decide +kernel)) (fun _ h9 => h9) rfl dX1_better_50 ?_
          refine lv_iload_n hx hb dX1_better_53 rfl (lv_at hl 6 rfl) ?_
          refine lv_iload hx hb dX1_better_54 (lv_at hl 0 rfl) ?_
          refine n_iast hx hb hK hP hD hS 2 0 rfl rfl (by omega) (by decide) dX1_better_56 (fun H locs hP hD hS => ?_)
          obtain ⟨A11, eA11⟩ : ∃ z : St, z = uV A5 (upV (sV A5) k (qi o i) (nI (a + 1))) := ⟨_, rfl⟩
          have hP : va_P D vwCl (mw h cI cZ A11 M) H := by rw [eA11]; have z := hP; rw [mVup (k := k) (i := qi o i) (by omega)] at z; exact z
          have hD : va_D G (mw h cI cZ A11 M) := va_D.to hD rfl
          have hIA11 : Inv A11 := by rw [eA11]; exact hIA5.uV (nI_20 (by omega))
          have xA11 : A11 = tryV A k (qi o i) (a + 1) := by rw [eA11, xA5]; exact try_try A k (qi o i) _ _
          refine lv_aload_n hx hb dX1_better_57 rfl (lv_at hl 5 rfl) ?_
          refine ro_callV (As := []) (rest := []) ⟨hx, hb, hml, hown, hts⟩ (kX1_missNow l D h cI cZ A11 M  hIA11 ) (cwV 0 hts gX1_better_X1_missNow rfl rfl rfl (by decide +kernel) ⟨Nat.le_of_ble_eq_true rfl, Nat.le_of_ble_eq_true rfl⟩) vB_bl (vB_at hP hK) (va_recv hK hP (ci := 1) (q0 := 0) rfl rfl) rfl hl.1 rfl (Nat.le_of_ble_eq_true rfl) dX1_better_58 ⟨Nat.zero_le _, Nat.zero_le _⟩ ?_
          refine lv_istore (lv' := [(6, .int (fm A11)), (5, .int (nI (a + 1))), (4, .int (fm A5)), (3, .int (nI (a - 1))), (2, .int (nI a)), (0, .ref (h 0)), (1, .int (nI (k * 16 + qi o i)))]) hx hb dX1_better_61 hl (by decide) rfl (fun ls hl => ?_)
          refine lv_iload hx hb dX1_better_63 (lv_at hl 0 rfl) ?_
          refine lv_iload hx hb dX1_better_65 (lv_at hl 2 rfl) ?_
          refine lv_icmp_ge (tgt := 75) hx hb dX1_better_67 (by decide) (fun c_67b => ?_) (fun c_67b => ?_)
          · refine lv_iload_n hx hb dX1_better_75 rfl (lv_at hl 3 rfl) ?_
            refine lv_istore_n (lv' := [(3, .int (nI (a - 1))), (6, .int (fm A11)), (5, .int (nI (a + 1))), (4, .int (fm A5)), (2, .int (nI a)), (0, .ref (h 0)), (1, .int (nI (k * 16 + qi o i)))]) hx hb dX1_better_76 rfl hl (by decide) rfl (fun ls hl => ?_)
            refine lv_iload hx hb dX1_better_77 (lv_at hl 1 rfl) ?_
            refine lv_iload hx hb dX1_better_79 (lv_at hl 3 rfl) ?_
            refine lv_icmp_ge (tgt := 89) hx hb dX1_better_81 (by decide) (fun c_81 => ?_) (fun c_81 => absurd c_67b c_81)
            refine lv_iload hx hb dX1_better_89 (lv_at hl 3 rfl) ?_
            refine lv_istore (lv' := [(4, .int (fm A5)), (3, .int (nI (a - 1))), (6, .int (fm A11)), (5, .int (nI (a + 1))), (2, .int (nI a)), (0, .ref (h 0)), (1, .int (nI (k * 16 + qi o i)))]) hx hb dX1_better_91 hl (by decide) rfl (fun ls hl => ?_)
            refine lv_iinc (v := nI (a + 1 + 2)) (lv' := [(5, .int (nI (a + 1 + 2))), (4, .int (fm A5)), (3, .int (nI (a - 1))), (6, .int (fm A11)), (2, .int (nI a)), (0, .ref (h 0)), (1, .int (nI (k * 16 + qi o i)))]) hx hb dX1_better_93 hl (k := 3) rfl (nI_add _ 2) (by decide) rfl (fun ls hl => ?_)
            refine lv_goto (tgt := 30) hx hb dX1_better_96 (by decide) ?_
            refine lv_iload hx hb dX1_better_30 (lv_at hl 0 rfl) ?_
            refine lv_iload_n hx hb dX1_better_32 rfl (lv_at hl 4 rfl) ?_
            refine lv_iconst (v := nI 1) hx hb dX1_better_33 (by decide) ?_
            refine n_iadd hx hb dX1_better_34 ?_
            refine n_icmp_gt (tgt := 99) hx hb (by omega) (by omega) dX1_better_35 (by decide) (fun c_35 => ?_) (fun c_35 => by exfalso; omega)
            refine lv_aload_n hx hb dX1_better_99 rfl (lv_at hl 5 rfl) ?_
            refine va_get (D := D) (ci := 1) (v := .ref (h 2)) (C := RX1) (T := TX1) (N := 13) hx hb hts hin0 hown hK hP 0 rfl rfl 4 (by decide) (hts (.fieldLink RX1 13 "VoicePartsModel" "number" "[I") (by decide +kernel)) (fun _ h9 => h9) rfl dX1_better_100 ?_
            refine lv_iload_n hx hb dX1_better_103 rfl (lv_at hl 6 rfl) ?_
            refine lv_iload_n hx hb dX1_better_104 rfl (lv_at hl 2 rfl) ?_
            refine n_iast hx hb hK hP hD hS 2 0 rfl rfl (by omega) (by decide) dX1_better_105 (fun H locs hP hD hS => ?_)
            obtain ⟨A12, eA12⟩ : ∃ z : St, z = uV A11 (upV (sV A11) k (qi o i) (nI (a - 1))) := ⟨_, rfl⟩
            have hP : va_P D vwCl (mw h cI cZ A12 M) H := by rw [eA12]; have z := hP; rw [mVup (k := k) (i := qi o i) (by omega)] at z; exact z
            have hD : va_D G (mw h cI cZ A12 M) := va_D.to hD rfl
            have xA12 : A12 = tryV A k (qi o i) (a - 1) := by rw [eA12, xA11]; exact try_try A k (qi o i) _ _
            exact hQ dX1_better_106 (by rw [mst_eq c_6 ea ha (bst_0 (ms := (fun x => fm (tryV A k (qi o i) x))) (b := a - 1) (if_pos ⟨ha1, show fm (tryV A k (qi o i) (a - 1)) < fm (tryV A k (qi o i) a) by rw [try_self ea, ← xA5]; exact Int32.not_le.mp c_67a⟩) (fun z => Int32.not_lt.mpr (show fm (tryV A k (qi o i) (a - 1)) ≤ fm (tryV A k (qi o i) (a + 1)) by rw [← xA5, ← xA11]; exact c_67b) z.2)), ← xA12]; exact hP) hS
          · refine lv_iload hx hb dX1_better_70 (lv_at hl 1 rfl) ?_
            refine lv_goto (tgt := 76) hx hb dX1_better_72 (by decide) ?_
            refine lv_istore_n (lv' := [(3, .int (nI (a + 1))), (6, .int (fm A11)), (5, .int (nI (a + 1))), (4, .int (fm A5)), (2, .int (nI a)), (0, .ref (h 0)), (1, .int (nI (k * 16 + qi o i)))]) hx hb dX1_better_76 rfl hl (by decide) rfl (fun ls hl => ?_)
            refine lv_iload hx hb dX1_better_77 (lv_at hl 1 rfl) ?_
            refine lv_iload hx hb dX1_better_79 (lv_at hl 3 rfl) ?_
            refine lv_icmp_ge (tgt := 89) hx hb dX1_better_81 (by decide) (fun c_81 => absurd c_81 c_67b) (fun c_81 => ?_)
            refine lv_iload hx hb dX1_better_84 (lv_at hl 1 rfl) ?_
            refine lv_goto (tgt := 91) hx hb dX1_better_86 (by decide) ?_
            refine lv_istore (lv' := [(4, .int (fm A11)), (3, .int (nI (a + 1))), (6, .int (fm A11)), (5, .int (nI (a + 1))), (2, .int (nI a)), (0, .ref (h 0)), (1, .int (nI (k * 16 + qi o i)))]) hx hb dX1_better_91 hl (by decide) rfl (fun ls hl => ?_)
            refine lv_iinc (v := nI (a + 1 + 2)) (lv' := [(5, .int (nI (a + 1 + 2))), (4, .int (fm A11)), (3, .int (nI (a + 1))), (6, .int (fm A11)), (2, .int (nI a)), (0, .ref (h 0)), (1, .int (nI (k * 16 + qi o i)))]) hx hb dX1_better_93 hl (k := 3) rfl (nI_add _ 2) (by decide) rfl (fun ls hl => ?_)
            refine lv_goto (tgt := 30) hx hb dX1_better_96 (by decide) ?_
            refine lv_iload hx hb dX1_better_30 (lv_at hl 0 rfl) ?_
            refine lv_iload_n hx hb dX1_better_32 rfl (lv_at hl 4 rfl) ?_
            refine lv_iconst (v := nI 1) hx hb dX1_better_33 (by decide) ?_
            refine n_iadd hx hb dX1_better_34 ?_
            refine n_icmp_gt (tgt := 99) hx hb (by omega) (by omega) dX1_better_35 (by decide) (fun c_35 => ?_) (fun c_35 => by exfalso; omega)
            refine lv_aload_n hx hb dX1_better_99 rfl (lv_at hl 5 rfl) ?_
            refine va_get (D := D) (ci := 1) (v := .ref (h 2)) (C := RX1) (T := TX1) (N := 13) hx hb hts hin0 hown hK hP 0 rfl rfl 4 (by decide) (hts (.fieldLink RX1 13 "VoicePartsModel" "number" "[I") (by decide +kernel)) (fun _ h9 => h9) rfl dX1_better_100 ?_
            refine lv_iload_n hx hb dX1_better_103 rfl (lv_at hl 6 rfl) ?_
            refine lv_iload_n hx hb dX1_better_104 rfl (lv_at hl 2 rfl) ?_
            refine n_iast hx hb hK hP hD hS 2 0 rfl rfl (by omega) (by decide) dX1_better_105 (fun H locs hP hD hS => ?_)
            obtain ⟨A13, eA13⟩ : ∃ z : St, z = uV A11 (upV (sV A11) k (qi o i) (nI (a + 1))) := ⟨_, rfl⟩
            have hP : va_P D vwCl (mw h cI cZ A13 M) H := by rw [eA13]; have z := hP; rw [mVup (k := k) (i := qi o i) (by omega)] at z; exact z
            have hD : va_D G (mw h cI cZ A13 M) := va_D.to hD rfl
            have xA13 : A13 = tryV A k (qi o i) (a + 1) := by rw [eA13, xA11]; exact try_try A k (qi o i) _ _
            exact hQ dX1_better_106 (by rw [mst_eq c_6 ea ha (bst_1 (ms := (fun x => fm (tryV A k (qi o i) x))) (b := a - 1) (if_pos ⟨ha1, show fm (tryV A k (qi o i) (a - 1)) < fm (tryV A k (qi o i) a) by rw [try_self ea, ← xA5]; exact Int32.not_le.mp c_67a⟩) (⟨ha2, show fm (tryV A k (qi o i) (a + 1)) < fm (tryV A k (qi o i) (a - 1)) by rw [← xA5, ← xA11]; exact Int32.not_le.mp c_67b⟩)), ← xA13]; exact hP) hS
  · exact hQ dX1_better_9 (by unfold mst; rw [if_pos c_6]; exact hP) hS
def rmX1_rounds : Room := { frames := 4, cells := 0, slots := 0, locals := 96 }
set_option maxHeartbeats 4000000 in
set_option maxRecDepth 100000 in
/-- rounds -/
theorem kX1_rounds (l : Launch) (D : va_G) (h : Nat → Nat) (cI cZ : ClassId) (A : St) (M : Nat → Int32) (hI : Inv A) (x : Int32) : MU l yX1_rounds wsX1_rounds rmX1_rounds [.ref (h 0), .int x] D [(cI, .int), (cZ, .boolean)] (mw h cI cZ A M) (mw h cI cZ (nRm A x) M) (some (.int (aRm A x))) := by
  refine mu_ofW (cc := cX1_rounds) (maxL := 5) (by decide) rfl (Nat.le_of_ble_eq_true rfl) ?_
  intro p e s m below meth c args Q G H locs hx hb hml hown hts hP hK hD hS hQ ls hl
  have hown : s.vm.findClass RX1 = some m.cls := hown
  have hin0 : ∀ w ∈ u_ws RX1 TX1 13, w ∈ wsX1_rounds := fun _ h => List.mem_cons_of_mem _ (List.mem_append_right _ h)
  have hl : lv_has ls 5 [(0, .ref (h 0)), (1, .int x)] := hl
  have hF := hI.F
  have hT := hI.T
  have hK3 := hI.K
  have hJ := hI.J
  have hZ := hI.Z
  refine lv_iload_n hx hb dX1_rounds_0 rfl (lv_at hl 1 rfl) ?_
  refine lv_iconst (v := nI 1) hx hb dX1_rounds_1 (by decide) ?_
  refine lv_bipush (v := nI 10) hx hb dX1_rounds_2 (by decide) ?_
  refine ro_callS (As := [.int x, .int (nI 1), .int (nI 10)]) (rest := []) ⟨hx, hb, hml, hown, hts⟩ (kX1_in l (x) (nI 1) (nI 10)) (va_cwS 3 hts gX1_rounds_X1_in rfl rfl rfl (by decide +kernel) ⟨Nat.le_of_ble_eq_true rfl, Nat.le_of_ble_eq_true rfl⟩) vT_bl vT_at rfl hl.1 rfl (Nat.le_of_ble_eq_true rfl) dX1_rounds_4 ⟨Nat.zero_le _, Nat.zero_le _⟩ ?_
  refine b_if_ne (tgt := 12) hx hb dX1_rounds_7 (by decide) (fun c_7 => ?_) (fun c_7 => ?_)
  · obtain ⟨u, hu, rfl⟩ := q1_of c_7 (by decide)
    refine lv_iconst (v := nI 0) hx hb dX1_rounds_12 (by decide) ?_
    refine lv_istore_n (lv' := [(2, .int (nI 0)), (0, .ref (h 0)), (1, .int (nI u))]) hx hb dX1_rounds_13 rfl hl (by decide) rfl (fun ls hl => ?_)
    have lp14 : ∀ (n14 r : Nat), r + n14 = u → ∀ (H : Heap) (locs : List Loc), va_P D vwCl (mw h cI cZ (uN (rN mst A r) (sN A + nI r)) M) H → va_S G s.heap H locs → ∀ (ls : Array Slot), lv_has ls 5 [(0, .ref (h 0)), (1, .int (nI u)), (2, .int (nI r))] → W p l e rmX1_rounds s m args below meth c H locs 0 0 Q (F0 m 14 ls []) := by
      intro n14
      induction n14 with
      | zero =>
        intro r hi14 H locs hP hS ls hl
        obtain rfl : u = r := by omega
        have hD : va_D G (mw h cI cZ (uN (rN mst A u) (sN A + nI u)) M) := va_D.to hD rfl
        refine lv_iload_n hx hb dX1_rounds_14 rfl (lv_at hl 2 rfl) ?_
        refine lv_iload_n hx hb dX1_rounds_15 rfl (lv_at hl 1 rfl) ?_
        refine n_icmp_ge (tgt := 112) hx hb (by omega) (by omega) dX1_rounds_16 (by decide) (fun c_16 => ?_) (fun c_16 => by exfalso; omega)
        refine lv_aload_n hx hb dX1_rounds_112 rfl (lv_at hl 0 rfl) ?_
        refine ro_callV (As := []) (rest := []) ⟨hx, hb, hml, hown, hts⟩ (kX1_missNow l D h cI cZ (uN (rN mst A u) (sN A + nI u)) M  (Inv.uN ((kp_N Kp_mst A u).2 hI) _) ) (cwV 0 hts gX1_rounds_X1_missNow rfl rfl rfl (by decide +kernel) ⟨Nat.le_of_ble_eq_true rfl, Nat.le_of_ble_eq_true rfl⟩) vB_bl (vB_at hP hK) (va_recv hK hP (ci := 1) (q0 := 0) rfl rfl) rfl hl.1 rfl (Nat.le_of_ble_eq_true rfl) dX1_rounds_113 ⟨Nat.zero_le _, Nat.zero_le _⟩ ?_
        exact hQ dX1_rounds_116 (by unfold aRm; rw [if_pos c_7, cl_nI (n := u) (by omega)]) (by unfold nRm; rw [if_pos c_7, cl_nI (n := u) (by omega)]; exact hP) hS
      | succ n14 ih14 =>
        intro r hi14 H locs hP hS ls hl
        have hD : va_D G (mw h cI cZ (uN (rN mst A r) (sN A + nI r)) M) := va_D.to hD rfl
        obtain ⟨B0, eB0⟩ : ∃ z : St, z = uN (rN mst A r) (sN A + nI r) := ⟨_, rfl⟩
        have hP : va_P D vwCl (mw h cI cZ B0 M) H := by rw [eB0]; exact hP
        have hD : va_D G (mw h cI cZ B0 M) := va_D.to hD rfl
        have hIB : Inv B0 := by rw [eB0]; exact Inv.uN ((kp_N Kp_mst A r).2 hI) _
        have hBK : sK B0 = sK A := by rw [eB0]; exact (kp_N Kp_mst A r).1.2.2.1
        have hBF : sF B0 = sF A := by rw [eB0]; exact (kp_N Kp_mst A r).1.1
        have hBT : sT B0 = sT A := by rw [eB0]; exact (kp_N Kp_mst A r).1.2.1
        refine lv_iload_n hx hb dX1_rounds_14 rfl (lv_at hl 2 rfl) ?_
        refine lv_iload_n hx hb dX1_rounds_15 rfl (lv_at hl 1 rfl) ?_
        refine n_icmp_ge (tgt := 112) hx hb (by omega) (by omega) dX1_rounds_16 (by decide) (fun c_16 => by exfalso; omega) (fun c_16 => ?_)
        refine lv_iconst (v := nI 0) hx hb dX1_rounds_19 (by decide) ?_
        refine lv_istore_n (lv' := [(3, .int (nI 0)), (0, .ref (h 0)), (1, .int (nI u)), (2, .int (nI r))]) hx hb dX1_rounds_20 rfl hl (by decide) rfl (fun ls hl => ?_)
        have lp21 : ∀ (n21 k : Nat), k + n21 = sK A → ∀ (H : Heap) (locs : List Loc), va_P D vwCl (mw h cI cZ (rK mst B0 k) M) H → va_S G s.heap H locs → ∀ (ls : Array Slot), lv_has ls 5 [(0, .ref (h 0)), (1, .int (nI u)), (2, .int (nI r)), (3, .int (nI k))] → W p l e rmX1_rounds s m args below meth c H locs 0 0 Q (F0 m 21 ls []) := by
          intro n21
          induction n21 with
          | zero =>
            intro k hi21 H locs hP hS ls hl
            obtain rfl : sK A = k := by omega
            have hD : va_D G (mw h cI cZ (rK mst B0 (sK A)) M) := va_D.to hD rfl
            refine lv_iload_n hx hb dX1_rounds_21 rfl (lv_at hl 3 rfl) ?_
            refine lv_aload_n hx hb dX1_rounds_22 rfl (lv_at hl 0 rfl) ?_
            refine va_get (D := D) (ci := 1) (v := .int (nI (sK (rK mst B0 (sK A))))) (C := RX1) (T := TX1) (N := 13) hx hb hts hin0 hown hK hP 0 rfl rfl 2 (by decide) (hts (.fieldLink RX1 43 "VoicePartsModel" "voices" "I") (by decide +kernel)) (fun _ h9 => h9) rfl dX1_rounds_23 ?_
            refine n_top (y := nI (sK A)) (by rw [(kp_K Kp_mst B0 _).1.2.2.1, hBK]) ?_
            refine n_icmp_ge (tgt := 96) hx hb (by omega) (by omega) dX1_rounds_26 (by decide) (fun c_26 => ?_) (fun c_26 => by exfalso; omega)
            refine lv_aload_n hx hb dX1_rounds_96 rfl (lv_at hl 0 rfl) ?_
            refine lv_dup hx hb dX1_rounds_97 rfl ?_
            refine va_get (D := D) (ci := 1) (v := .int (sN (rK mst B0 (sK A)))) (C := RX1) (T := TX1) (N := 13) hx hb hts hin0 hown hK hP 0 rfl rfl 8 (by decide) (hts (.fieldLink RX1 101 "VoicePartsModel" "roundsDone" "I") (by decide +kernel)) (fun _ h9 => h9) rfl dX1_rounds_98 ?_
            refine n_top (y := sN A + nI r) (by rw [(kp_K Kp_mst B0 _).1.2.2.2, eB0]; rfl) ?_
            refine lv_iconst (v := nI 1) hx hb dX1_rounds_101 (by decide) ?_
            refine lv_iadd hx hb dX1_rounds_102 ?_
            refine n_top (y := sN A + nI (r + 1)) (by rw [Int32.add_assoc, nI_add]) ?_
            refine va_put (D := D) (ci := 1) (v := .int (sN A + nI (r + 1))) (ty := .int) (C := RX1) (T := TX1) (N := 13) hx hb hts hin0 tyX1 tyX1_ok nmX1 hown hK hP hD hS 0 rfl rfl 8 (by decide) (hts (.fieldLink RX1 101 "VoicePartsModel" "roundsDone" "I") (by decide +kernel)) (fun _ h9 => h9) rfl (by decide +kernel) rfl rfl (Nat.le_of_ble_eq_true rfl) dX1_rounds_103 (fun H locs hP hD hS => ?_)
            obtain ⟨A1, eA1⟩ : ∃ z : St, z = uN (rK mst B0 (sK A)) (sN A + nI (r + 1)) := ⟨_, rfl⟩
            have hP : va_P D vwCl (mw h cI cZ A1 M) H := by rw [eA1]; exact hP
            have hD : va_D G (mw h cI cZ A1 M) := va_D.to hD rfl
            refine lv_iinc (v := nI (r + 1)) (lv' := [(2, .int (nI (r + 1))), (0, .ref (h 0)), (1, .int (nI u)), (3, .int (nI (sK A)))]) hx hb dX1_rounds_106 hl (k := 2) rfl (nI_inc _) (by decide) rfl (fun ls hl => ?_)
            refine lv_goto (tgt := 14) hx hb dX1_rounds_109 (by decide) ?_
            exact ih14 (r + 1) (by omega) H locs (by have z := hP; rw [eA1, eB0, rK_uN] at z; exact z) hS ls (lv_sub hl [1, 2, 0] rfl)
          | succ n21 ih21 =>
            intro k hi21 H locs hP hS ls hl
            have hD : va_D G (mw h cI cZ (rK mst B0 k) M) := va_D.to hD rfl
            refine lv_iload_n hx hb dX1_rounds_21 rfl (lv_at hl 3 rfl) ?_
            refine lv_aload_n hx hb dX1_rounds_22 rfl (lv_at hl 0 rfl) ?_
            refine va_get (D := D) (ci := 1) (v := .int (nI (sK (rK mst B0 k)))) (C := RX1) (T := TX1) (N := 13) hx hb hts hin0 hown hK hP 0 rfl rfl 2 (by decide) (hts (.fieldLink RX1 43 "VoicePartsModel" "voices" "I") (by decide +kernel)) (fun _ h9 => h9) rfl dX1_rounds_23 ?_
            refine n_top (y := nI (sK A)) (by rw [(kp_K Kp_mst B0 _).1.2.2.1, hBK]) ?_
            refine n_icmp_ge (tgt := 96) hx hb (by omega) (by omega) dX1_rounds_26 (by decide) (fun c_26 => by exfalso; omega) (fun c_26 => ?_)
            have hkF : sF (rK mst B0 k) ≤ 6 := by rw [(kp_K Kp_mst B0 k).1.1, hBF]; exact hF.2
            have hkT : sT (rK mst B0 k) ≤ 8 := by rw [(kp_K Kp_mst B0 k).1.2.1, hBT]; exact hT.2
            refine lv_iconst (v := nI 0) hx hb dX1_rounds_29 (by decide) ?_
            refine lv_istore (lv' := [(4, .int (nI 0)), (0, .ref (h 0)), (1, .int (nI u)), (2, .int (nI r)), (3, .int (nI k))]) hx hb dX1_rounds_30 hl (by decide) rfl (fun ls hl => ?_)
            have lp32 : ∀ (n32 f : Nat), f + n32 = sF (rK mst B0 k) → ∀ (H : Heap) (locs : List Loc), va_P D vwCl (mw h cI cZ (rI mst (rK mst B0 k) k 0 f) M) H → va_S G s.heap H locs → ∀ (ls : Array Slot), lv_has ls 5 [(0, .ref (h 0)), (1, .int (nI u)), (2, .int (nI r)), (3, .int (nI k)), (4, .int (nI f))] → W p l e rmX1_rounds s m args below meth c H locs 0 0 Q (F0 m 32 ls []) := by
              intro n32
              induction n32 with
              | zero =>
                intro f hi32 H locs hP hS ls hl
                obtain rfl : sF (rK mst B0 k) = f := by omega
                have hD : va_D G (mw h cI cZ (rI mst (rK mst B0 k) k 0 (sF (rK mst B0 k))) M) := va_D.to hD rfl
                refine lv_iload hx hb dX1_rounds_32 (lv_at hl 4 rfl) ?_
                refine lv_aload_n hx hb dX1_rounds_34 rfl (lv_at hl 0 rfl) ?_
                refine va_get (D := D) (ci := 1) (v := .int (nI (sF (rI mst (rK mst B0 k) k 0 (sF (rK mst B0 k)))))) (C := RX1) (T := TX1) (N := 13) hx hb hts hin0 hown hK hP 0 rfl rfl 0 (by decide) (hts (.fieldLink RX1 36 "VoicePartsModel" "tones" "I") (by decide +kernel)) (fun _ h9 => h9) rfl dX1_rounds_35 ?_
                refine n_top (y := nI (sF (rK mst B0 k))) (by rw [(kp_I Kp_mst (rK mst B0 k) k 0 _).1.1]) ?_
                refine n_icmp_ge (tgt := 58) hx hb (by omega) (by omega) dX1_rounds_38 (by decide) (fun c_38 => ?_) (fun c_38 => by exfalso; omega)
                refine lv_iconst (v := nI 0) hx hb dX1_rounds_58 (by decide) ?_
                refine lv_istore (lv' := [(4, .int (nI 0)), (0, .ref (h 0)), (1, .int (nI u)), (2, .int (nI r)), (3, .int (nI k))]) hx hb dX1_rounds_59 hl (by decide) rfl (fun ls hl => ?_)
                have lp61 : ∀ (n61 t : Nat), t + n61 = sT (rK mst B0 k) → ∀ (H : Heap) (locs : List Loc), va_P D vwCl (mw h cI cZ (rI mst (rI mst (rK mst B0 k) k 0 (sF (rK mst B0 k))) k 1 t) M) H → va_S G s.heap H locs → ∀ (ls : Array Slot), lv_has ls 5 [(0, .ref (h 0)), (1, .int (nI u)), (2, .int (nI r)), (3, .int (nI k)), (4, .int (nI t))] → W p l e rmX1_rounds s m args below meth c H locs 0 0 Q (F0 m 61 ls []) := by
                  intro n61
                  induction n61 with
                  | zero =>
                    intro t hi61 H locs hP hS ls hl
                    obtain rfl : sT (rK mst B0 k) = t := by omega
                    have hD : va_D G (mw h cI cZ (rI mst (rI mst (rK mst B0 k) k 0 (sF (rK mst B0 k))) k 1 (sT (rK mst B0 k))) M) := va_D.to hD rfl
                    refine lv_iload hx hb dX1_rounds_61 (lv_at hl 4 rfl) ?_
                    refine lv_aload_n hx hb dX1_rounds_63 rfl (lv_at hl 0 rfl) ?_
                    refine va_get (D := D) (ci := 1) (v := .int (nI (sT (rI mst (rI mst (rK mst B0 k) k 0 (sF (rK mst B0 k))) k 1 (sT (rK mst B0 k)))))) (C := RX1) (T := TX1) (N := 13) hx hb hts hin0 hown hK hP 0 rfl rfl 1 (by decide) (hts (.fieldLink RX1 40 "VoicePartsModel" "times" "I") (by decide +kernel)) (fun _ h9 => h9) rfl dX1_rounds_64 ?_
                    refine n_top (y := nI (sT (rK mst B0 k))) (by rw [(kp_I Kp_mst _ k 1 _).1.2.1, (kp_I Kp_mst (rK mst B0 k) k 0 _).1.2.1]) ?_
                    refine n_icmp_ge (tgt := 90) hx hb (by omega) (by omega) dX1_rounds_67 (by decide) (fun c_67 => ?_) (fun c_67 => by exfalso; omega)
                    refine lv_iinc (v := nI (k + 1)) (lv' := [(3, .int (nI (k + 1))), (0, .ref (h 0)), (1, .int (nI u)), (2, .int (nI r)), (4, .int (nI (sT (rK mst B0 k))))]) hx hb dX1_rounds_90 hl (k := 3) rfl (nI_inc _) (by decide) rfl (fun ls hl => ?_)
                    refine lv_goto (tgt := 21) hx hb dX1_rounds_93 (by decide) ?_
                    exact ih21 (k + 1) (by omega) H locs (hP) hS ls (lv_sub hl [1, 2, 3, 0] rfl)
                  | succ n61 ih61 =>
                    intro t hi61 H locs hP hS ls hl
                    have hD : va_D G (mw h cI cZ (rI mst (rI mst (rK mst B0 k) k 0 (sF (rK mst B0 k))) k 1 t) M) := va_D.to hD rfl
                    refine lv_iload hx hb dX1_rounds_61 (lv_at hl 4 rfl) ?_
                    refine lv_aload_n hx hb dX1_rounds_63 rfl (lv_at hl 0 rfl) ?_
                    refine va_get (D := D) (ci := 1) (v := .int (nI (sT (rI mst (rI mst (rK mst B0 k) k 0 (sF (rK mst B0 k))) k 1 t)))) (C := RX1) (T := TX1) (N := 13) hx hb hts hin0 hown hK hP 0 rfl rfl 1 (by decide) (hts (.fieldLink RX1 40 "VoicePartsModel" "times" "I") (by decide +kernel)) (fun _ h9 => h9) rfl dX1_rounds_64 ?_
                    refine n_top (y := nI (sT (rK mst B0 k))) (by rw [(kp_I Kp_mst _ k 1 _).1.2.1, (kp_I Kp_mst (rK mst B0 k) k 0 _).1.2.1]) ?_
                    refine n_icmp_ge (tgt := 90) hx hb (by omega) (by omega) dX1_rounds_67 (by decide) (fun c_67 => by exfalso; omega) (fun c_67 => ?_)
                    refine lv_aload_n hx hb dX1_rounds_70 rfl (lv_at hl 0 rfl) ?_
                    refine lv_bipush (v := nI 16) hx hb dX1_rounds_71 (by decide) ?_
                    refine lv_iload_n hx hb dX1_rounds_73 rfl (lv_at hl 3 rfl) ?_
                    refine n_imulc hx hb dX1_rounds_74 ?_
                    refine lv_bipush (v := nI 6) hx hb dX1_rounds_75 (by decide) ?_
                    refine n_iadd hx hb dX1_rounds_77 ?_
                    refine lv_iload hx hb dX1_rounds_78 (lv_at hl 4 rfl) ?_
                    refine n_iadd hx hb dX1_rounds_80 ?_
                    refine n_top (y := nI (k * 16 + (6 + t))) (by rw [Nat.add_assoc]) ?_
                    refine mu_callV (As := [.int (nI (k * 16 + (6 + t)))]) (rest := []) ⟨hx, hb, hml, hown, hts⟩ (kX1_better l D h cI cZ (rI mst (rI mst (rK mst B0 k) k 0 (sF (rK mst B0 k))) k 1 t) M ((kp_I Kp_mst (rI mst (rK mst B0 k) k 0 (sF (rK mst B0 k))) k 1 t).2 ((kp_I Kp_mst (rK mst B0 k) k 0 _).2 ((kp_K Kp_mst B0 k).2 hIB))) k 1 t (by omega) (by decide) (show t < 8 by omega)) (cwV 1 hts gX1_rounds_X1_better rfl rfl rfl (by decide +kernel) ⟨Nat.le_of_ble_eq_true rfl, Nat.le_of_ble_eq_true rfl⟩) hP hK hD hS (va_recv hK hP (ci := 1) (q0 := 0) rfl rfl) rfl hl.1 rfl (Nat.le_of_ble_eq_true rfl) dX1_rounds_81 ⟨Nat.zero_le _, Nat.zero_le _⟩ (fun H locs hP hS _ => ?_)
                    have hD : va_D G (mw h cI cZ (mst (rI mst (rI mst (rK mst B0 k) k 0 (sF (rK mst B0 k))) k 1 t) k 1 t) M) := va_D.to hD rfl
                    refine W.eq (g2 := F0 m 84 ls []) rfl ?_
                    refine lv_iinc (v := nI (t + 1)) (lv' := [(4, .int (nI (t + 1))), (0, .ref (h 0)), (1, .int (nI u)), (2, .int (nI r)), (3, .int (nI k))]) hx hb dX1_rounds_84 hl (k := 4) rfl (nI_inc _) (by decide) rfl (fun ls hl => ?_)
                    refine lv_goto (tgt := 61) hx hb dX1_rounds_87 (by decide) ?_
                    exact ih61 (t + 1) (by omega) H locs (hP) hS ls (lv_sub hl [1, 2, 3, 4, 0] rfl)
                exact lp61 (sT (rK mst B0 k)) (0) (by omega) H locs (hP) hS ls (lv_sub hl [1, 2, 3, 4, 0] rfl)
              | succ n32 ih32 =>
                intro f hi32 H locs hP hS ls hl
                have hD : va_D G (mw h cI cZ (rI mst (rK mst B0 k) k 0 f) M) := va_D.to hD rfl
                refine lv_iload hx hb dX1_rounds_32 (lv_at hl 4 rfl) ?_
                refine lv_aload_n hx hb dX1_rounds_34 rfl (lv_at hl 0 rfl) ?_
                refine va_get (D := D) (ci := 1) (v := .int (nI (sF (rI mst (rK mst B0 k) k 0 f)))) (C := RX1) (T := TX1) (N := 13) hx hb hts hin0 hown hK hP 0 rfl rfl 0 (by decide) (hts (.fieldLink RX1 36 "VoicePartsModel" "tones" "I") (by decide +kernel)) (fun _ h9 => h9) rfl dX1_rounds_35 ?_
                refine n_top (y := nI (sF (rK mst B0 k))) (by rw [(kp_I Kp_mst (rK mst B0 k) k 0 _).1.1]) ?_
                refine n_icmp_ge (tgt := 58) hx hb (by omega) (by omega) dX1_rounds_38 (by decide) (fun c_38 => by exfalso; omega) (fun c_38 => ?_)
                refine lv_aload_n hx hb dX1_rounds_41 rfl (lv_at hl 0 rfl) ?_
                refine lv_bipush (v := nI 16) hx hb dX1_rounds_42 (by decide) ?_
                refine lv_iload_n hx hb dX1_rounds_44 rfl (lv_at hl 3 rfl) ?_
                refine n_imulc hx hb dX1_rounds_45 ?_
                refine lv_iload hx hb dX1_rounds_46 (lv_at hl 4 rfl) ?_
                refine n_iadd hx hb dX1_rounds_48 ?_
                refine mu_callV (As := [.int (nI (k * 16 + f))]) (rest := []) ⟨hx, hb, hml, hown, hts⟩ (kX1_better l D h cI cZ (rI mst (rK mst B0 k) k 0 f) M ((kp_I Kp_mst (rK mst B0 k) k 0 f).2 ((kp_K Kp_mst B0 k).2 hIB)) k 0 f (by omega) (by decide) (show f < 6 by omega)) (cwV 1 hts gX1_rounds_X1_better rfl rfl rfl (by decide +kernel) ⟨Nat.le_of_ble_eq_true rfl, Nat.le_of_ble_eq_true rfl⟩) hP hK hD hS (va_recv hK hP (ci := 1) (q0 := 0) rfl rfl) rfl hl.1 rfl (Nat.le_of_ble_eq_true rfl) dX1_rounds_49 ⟨Nat.zero_le _, Nat.zero_le _⟩ (fun H locs hP hS _ => ?_)
                have hD : va_D G (mw h cI cZ (mst (rI mst (rK mst B0 k) k 0 f) k 0 f) M) := va_D.to hD rfl
                refine W.eq (g2 := F0 m 52 ls []) rfl ?_
                refine lv_iinc (v := nI (f + 1)) (lv' := [(4, .int (nI (f + 1))), (0, .ref (h 0)), (1, .int (nI u)), (2, .int (nI r)), (3, .int (nI k))]) hx hb dX1_rounds_52 hl (k := 4) rfl (nI_inc _) (by decide) rfl (fun ls hl => ?_)
                refine lv_goto (tgt := 32) hx hb dX1_rounds_55 (by decide) ?_
                exact ih32 (f + 1) (by omega) H locs (hP) hS ls (lv_sub hl [1, 2, 3, 4, 0] rfl)
            exact lp32 (sF (rK mst B0 k)) (0) (by omega) H locs (hP) hS ls (lv_sub hl [1, 2, 3, 4, 0] rfl)
        exact lp21 (sK A) (0) (by omega) H locs (hP) hS ls (lv_sub hl [1, 2, 3, 0] rfl)
    exact lp14 (u) (0) (by omega) H locs (by rw [show sN A + nI 0 = sN A from Int32.add_zero _]; exact hP) hS ls (lv_sub hl [1, 2, 0] rfl)
  · refine lv_iconst (v := (-1)) hx hb dX1_rounds_10 (by decide) ?_
    exact hQ dX1_rounds_11 (by unfold aRm; rw [if_neg c_7]) (by unfold nRm; rw [if_neg c_7]; exact hP) hS
def rmX1_later : Room := { frames := 2, cells := 0, slots := 0, locals := 45 }
set_option maxHeartbeats 4000000 in
set_option maxRecDepth 100000 in
/-- later -/
theorem kX1_later (l : Launch) (D : va_G) (h : Nat → Nat) (cI cZ : ClassId) (A : St) (M : Nat → Int32) (hI : Inv A) : RO l yX1_later wsX1_later rmX1_later [.ref (h 0)] (vB D (mw h cI cZ A M) [(cI, .int), (cZ, .boolean)]) (aLm A) := by
  refine ro_ofW (cc := cX1_later) (maxL := 3) (by decide) rfl (Nat.le_of_ble_eq_true rfl) ?_
  intro p e s m below meth c args Q hx hb hml hown hts hB hQ ls hl
  have hown : s.vm.findClass RX1 = some m.cls := hown
  obtain ⟨hP, hK⟩ := hB
  have hin0 : ∀ w ∈ u_ws RX1 TX1 13, w ∈ wsX1_later := fun _ h => List.mem_cons_of_mem _ (List.mem_append_right _ h)
  have hl : lv_has ls 3 [(0, .ref (h 0))] := hl
  have hF := hI.F
  have hT := hI.T
  have hK3 := hI.K
  have hJ := hI.J
  have hZ := hI.Z
  refine lv_aload_n hx hb dX1_later_0 rfl (lv_at hl 0 rfl) ?_
  refine va_get (D := D) (ci := 1) (v := .ref (h 5)) (C := RX1) (T := TX1) (N := 13) hx hb hts hin0 hown hK hP 0 rfl rfl 9 (by decide) (hts (.fieldLink RX1 23 "VoicePartsModel" "heard" "[I") (by decide +kernel)) (fun _ h9 => h9) rfl dX1_later_1 ?_
  refine lv_iconst (v := nI 0) hx hb dX1_later_4 (by decide) ?_
  refine n_iald hx hb hK hP 5 0 rfl rfl (by omega) (by decide) dX1_later_5 ?_
  refine n_if_eq (tgt := 18) hx hb (by omega) dX1_later_6 (by decide) (fun c_6 => ?_) (fun c_6 => ?_)
  · refine lv_bipush (v := (-9)) hx hb dX1_later_18 (by decide) ?_
    exact hQ dX1_later_20 (by unfold aLm; rw [if_pos (Or.inl c_6)])
  · refine lv_aload_n hx hb dX1_later_9 rfl (lv_at hl 0 rfl) ?_
    refine va_get (D := D) (ci := 1) (v := .ref (h 5)) (C := RX1) (T := TX1) (N := 13) hx hb hts hin0 hown hK hP 0 rfl rfl 9 (by decide) (hts (.fieldLink RX1 23 "VoicePartsModel" "heard" "[I") (by decide +kernel)) (fun _ h9 => h9) rfl dX1_later_10 ?_
    refine lv_iconst (v := nI 1) hx hb dX1_later_13 (by decide) ?_
    refine n_iald hx hb hK hP 5 0 rfl rfl (by omega) (by decide) dX1_later_14 ?_
    refine n_if_ne (tgt := 21) hx hb (by omega) dX1_later_15 (by decide) (fun c_15 => ?_) (fun c_15 => ?_)
    · refine lv_iconst (v := nI 0) hx hb dX1_later_21 (by decide) ?_
      refine lv_istore_n (lv' := [(1, .int (nI 0)), (0, .ref (h 0))]) hx hb dX1_later_22 rfl hl (by decide) rfl (fun ls hl => ?_)
      refine lv_iconst (v := nI 1) hx hb dX1_later_23 (by decide) ?_
      refine lv_istore_n (lv' := [(2, .int (nI 1)), (1, .int (nI 0)), (0, .ref (h 0))]) hx hb dX1_later_24 rfl hl (by decide) rfl (fun ls hl => ?_)
      have lp25 : ∀ (n25 i : Nat), i + n25 = 7 → ∀ (ls : Array Slot), lv_has ls 3 [(0, .ref (h 0)), (1, .int (mlb A i)), (2, .int (nI (i + 1)))] → W p l e rmX1_later s m args below meth c s.heap [] 0 0 Q (F0 m 25 ls []) := by
        intro n25
        induction n25 with
        | zero =>
          intro i hi25 ls hl
          obtain rfl : 7 = i := by omega
          refine lv_iload_n hx hb dX1_later_25 rfl (lv_at hl 2 rfl) ?_
          refine lv_bipush (v := nI 8) hx hb dX1_later_26 (by decide) ?_
          refine n_icmp_ge (tgt := 77) hx hb (by omega) (by omega) dX1_later_28 (by decide) (fun c_28 => ?_) (fun c_28 => by exfalso; omega)
          refine lv_iload_n hx hb dX1_later_77 rfl (lv_at hl 1 rfl) ?_
          exact hQ dX1_later_78 (by unfold aLm; rw [if_neg (fun q => q.elim c_6 c_15)])
        | succ n25 ih25 =>
          intro i hi25 ls hl
          refine lv_iload_n hx hb dX1_later_25 rfl (lv_at hl 2 rfl) ?_
          refine lv_bipush (v := nI 8) hx hb dX1_later_26 (by decide) ?_
          refine n_icmp_ge (tgt := 77) hx hb (by omega) (by omega) dX1_later_28 (by decide) (fun c_28 => by exfalso; omega) (fun c_28 => ?_)
          refine lv_aload_n hx hb dX1_later_31 rfl (lv_at hl 0 rfl) ?_
          refine lv_iload_n hx hb dX1_later_32 rfl (lv_at hl 2 rfl) ?_
          refine lv_ineg hx hb dX1_later_33 ?_
          refine ro_callV (As := [.int (-(nI (i + 1)))]) (rest := []) ⟨hx, hb, hml, hown, hts⟩ (kX1_productBy l D h cI cZ A M hI (-(nI (i + 1))) (by omega)) (cwV 1 hts gX1_later_X1_productBy rfl rfl rfl (by decide +kernel) ⟨Nat.le_of_ble_eq_true rfl, Nat.le_of_ble_eq_true rfl⟩) vB_bl (vB_at hP hK) (va_recv hK hP (ci := 1) (q0 := 0) rfl rfl) rfl hl.1 rfl (Nat.le_of_ble_eq_true rfl) dX1_later_34 ⟨Nat.zero_le _, Nat.zero_le _⟩ ?_
          refine lv_aload_n hx hb dX1_later_37 rfl (lv_at hl 0 rfl) ?_
          refine lv_iload_n hx hb dX1_later_38 rfl (lv_at hl 1 rfl) ?_
          refine ro_callV (As := [.int (mlb A i)]) (rest := [.int (fpd A (-(nI (i + 1))))]) ⟨hx, hb, hml, hown, hts⟩ (kX1_productBy l D h cI cZ A M hI (mlb A i) (by omega)) (cwV 1 hts gX1_later_X1_productBy rfl rfl rfl (by decide +kernel) ⟨Nat.le_of_ble_eq_true rfl, Nat.le_of_ble_eq_true rfl⟩) vB_bl (vB_at hP hK) (va_recv hK hP (ci := 1) (q0 := 0) rfl rfl) rfl hl.1 rfl (Nat.le_of_ble_eq_true rfl) dX1_later_39 ⟨Nat.zero_le _, Nat.zero_le _⟩ ?_
          refine lv_icmp_le (tgt := 50) hx hb dX1_later_42 (by decide) (fun c_42 => ?_) (fun c_42 => ?_)
          · refine lv_iload_n hx hb dX1_later_50 rfl (lv_at hl 1 rfl) ?_
            refine lv_istore_n (lv' := [(1, .int (mlb A i)), (0, .ref (h 0)), (2, .int (nI (i + 1)))]) hx hb dX1_later_51 rfl hl (by decide) rfl (fun ls hl => ?_)
            have hl : lv_has ls 3 [(1, .int (mls A (mlb A i) (i + 1))), (0, .ref (h 0)), (2, .int (nI (i + 1)))] := by rw [show mls A (mlb A i) (i + 1) = mlb A i from if_neg (Int32.not_lt.mpr c_42)]; exact hl
            refine lv_aload_n hx hb dX1_later_52 rfl (lv_at hl 1 rfl) ?_
            refine lv_iload_n hx hb dX1_later_53 rfl (lv_at hl 2 rfl) ?_
            refine ro_callV (As := [.int (nI (i + 1))]) (rest := []) ⟨hx, hb, hml, hown, hts⟩ (kX1_productBy l D h cI cZ A M hI (nI (i + 1)) (by omega)) (cwV 1 hts gX1_later_X1_productBy rfl rfl rfl (by decide +kernel) ⟨Nat.le_of_ble_eq_true rfl, Nat.le_of_ble_eq_true rfl⟩) vB_bl (vB_at hP hK) (va_recv hK hP (ci := 1) (q0 := 0) rfl rfl) rfl hl.1 rfl (Nat.le_of_ble_eq_true rfl) dX1_later_54 ⟨Nat.zero_le _, Nat.zero_le _⟩ ?_
            refine lv_aload_n hx hb dX1_later_57 rfl (lv_at hl 1 rfl) ?_
            refine lv_iload_n hx hb dX1_later_58 rfl (lv_at hl 0 rfl) ?_
            refine ro_callV (As := [.int (mls A (mlb A i) (i + 1))]) (rest := [.int (fpd A (nI (i + 1)))]) ⟨hx, hb, hml, hown, hts⟩ (kX1_productBy l D h cI cZ A M hI (mls A (mlb A i) (i + 1)) (by omega)) (cwV 1 hts gX1_later_X1_productBy rfl rfl rfl (by decide +kernel) ⟨Nat.le_of_ble_eq_true rfl, Nat.le_of_ble_eq_true rfl⟩) vB_bl (vB_at hP hK) (va_recv hK hP (ci := 1) (q0 := 0) rfl rfl) rfl hl.1 rfl (Nat.le_of_ble_eq_true rfl) dX1_later_59 ⟨Nat.zero_le _, Nat.zero_le _⟩ ?_
            refine lv_icmp_le (tgt := 69) hx hb dX1_later_62 (by decide) (fun c_62 => ?_) (fun c_62 => ?_)
            · refine lv_iload_n hx hb dX1_later_69 rfl (lv_at hl 0 rfl) ?_
              refine lv_istore_n (lv' := [(1, .int (mls A (mlb A i) (i + 1))), (0, .ref (h 0)), (2, .int (nI (i + 1)))]) hx hb dX1_later_70 rfl hl (by decide) rfl (fun ls hl => ?_)
              have hl : lv_has ls 3 [(1, .int (mlb A (i + 1))), (0, .ref (h 0)), (2, .int (nI (i + 1)))] := by rw [show mlb A (i + 1) = mls A (mlb A i) (i + 1) from if_neg (Int32.not_lt.mpr c_62)]; exact hl
              refine lv_iinc (v := nI (i + 1 + 1)) (lv' := [(2, .int (nI (i + 1 + 1))), (1, .int (mlb A (i + 1))), (0, .ref (h 0))]) hx hb dX1_later_71 hl (k := 2) rfl (nI_inc _) (by decide) rfl (fun ls hl => ?_)
              refine lv_goto (tgt := 25) hx hb dX1_later_74 (by decide) ?_
              exact ih25 (i + 1) (by omega) ls (lv_sub hl [2, 1, 0] rfl)
            · refine lv_iload_n hx hb dX1_later_65 rfl (lv_at hl 2 rfl) ?_
              refine lv_goto (tgt := 70) hx hb dX1_later_66 (by decide) ?_
              refine lv_istore_n (lv' := [(1, .int (nI (i + 1))), (0, .ref (h 0)), (2, .int (nI (i + 1)))]) hx hb dX1_later_70 rfl hl (by decide) rfl (fun ls hl => ?_)
              have hl : lv_has ls 3 [(1, .int (mlb A (i + 1))), (0, .ref (h 0)), (2, .int (nI (i + 1)))] := by rw [show mlb A (i + 1) = nI (i + 1) from if_pos (Int32.not_le.mp c_62)]; exact hl
              refine lv_iinc (v := nI (i + 1 + 1)) (lv' := [(2, .int (nI (i + 1 + 1))), (1, .int (mlb A (i + 1))), (0, .ref (h 0))]) hx hb dX1_later_71 hl (k := 2) rfl (nI_inc _) (by decide) rfl (fun ls hl => ?_)
              refine lv_goto (tgt := 25) hx hb dX1_later_74 (by decide) ?_
              exact ih25 (i + 1) (by omega) ls (lv_sub hl [2, 1, 0] rfl)
          · refine lv_iload_n hx hb dX1_later_45 rfl (lv_at hl 2 rfl) ?_
            refine lv_ineg hx hb dX1_later_46 ?_
            refine lv_goto (tgt := 51) hx hb dX1_later_47 (by decide) ?_
            refine lv_istore_n (lv' := [(1, .int (-(nI (i + 1)))), (0, .ref (h 0)), (2, .int (nI (i + 1)))]) hx hb dX1_later_51 rfl hl (by decide) rfl (fun ls hl => ?_)
            have hl : lv_has ls 3 [(1, .int (mls A (mlb A i) (i + 1))), (0, .ref (h 0)), (2, .int (nI (i + 1)))] := by rw [show mls A (mlb A i) (i + 1) = -(nI (i + 1)) from if_pos (Int32.not_le.mp c_42)]; exact hl
            refine lv_aload_n hx hb dX1_later_52 rfl (lv_at hl 1 rfl) ?_
            refine lv_iload_n hx hb dX1_later_53 rfl (lv_at hl 2 rfl) ?_
            refine ro_callV (As := [.int (nI (i + 1))]) (rest := []) ⟨hx, hb, hml, hown, hts⟩ (kX1_productBy l D h cI cZ A M hI (nI (i + 1)) (by omega)) (cwV 1 hts gX1_later_X1_productBy rfl rfl rfl (by decide +kernel) ⟨Nat.le_of_ble_eq_true rfl, Nat.le_of_ble_eq_true rfl⟩) vB_bl (vB_at hP hK) (va_recv hK hP (ci := 1) (q0 := 0) rfl rfl) rfl hl.1 rfl (Nat.le_of_ble_eq_true rfl) dX1_later_54 ⟨Nat.zero_le _, Nat.zero_le _⟩ ?_
            refine lv_aload_n hx hb dX1_later_57 rfl (lv_at hl 1 rfl) ?_
            refine lv_iload_n hx hb dX1_later_58 rfl (lv_at hl 0 rfl) ?_
            refine ro_callV (As := [.int (mls A (mlb A i) (i + 1))]) (rest := [.int (fpd A (nI (i + 1)))]) ⟨hx, hb, hml, hown, hts⟩ (kX1_productBy l D h cI cZ A M hI (mls A (mlb A i) (i + 1)) (by omega)) (cwV 1 hts gX1_later_X1_productBy rfl rfl rfl (by decide +kernel) ⟨Nat.le_of_ble_eq_true rfl, Nat.le_of_ble_eq_true rfl⟩) vB_bl (vB_at hP hK) (va_recv hK hP (ci := 1) (q0 := 0) rfl rfl) rfl hl.1 rfl (Nat.le_of_ble_eq_true rfl) dX1_later_59 ⟨Nat.zero_le _, Nat.zero_le _⟩ ?_
            refine lv_icmp_le (tgt := 69) hx hb dX1_later_62 (by decide) (fun c_62 => ?_) (fun c_62 => ?_)
            · refine lv_iload_n hx hb dX1_later_69 rfl (lv_at hl 0 rfl) ?_
              refine lv_istore_n (lv' := [(1, .int (mls A (mlb A i) (i + 1))), (0, .ref (h 0)), (2, .int (nI (i + 1)))]) hx hb dX1_later_70 rfl hl (by decide) rfl (fun ls hl => ?_)
              have hl : lv_has ls 3 [(1, .int (mlb A (i + 1))), (0, .ref (h 0)), (2, .int (nI (i + 1)))] := by rw [show mlb A (i + 1) = mls A (mlb A i) (i + 1) from if_neg (Int32.not_lt.mpr c_62)]; exact hl
              refine lv_iinc (v := nI (i + 1 + 1)) (lv' := [(2, .int (nI (i + 1 + 1))), (1, .int (mlb A (i + 1))), (0, .ref (h 0))]) hx hb dX1_later_71 hl (k := 2) rfl (nI_inc _) (by decide) rfl (fun ls hl => ?_)
              refine lv_goto (tgt := 25) hx hb dX1_later_74 (by decide) ?_
              exact ih25 (i + 1) (by omega) ls (lv_sub hl [2, 1, 0] rfl)
            · refine lv_iload_n hx hb dX1_later_65 rfl (lv_at hl 2 rfl) ?_
              refine lv_goto (tgt := 70) hx hb dX1_later_66 (by decide) ?_
              refine lv_istore_n (lv' := [(1, .int (nI (i + 1))), (0, .ref (h 0)), (2, .int (nI (i + 1)))]) hx hb dX1_later_70 rfl hl (by decide) rfl (fun ls hl => ?_)
              have hl : lv_has ls 3 [(1, .int (mlb A (i + 1))), (0, .ref (h 0)), (2, .int (nI (i + 1)))] := by rw [show mlb A (i + 1) = nI (i + 1) from if_pos (Int32.not_le.mp c_62)]; exact hl
              refine lv_iinc (v := nI (i + 1 + 1)) (lv' := [(2, .int (nI (i + 1 + 1))), (1, .int (mlb A (i + 1))), (0, .ref (h 0))]) hx hb dX1_later_71 hl (k := 2) rfl (nI_inc _) (by decide) rfl (fun ls hl => ?_)
              refine lv_goto (tgt := 25) hx hb dX1_later_74 (by decide) ?_
              exact ih25 (i + 1) (by omega) ls (lv_sub hl [2, 1, 0] rfl)
      exact lp25 (7) (0) (by omega) ls (lv_sub hl [2, 1, 0] rfl)
    · refine lv_bipush (v := (-9)) hx hb dX1_later_18 (by decide) ?_
      exact hQ dX1_later_20 (by unfold aLm; rw [if_pos (Or.inr c_15)])
def rmX1_turned : Room := { frames := 1, cells := 0, slots := 0, locals := 22 }
set_option maxHeartbeats 4000000 in
set_option maxRecDepth 100000 in
/-- turned -/
theorem kX1_turned (l : Launch) (D : va_G) (h : Nat → Nat) (cI cZ : ClassId) (A : St) (M : Nat → Int32) (hI : Inv A) (x u : Int32) : RO l yX1_turned wsX1_turned rmX1_turned [.ref (h 0), .int x, .int u] (vB D (mw h cI cZ A M) [(cI, .int), (cZ, .boolean)]) (aTm A x u) := by
  refine ro_ofW (cc := cX1_turned) (maxL := 7) (by decide) rfl (Nat.le_of_ble_eq_true rfl) ?_
  intro p e s m below meth c args Q hx hb hml hown hts hB hQ ls hl
  have hown : s.vm.findClass RX1 = some m.cls := hown
  obtain ⟨hP, hK⟩ := hB
  have hin0 : ∀ w ∈ u_ws RX1 TX1 13, w ∈ wsX1_turned := fun _ h => List.mem_cons_of_mem _ (List.mem_append_right _ h)
  have hl : lv_has ls 7 [(0, .ref (h 0)), (1, .int x), (2, .int u)] := hl
  have hF := hI.F
  have hT := hI.T
  have hK3 := hI.K
  have hJ := hI.J
  have hZ := hI.Z
  refine lv_iload_n hx hb dX1_turned_0 rfl (lv_at hl 1 rfl) ?_
  refine lv_iconst (v := nI 0) hx hb dX1_turned_1 (by decide) ?_
  refine lv_bipush (v := nI 7) hx hb dX1_turned_2 (by decide) ?_
  refine ro_callS (As := [.int x, .int (nI 0), .int (nI 7)]) (rest := []) ⟨hx, hb, hml, hown, hts⟩ (kX1_in l (x) (nI 0) (nI 7)) (va_cwS 3 hts gX1_turned_X1_in rfl rfl rfl (by decide +kernel) ⟨Nat.le_of_ble_eq_true rfl, Nat.le_of_ble_eq_true rfl⟩) vT_bl vT_at rfl hl.1 rfl (Nat.le_of_ble_eq_true rfl) dX1_turned_4 ⟨Nat.zero_le _, Nat.zero_le _⟩ ?_
  refine b_if_eq (tgt := 19) hx hb dX1_turned_7 (by decide) (fun c_7 => ?_) (fun c_7 => ?_)
  · refine lv_ldc (v := (-1000000)) hx hb hown (hts (.constant RX1 110 (-1000000)) (by decide +kernel)) dX1_turned_19 ?_
    exact hQ dX1_turned_21 (by unfold aTm; rw [if_neg (fun q => c_7 q.1)])
  · refine lv_iload_n hx hb dX1_turned_10 rfl (lv_at hl 2 rfl) ?_
    refine lv_iconst (v := nI 0) hx hb dX1_turned_11 (by decide) ?_
    refine lv_iconst (v := nI 1) hx hb dX1_turned_12 (by decide) ?_
    refine ro_callS (As := [.int u, .int (nI 0), .int (nI 1)]) (rest := []) ⟨hx, hb, hml, hown, hts⟩ (kX1_in l (u) (nI 0) (nI 1)) (va_cwS 3 hts gX1_turned_X1_in rfl rfl rfl (by decide +kernel) ⟨Nat.le_of_ble_eq_true rfl, Nat.le_of_ble_eq_true rfl⟩) vT_bl vT_at rfl hl.1 rfl (Nat.le_of_ble_eq_true rfl) dX1_turned_13 ⟨Nat.zero_le _, Nat.zero_le _⟩ ?_
    refine b_if_ne (tgt := 22) hx hb dX1_turned_16 (by decide) (fun c_16 => ?_) (fun c_16 => ?_)
    · obtain ⟨k, hk, rfl⟩ := iN_of (n := 8) c_7 (by decide) (by decide)
      obtain ⟨g, hg, rfl⟩ := iN_of (n := 2) c_16 (by decide) (by decide)
      refine lv_iload_n hx hb dX1_turned_22 rfl (lv_at hl 2 rfl) ?_
      refine lv_iconst (v := nI 1) hx hb dX1_turned_23 (by decide) ?_
      refine n_icmp_ne (tgt := 33) hx hb (by omega) (by omega) dX1_turned_24 (by decide) (fun c_24 => ?_) (fun c_24 => ?_)
      · refine lv_iconst (v := nI 0) hx hb dX1_turned_33 (by decide) ?_
        refine lv_istore_n (lv' := [(3, .int (nI 0)), (0, .ref (h 0)), (1, .int (nI k)), (2, .int (nI g))]) hx hb dX1_turned_34 rfl hl (by decide) rfl (fun ls hl => ?_)
        refine lv_iconst (v := nI 0) hx hb dX1_turned_35 (by decide) ?_
        refine lv_istore (lv' := [(4, .int (nI 0)), (3, .int (nI 0)), (0, .ref (h 0)), (1, .int (nI k)), (2, .int (nI g))]) hx hb dX1_turned_36 hl (by decide) rfl (fun ls hl => ?_)
        have lp38 : ∀ (n38 i : Nat), i + n38 = 8 → ∀ (ls : Array Slot), lv_has ls 7 [(0, .ref (h 0)), (1, .int (nI k)), (2, .int (nI g)), (3, .int (l_sum (mtt A k) i)), (4, .int (nI i))] → W p l e rmX1_turned s m args below meth c s.heap [] 0 0 Q (F0 m 38 ls []) := by
          intro n38
          induction n38 with
          | zero =>
            intro i hi38 ls hl
            obtain rfl : 8 = i := by omega
            refine lv_iload hx hb dX1_turned_38 (lv_at hl 4 rfl) ?_
            refine lv_bipush (v := nI 8) hx hb dX1_turned_40 (by decide) ?_
            refine n_icmp_ge (tgt := 106) hx hb (by omega) (by omega) dX1_turned_42 (by decide) (fun c_42 => ?_) (fun c_42 => by exfalso; omega)
            refine lv_iload_n hx hb dX1_turned_106 rfl (lv_at hl 3 rfl) ?_
            exact hQ dX1_turned_107 (by unfold aTm; rw [if_pos ⟨c_7, c_16⟩, cl_nI (n := k) (by omega), cl_nI (n := g) (by omega), if_pos (by omega)]; rfl)
          | succ n38 ih38 =>
            intro i hi38 ls hl
            refine lv_iload hx hb dX1_turned_38 (lv_at hl 4 rfl) ?_
            refine lv_bipush (v := nI 8) hx hb dX1_turned_40 (by decide) ?_
            refine n_icmp_ge (tgt := 106) hx hb (by omega) (by omega) dX1_turned_42 (by decide) (fun c_42 => by exfalso; omega) (fun c_42 => ?_)
            refine lv_iload_n hx hb dX1_turned_45 rfl (lv_at hl 1 rfl) ?_
            refine lv_iload hx hb dX1_turned_46 (lv_at hl 4 rfl) ?_
            refine lv_iand hx hb dX1_turned_48 ?_
            refine n_top (y := nI (k &&& i)) (nI_and8 hk (by omega)) ?_
            refine lv_istore (lv' := [(5, .int (nI (k &&& i))), (0, .ref (h 0)), (1, .int (nI k)), (2, .int (nI g)), (3, .int (l_sum (mtt A k) i)), (4, .int (nI i))]) hx hb dX1_turned_49 hl (by decide) rfl (fun ls hl => ?_)
            refine lv_iload hx hb dX1_turned_51 (lv_at hl 0 rfl) ?_
            refine lv_iload hx hb dX1_turned_53 (lv_at hl 0 rfl) ?_
            refine lv_iconst (v := nI 1) hx hb dX1_turned_55 (by decide) ?_
            refine lv_ishr hx hb dX1_turned_56 ?_
            refine lv_ixor hx hb dX1_turned_57 ?_
            refine lv_iload hx hb dX1_turned_58 (lv_at hl 0 rfl) ?_
            refine lv_iconst (v := nI 2) hx hb dX1_turned_60 (by decide) ?_
            refine lv_ishr hx hb dX1_turned_61 ?_
            refine lv_ixor hx hb dX1_turned_62 ?_
            refine lv_iconst (v := nI 1) hx hb dX1_turned_63 (by decide) ?_
            refine lv_iand hx hb dX1_turned_64 ?_
            refine n_top (y := nI (pc3 (k &&& i) % 2)) (co_dec (N := 8) (P := fun n => (((nI n) ^^^ ((nI n) >>> ((nI 1) &&& 31))) ^^^ ((nI n) >>> ((nI 2) &&& 31))) &&& (nI 1) = nI (pc3 n % 2)) (by decide +kernel) (and8 hk)) ?_
            refine lv_iconst (v := nI 1) hx hb dX1_turned_65 (by decide) ?_
            refine n_icmp_ne (tgt := 73) hx hb (by omega) (by omega) dX1_turned_66 (by decide) (fun c_66 => ?_) (fun c_66 => ?_)
            · refine lv_iconst (v := nI 0) hx hb dX1_turned_73 (by decide) ?_
              refine lv_istore (lv' := [(6, .int (nI 0)), (5, .int (nI (k &&& i))), (0, .ref (h 0)), (1, .int (nI k)), (2, .int (nI g)), (3, .int (l_sum (mtt A k) i)), (4, .int (nI i))]) hx hb dX1_turned_74 hl (by decide) rfl (fun ls hl => ?_)
              refine lv_iload_n hx hb dX1_turned_76 rfl (lv_at hl 5 rfl) ?_
              refine lv_iload hx hb dX1_turned_77 (lv_at hl 0 rfl) ?_
              refine n_if_eq (tgt := 92) hx hb (by omega) dX1_turned_79 (by decide) (fun c_79 => ?_) (fun c_79 => by exfalso; omega)
              refine lv_aload_n hx hb dX1_turned_92 rfl (lv_at hl 2 rfl) ?_
              refine lv_iload hx hb dX1_turned_93 (lv_at hl 6 rfl) ?_
              refine ro_callV (As := [.int (nI i)]) (rest := [.int (l_sum (mtt A k) i)]) ⟨hx, hb, hml, hown, hts⟩ (kX1_numberAt l D h cI cZ A M  hI (i) (by omega)) (cwV 1 hts gX1_turned_X1_numberAt rfl rfl rfl (by decide +kernel) ⟨Nat.le_of_ble_eq_true rfl, Nat.le_of_ble_eq_true rfl⟩) vB_bl (vB_at hP hK) (va_recv hK hP (ci := 1) (q0 := 0) rfl rfl) rfl hl.1 rfl (Nat.le_of_ble_eq_true rfl) dX1_turned_95 ⟨Nat.zero_le _, Nat.zero_le _⟩ ?_
              refine lv_iadd hx hb dX1_turned_98 ?_
              refine n_top (y := l_sum (mtt A k) (i + 1)) (by rw [l_sum_s, show mtt A k i = ffr A i from if_neg c_66]) ?_
              refine lv_istore_n (lv' := [(3, .int (l_sum (mtt A k) (i + 1))), (6, .int (nI 0)), (5, .int (nI (k &&& i))), (0, .ref (h 0)), (1, .int (nI k)), (2, .int (nI g)), (4, .int (nI i))]) hx hb dX1_turned_99 rfl hl (by decide) rfl (fun ls hl => ?_)
              refine lv_iinc (v := nI (i + 1)) (lv' := [(4, .int (nI (i + 1))), (3, .int (l_sum (mtt A k) (i + 1))), (6, .int (nI 0)), (5, .int (nI (k &&& i))), (0, .ref (h 0)), (1, .int (nI k)), (2, .int (nI g))]) hx hb dX1_turned_100 hl (k := 6) rfl (nI_inc _) (by decide) rfl (fun ls hl => ?_)
              refine lv_goto (tgt := 38) hx hb dX1_turned_103 (by decide) ?_
              exact ih38 (i + 1) (by omega) ls (lv_sub hl [4, 5, 6, 1, 0] rfl)
            · refine lv_iconst (v := nI 1) hx hb dX1_turned_69 (by decide) ?_
              refine lv_goto (tgt := 74) hx hb dX1_turned_70 (by decide) ?_
              refine lv_istore (lv' := [(6, .int (nI 1)), (5, .int (nI (k &&& i))), (0, .ref (h 0)), (1, .int (nI k)), (2, .int (nI g)), (3, .int (l_sum (mtt A k) i)), (4, .int (nI i))]) hx hb dX1_turned_74 hl (by decide) rfl (fun ls hl => ?_)
              refine lv_iload_n hx hb dX1_turned_76 rfl (lv_at hl 5 rfl) ?_
              refine lv_iload hx hb dX1_turned_77 (lv_at hl 0 rfl) ?_
              refine n_if_eq (tgt := 92) hx hb (by omega) dX1_turned_79 (by decide) (fun c_79 => by exfalso; omega) (fun c_79 => ?_)
              refine lv_aload_n hx hb dX1_turned_82 rfl (lv_at hl 2 rfl) ?_
              refine lv_iload hx hb dX1_turned_83 (lv_at hl 6 rfl) ?_
              refine ro_callV (As := [.int (nI i)]) (rest := [.int (l_sum (mtt A k) i)]) ⟨hx, hb, hml, hown, hts⟩ (kX1_numberAt l D h cI cZ A M  hI (i) (by omega)) (cwV 1 hts gX1_turned_X1_numberAt rfl rfl rfl (by decide +kernel) ⟨Nat.le_of_ble_eq_true rfl, Nat.le_of_ble_eq_true rfl⟩) vB_bl (vB_at hP hK) (va_recv hK hP (ci := 1) (q0 := 0) rfl rfl) rfl hl.1 rfl (Nat.le_of_ble_eq_true rfl) dX1_turned_85 ⟨Nat.zero_le _, Nat.zero_le _⟩ ?_
              refine lv_ineg hx hb dX1_turned_88 ?_
              refine lv_goto (tgt := 98) hx hb dX1_turned_89 (by decide) ?_
              refine lv_iadd hx hb dX1_turned_98 ?_
              refine n_top (y := l_sum (mtt A k) (i + 1)) (by rw [l_sum_s, show mtt A k i = -(ffr A i) from if_pos c_66]) ?_
              refine lv_istore_n (lv' := [(3, .int (l_sum (mtt A k) (i + 1))), (6, .int (nI 1)), (5, .int (nI (k &&& i))), (0, .ref (h 0)), (1, .int (nI k)), (2, .int (nI g)), (4, .int (nI i))]) hx hb dX1_turned_99 rfl hl (by decide) rfl (fun ls hl => ?_)
              refine lv_iinc (v := nI (i + 1)) (lv' := [(4, .int (nI (i + 1))), (3, .int (l_sum (mtt A k) (i + 1))), (6, .int (nI 1)), (5, .int (nI (k &&& i))), (0, .ref (h 0)), (1, .int (nI k)), (2, .int (nI g))]) hx hb dX1_turned_100 hl (k := 6) rfl (nI_inc _) (by decide) rfl (fun ls hl => ?_)
              refine lv_goto (tgt := 38) hx hb dX1_turned_103 (by decide) ?_
              exact ih38 (i + 1) (by omega) ls (lv_sub hl [4, 5, 6, 1, 0] rfl)
        exact lp38 (8) (0) (by omega) ls (lv_sub hl [2, 3, 4, 1, 0] rfl)
      · refine lv_aload_n hx hb dX1_turned_27 rfl (lv_at hl 0 rfl) ?_
        refine lv_iload_n hx hb dX1_turned_28 rfl (lv_at hl 1 rfl) ?_
        refine ro_callV (As := [.int (nI k)]) (rest := []) ⟨hx, hb, hml, hown, hts⟩ (kX1_numberAt l D h cI cZ A M  hI (k) (by omega)) (cwV 1 hts gX1_turned_X1_numberAt rfl rfl rfl (by decide +kernel) ⟨Nat.le_of_ble_eq_true rfl, Nat.le_of_ble_eq_true rfl⟩) vB_bl (vB_at hP hK) (va_recv hK hP (ci := 1) (q0 := 0) rfl rfl) rfl hl.1 rfl (Nat.le_of_ble_eq_true rfl) dX1_turned_29 ⟨Nat.zero_le _, Nat.zero_le _⟩ ?_
        exact hQ dX1_turned_32 (by unfold aTm; rw [if_pos ⟨c_7, c_16⟩, cl_nI (n := k) (by omega), cl_nI (n := g) (by omega), if_neg (by omega)])
    · refine lv_ldc (v := (-1000000)) hx hb hown (hts (.constant RX1 110 (-1000000)) (by decide +kernel)) dX1_turned_19 ?_
      exact hQ dX1_turned_21 (by unfold aTm; rw [if_neg (fun q => c_16 q.2)])
def rmX1_ofOrder : Room := { frames := 0, cells := 0, slots := 0, locals := 0 }
set_option maxHeartbeats 4000000 in
set_option maxRecDepth 100000 in
/-- ofOrder -/
theorem kX1_ofOrder (l : Launch) (D : va_G) (h : Nat → Nat) (cI cZ : ClassId) (A : St) (M : Nat → Int32) (hI : Inv A) (o k : Nat) (ho : o < fno (sK A)) (hv : k < sK A) : RO l yX1_ofOrder wsX1_ofOrder rmX1_ofOrder [.ref (h 0), .int (nI o), .int (nI k)] (vB D (mw h cI cZ A M) [(cI, .int), (cZ, .boolean)]) (nI (fvo (sK A) o k)) := by
  refine ro_ofW (cc := cX1_ofOrder) (maxL := 6) (by decide) rfl (Nat.le_of_ble_eq_true rfl) ?_
  intro p e s m below meth c args Q hx hb hml hown hts hB hQ ls hl
  have hown : s.vm.findClass RX1 = some m.cls := hown
  obtain ⟨hP, hK⟩ := hB
  have hin0 : ∀ w ∈ u_ws RX1 TX1 13, w ∈ wsX1_ofOrder := fun _ h => List.mem_cons_of_mem _ (List.mem_append_right _ h)
  have hl : lv_has ls 6 [(0, .ref (h 0)), (1, .int (nI o)), (2, .int (nI k))] := hl
  have hF := hI.F
  have hT := hI.T
  have hK3 := hI.K
  have hJ := hI.J
  have hZ := hI.Z
  refine lv_aload_n hx hb dX1_ofOrder_0 rfl (lv_at hl 0 rfl) ?_
  refine va_get (D := D) (ci := 1) (v := .int (nI (sK A))) (C := RX1) (T := TX1) (N := 13) hx hb hts hin0 hown hK hP 0 rfl rfl 2 (by decide) (hts (.fieldLink RX1 43 "VoicePartsModel" "voices" "I") (by decide +kernel)) (fun _ h9 => h9) rfl dX1_ofOrder_1 ?_
  refine lv_iconst (v := nI 3) hx hb dX1_ofOrder_4 (by decide) ?_
  refine n_icmp_ge (tgt := 26) hx hb (by omega) (by omega) dX1_ofOrder_5 (by decide) (fun c_5 => ?_) (fun c_5 => ?_)
  · have hk3 : sK A = 3 := by omega
    have ho6 : o < 6 := by rw [hk3] at ho; exact ho
    refine lv_iload_n hx hb dX1_ofOrder_26 rfl (lv_at hl 1 rfl) ?_
    refine lv_iconst (v := nI 2) hx hb dX1_ofOrder_27 (by decide) ?_
    refine lv_idiv hx hb dX1_ofOrder_28 (by decide) ?_
    refine n_top (y := nI (o / 2)) (pk_div (by omega) (by decide) (by decide)) ?_
    refine lv_istore_n (lv' := [(3, .int (nI (o / 2))), (0, .ref (h 0)), (1, .int (nI o)), (2, .int (nI k))]) hx hb dX1_ofOrder_29 rfl hl (by decide) rfl (fun ls hl => ?_)
    refine lv_iload_n hx hb dX1_ofOrder_30 rfl (lv_at hl 0 rfl) ?_
    refine n_if_ne (tgt := 38) hx hb (by omega) dX1_ofOrder_31 (by decide) (fun c_31 => ?_) (fun c_31 => ?_)
    · refine lv_iconst (v := nI 0) hx hb dX1_ofOrder_38 (by decide) ?_
      refine lv_istore (lv' := [(4, .int (nI 0)), (3, .int (nI (o / 2))), (0, .ref (h 0)), (1, .int (nI o)), (2, .int (nI k))]) hx hb dX1_ofOrder_39 hl (by decide) rfl (fun ls hl => ?_)
      refine lv_iload_n hx hb dX1_ofOrder_41 rfl (lv_at hl 1 rfl) ?_
      refine lv_iconst (v := nI 2) hx hb dX1_ofOrder_42 (by decide) ?_
      refine n_icmp_ne (tgt := 50) hx hb (by omega) (by omega) dX1_ofOrder_43 (by decide) (fun c_43 => ?_) (fun c_43 => ?_)
      · refine lv_iconst (v := nI 2) hx hb dX1_ofOrder_50 (by decide) ?_
        refine lv_istore (lv' := [(5, .int (nI 2)), (4, .int (nI 0)), (3, .int (nI (o / 2))), (0, .ref (h 0)), (1, .int (nI o)), (2, .int (nI k))]) hx hb dX1_ofOrder_51 hl (by decide) rfl (fun ls hl => ?_)
        refine lv_iload_n hx hb dX1_ofOrder_53 rfl (lv_at hl 5 rfl) ?_
        refine n_if_ne (tgt := 61) hx hb (by omega) dX1_ofOrder_54 (by decide) (fun c_54 => ?_) (fun c_54 => ?_)
        · refine lv_iload_n hx hb dX1_ofOrder_61 rfl (lv_at hl 5 rfl) ?_
          refine lv_iconst (v := nI 1) hx hb dX1_ofOrder_62 (by decide) ?_
          refine n_icmp_ne (tgt := 70) hx hb (by omega) (by omega) dX1_ofOrder_63 (by decide) (fun c_63 => ?_) (fun c_63 => ?_)
          · refine lv_iconst (v := nI 0) hx hb dX1_ofOrder_70 (by decide) ?_
            refine lv_iload_n hx hb dX1_ofOrder_71 rfl (lv_at hl 4 rfl) ?_
            refine lv_iconst (v := nI 2) hx hb dX1_ofOrder_72 (by decide) ?_
            refine lv_irem hx hb dX1_ofOrder_73 (by decide) ?_
            refine n_top (y := nI (o % 2)) (pk_rem (by omega) (by decide) (by decide)) ?_
            refine n_if_ne (tgt := 81) hx hb (by omega) dX1_ofOrder_74 (by decide) (fun c_74 => ?_) (fun c_74 => ?_)
            · refine lv_iconst (v := nI 0) hx hb dX1_ofOrder_81 (by decide) ?_
              refine n_icmp_ne (tgt := 90) hx hb (by omega) (by omega) dX1_ofOrder_82 (by decide) (fun c_82 => by exfalso; omega) (fun c_82 => ?_)
              refine lv_iload hx hb dX1_ofOrder_85 (lv_at hl 1 rfl) ?_
              refine lv_goto (tgt := 92) hx hb dX1_ofOrder_87 (by decide) ?_
              exact hQ dX1_ofOrder_92 (by rw [hk3]; rcases (show o = 0 ∨ o = 1 ∨ o = 2 ∨ o = 3 ∨ o = 4 ∨ o = 5 by omega) with rfl | rfl | rfl | rfl | rfl | rfl <;> rcases (show k = 0 ∨ k = 1 ∨ k = 2 by omega) with rfl | rfl | rfl <;> first | rfl | (exfalso; omega))
            · refine lv_iconst (v := nI 1) hx hb dX1_ofOrder_77 (by decide) ?_
              refine lv_goto (tgt := 82) hx hb dX1_ofOrder_78 (by decide) ?_
              refine n_icmp_ne (tgt := 90) hx hb (by omega) (by omega) dX1_ofOrder_82 (by decide) (fun c_82 => ?_) (fun c_82 => by exfalso; omega)
              refine lv_iload hx hb dX1_ofOrder_90 (lv_at hl 0 rfl) ?_
              exact hQ dX1_ofOrder_92 (by rw [hk3]; rcases (show o = 0 ∨ o = 1 ∨ o = 2 ∨ o = 3 ∨ o = 4 ∨ o = 5 by omega) with rfl | rfl | rfl | rfl | rfl | rfl <;> rcases (show k = 0 ∨ k = 1 ∨ k = 2 by omega) with rfl | rfl | rfl <;> first | rfl | (exfalso; omega))
          · refine lv_iconst (v := nI 1) hx hb dX1_ofOrder_66 (by decide) ?_
            refine lv_goto (tgt := 71) hx hb dX1_ofOrder_67 (by decide) ?_
            refine lv_iload_n hx hb dX1_ofOrder_71 rfl (lv_at hl 4 rfl) ?_
            refine lv_iconst (v := nI 2) hx hb dX1_ofOrder_72 (by decide) ?_
            refine lv_irem hx hb dX1_ofOrder_73 (by decide) ?_
            refine n_top (y := nI (o % 2)) (pk_rem (by omega) (by decide) (by decide)) ?_
            refine n_if_ne (tgt := 81) hx hb (by omega) dX1_ofOrder_74 (by decide) (fun c_74 => ?_) (fun c_74 => ?_)
            · refine lv_iconst (v := nI 0) hx hb dX1_ofOrder_81 (by decide) ?_
              refine n_icmp_ne (tgt := 90) hx hb (by omega) (by omega) dX1_ofOrder_82 (by decide) (fun c_82 => ?_) (fun c_82 => by exfalso; omega)
              refine lv_iload hx hb dX1_ofOrder_90 (lv_at hl 0 rfl) ?_
              exact hQ dX1_ofOrder_92 (by rw [hk3]; rcases (show o = 0 ∨ o = 1 ∨ o = 2 ∨ o = 3 ∨ o = 4 ∨ o = 5 by omega) with rfl | rfl | rfl | rfl | rfl | rfl <;> rcases (show k = 0 ∨ k = 1 ∨ k = 2 by omega) with rfl | rfl | rfl <;> first | rfl | (exfalso; omega))
            · refine lv_iconst (v := nI 1) hx hb dX1_ofOrder_77 (by decide) ?_
              refine lv_goto (tgt := 82) hx hb dX1_ofOrder_78 (by decide) ?_
              refine n_icmp_ne (tgt := 90) hx hb (by omega) (by omega) dX1_ofOrder_82 (by decide) (fun c_82 => by exfalso; omega) (fun c_82 => ?_)
              refine lv_iload hx hb dX1_ofOrder_85 (lv_at hl 1 rfl) ?_
              refine lv_goto (tgt := 92) hx hb dX1_ofOrder_87 (by decide) ?_
              exact hQ dX1_ofOrder_92 (by rw [hk3]; rcases (show o = 0 ∨ o = 1 ∨ o = 2 ∨ o = 3 ∨ o = 4 ∨ o = 5 by omega) with rfl | rfl | rfl | rfl | rfl | rfl <;> rcases (show k = 0 ∨ k = 1 ∨ k = 2 by omega) with rfl | rfl | rfl <;> first | rfl | (exfalso; omega))
        · refine lv_iload_n hx hb dX1_ofOrder_57 rfl (lv_at hl 2 rfl) ?_
          refine lv_goto (tgt := 92) hx hb dX1_ofOrder_58 (by decide) ?_
          exact hQ dX1_ofOrder_92 (by rw [hk3]; rcases (show o = 0 ∨ o = 1 ∨ o = 2 ∨ o = 3 ∨ o = 4 ∨ o = 5 by omega) with rfl | rfl | rfl | rfl | rfl | rfl <;> rcases (show k = 0 ∨ k = 1 ∨ k = 2 by omega) with rfl | rfl | rfl <;> first | rfl | (exfalso; omega))
      · refine lv_iconst (v := nI 1) hx hb dX1_ofOrder_46 (by decide) ?_
        refine lv_goto (tgt := 51) hx hb dX1_ofOrder_47 (by decide) ?_
        refine lv_istore (lv' := [(5, .int (nI 1)), (4, .int (nI 0)), (3, .int (nI (o / 2))), (0, .ref (h 0)), (1, .int (nI o)), (2, .int (nI k))]) hx hb dX1_ofOrder_51 hl (by decide) rfl (fun ls hl => ?_)
        refine lv_iload_n hx hb dX1_ofOrder_53 rfl (lv_at hl 5 rfl) ?_
        refine n_if_ne (tgt := 61) hx hb (by omega) dX1_ofOrder_54 (by decide) (fun c_54 => ?_) (fun c_54 => ?_)
        · refine lv_iload_n hx hb dX1_ofOrder_61 rfl (lv_at hl 5 rfl) ?_
          refine lv_iconst (v := nI 1) hx hb dX1_ofOrder_62 (by decide) ?_
          refine n_icmp_ne (tgt := 70) hx hb (by omega) (by omega) dX1_ofOrder_63 (by decide) (fun c_63 => ?_) (fun c_63 => ?_)
          · refine lv_iconst (v := nI 0) hx hb dX1_ofOrder_70 (by decide) ?_
            refine lv_iload_n hx hb dX1_ofOrder_71 rfl (lv_at hl 4 rfl) ?_
            refine lv_iconst (v := nI 2) hx hb dX1_ofOrder_72 (by decide) ?_
            refine lv_irem hx hb dX1_ofOrder_73 (by decide) ?_
            refine n_top (y := nI (o % 2)) (pk_rem (by omega) (by decide) (by decide)) ?_
            refine n_if_ne (tgt := 81) hx hb (by omega) dX1_ofOrder_74 (by decide) (fun c_74 => ?_) (fun c_74 => ?_)
            · refine lv_iconst (v := nI 0) hx hb dX1_ofOrder_81 (by decide) ?_
              refine n_icmp_ne (tgt := 90) hx hb (by omega) (by omega) dX1_ofOrder_82 (by decide) (fun c_82 => by exfalso; omega) (fun c_82 => ?_)
              refine lv_iload hx hb dX1_ofOrder_85 (lv_at hl 1 rfl) ?_
              refine lv_goto (tgt := 92) hx hb dX1_ofOrder_87 (by decide) ?_
              exact hQ dX1_ofOrder_92 (by rw [hk3]; rcases (show o = 0 ∨ o = 1 ∨ o = 2 ∨ o = 3 ∨ o = 4 ∨ o = 5 by omega) with rfl | rfl | rfl | rfl | rfl | rfl <;> rcases (show k = 0 ∨ k = 1 ∨ k = 2 by omega) with rfl | rfl | rfl <;> first | rfl | (exfalso; omega))
            · refine lv_iconst (v := nI 1) hx hb dX1_ofOrder_77 (by decide) ?_
              refine lv_goto (tgt := 82) hx hb dX1_ofOrder_78 (by decide) ?_
              refine n_icmp_ne (tgt := 90) hx hb (by omega) (by omega) dX1_ofOrder_82 (by decide) (fun c_82 => ?_) (fun c_82 => by exfalso; omega)
              refine lv_iload hx hb dX1_ofOrder_90 (lv_at hl 0 rfl) ?_
              exact hQ dX1_ofOrder_92 (by rw [hk3]; rcases (show o = 0 ∨ o = 1 ∨ o = 2 ∨ o = 3 ∨ o = 4 ∨ o = 5 by omega) with rfl | rfl | rfl | rfl | rfl | rfl <;> rcases (show k = 0 ∨ k = 1 ∨ k = 2 by omega) with rfl | rfl | rfl <;> first | rfl | (exfalso; omega))
          · refine lv_iconst (v := nI 1) hx hb dX1_ofOrder_66 (by decide) ?_
            refine lv_goto (tgt := 71) hx hb dX1_ofOrder_67 (by decide) ?_
            refine lv_iload_n hx hb dX1_ofOrder_71 rfl (lv_at hl 4 rfl) ?_
            refine lv_iconst (v := nI 2) hx hb dX1_ofOrder_72 (by decide) ?_
            refine lv_irem hx hb dX1_ofOrder_73 (by decide) ?_
            refine n_top (y := nI (o % 2)) (pk_rem (by omega) (by decide) (by decide)) ?_
            refine n_if_ne (tgt := 81) hx hb (by omega) dX1_ofOrder_74 (by decide) (fun c_74 => ?_) (fun c_74 => ?_)
            · refine lv_iconst (v := nI 0) hx hb dX1_ofOrder_81 (by decide) ?_
              refine n_icmp_ne (tgt := 90) hx hb (by omega) (by omega) dX1_ofOrder_82 (by decide) (fun c_82 => ?_) (fun c_82 => by exfalso; omega)
              refine lv_iload hx hb dX1_ofOrder_90 (lv_at hl 0 rfl) ?_
              exact hQ dX1_ofOrder_92 (by rw [hk3]; rcases (show o = 0 ∨ o = 1 ∨ o = 2 ∨ o = 3 ∨ o = 4 ∨ o = 5 by omega) with rfl | rfl | rfl | rfl | rfl | rfl <;> rcases (show k = 0 ∨ k = 1 ∨ k = 2 by omega) with rfl | rfl | rfl <;> first | rfl | (exfalso; omega))
            · refine lv_iconst (v := nI 1) hx hb dX1_ofOrder_77 (by decide) ?_
              refine lv_goto (tgt := 82) hx hb dX1_ofOrder_78 (by decide) ?_
              refine n_icmp_ne (tgt := 90) hx hb (by omega) (by omega) dX1_ofOrder_82 (by decide) (fun c_82 => by exfalso; omega) (fun c_82 => ?_)
              refine lv_iload hx hb dX1_ofOrder_85 (lv_at hl 1 rfl) ?_
              refine lv_goto (tgt := 92) hx hb dX1_ofOrder_87 (by decide) ?_
              exact hQ dX1_ofOrder_92 (by rw [hk3]; rcases (show o = 0 ∨ o = 1 ∨ o = 2 ∨ o = 3 ∨ o = 4 ∨ o = 5 by omega) with rfl | rfl | rfl | rfl | rfl | rfl <;> rcases (show k = 0 ∨ k = 1 ∨ k = 2 by omega) with rfl | rfl | rfl <;> first | rfl | (exfalso; omega))
        · refine lv_iload_n hx hb dX1_ofOrder_57 rfl (lv_at hl 2 rfl) ?_
          refine lv_goto (tgt := 92) hx hb dX1_ofOrder_58 (by decide) ?_
          exact hQ dX1_ofOrder_92 (by rw [hk3]; rcases (show o = 0 ∨ o = 1 ∨ o = 2 ∨ o = 3 ∨ o = 4 ∨ o = 5 by omega) with rfl | rfl | rfl | rfl | rfl | rfl <;> rcases (show k = 0 ∨ k = 1 ∨ k = 2 by omega) with rfl | rfl | rfl <;> first | rfl | (exfalso; omega))
    · refine lv_iconst (v := nI 1) hx hb dX1_ofOrder_34 (by decide) ?_
      refine lv_goto (tgt := 39) hx hb dX1_ofOrder_35 (by decide) ?_
      refine lv_istore (lv' := [(4, .int (nI 1)), (3, .int (nI (o / 2))), (0, .ref (h 0)), (1, .int (nI o)), (2, .int (nI k))]) hx hb dX1_ofOrder_39 hl (by decide) rfl (fun ls hl => ?_)
      refine lv_iload_n hx hb dX1_ofOrder_41 rfl (lv_at hl 1 rfl) ?_
      refine lv_iconst (v := nI 2) hx hb dX1_ofOrder_42 (by decide) ?_
      refine n_icmp_ne (tgt := 50) hx hb (by omega) (by omega) dX1_ofOrder_43 (by decide) (fun c_43 => ?_) (fun c_43 => ?_)
      · refine lv_iconst (v := nI 2) hx hb dX1_ofOrder_50 (by decide) ?_
        refine lv_istore (lv' := [(5, .int (nI 2)), (4, .int (nI 1)), (3, .int (nI (o / 2))), (0, .ref (h 0)), (1, .int (nI o)), (2, .int (nI k))]) hx hb dX1_ofOrder_51 hl (by decide) rfl (fun ls hl => ?_)
        refine lv_iload_n hx hb dX1_ofOrder_53 rfl (lv_at hl 5 rfl) ?_
        refine n_if_ne (tgt := 61) hx hb (by omega) dX1_ofOrder_54 (by decide) (fun c_54 => ?_) (fun c_54 => ?_)
        · refine lv_iload_n hx hb dX1_ofOrder_61 rfl (lv_at hl 5 rfl) ?_
          refine lv_iconst (v := nI 1) hx hb dX1_ofOrder_62 (by decide) ?_
          refine n_icmp_ne (tgt := 70) hx hb (by omega) (by omega) dX1_ofOrder_63 (by decide) (fun c_63 => ?_) (fun c_63 => ?_)
          · refine lv_iconst (v := nI 0) hx hb dX1_ofOrder_70 (by decide) ?_
            refine lv_iload_n hx hb dX1_ofOrder_71 rfl (lv_at hl 4 rfl) ?_
            refine lv_iconst (v := nI 2) hx hb dX1_ofOrder_72 (by decide) ?_
            refine lv_irem hx hb dX1_ofOrder_73 (by decide) ?_
            refine n_top (y := nI (o % 2)) (pk_rem (by omega) (by decide) (by decide)) ?_
            refine n_if_ne (tgt := 81) hx hb (by omega) dX1_ofOrder_74 (by decide) (fun c_74 => ?_) (fun c_74 => ?_)
            · refine lv_iconst (v := nI 0) hx hb dX1_ofOrder_81 (by decide) ?_
              refine n_icmp_ne (tgt := 90) hx hb (by omega) (by omega) dX1_ofOrder_82 (by decide) (fun c_82 => by exfalso; omega) (fun c_82 => ?_)
              refine lv_iload hx hb dX1_ofOrder_85 (lv_at hl 1 rfl) ?_
              refine lv_goto (tgt := 92) hx hb dX1_ofOrder_87 (by decide) ?_
              exact hQ dX1_ofOrder_92 (by rw [hk3]; rcases (show o = 0 ∨ o = 1 ∨ o = 2 ∨ o = 3 ∨ o = 4 ∨ o = 5 by omega) with rfl | rfl | rfl | rfl | rfl | rfl <;> rcases (show k = 0 ∨ k = 1 ∨ k = 2 by omega) with rfl | rfl | rfl <;> first | rfl | (exfalso; omega))
            · refine lv_iconst (v := nI 1) hx hb dX1_ofOrder_77 (by decide) ?_
              refine lv_goto (tgt := 82) hx hb dX1_ofOrder_78 (by decide) ?_
              refine n_icmp_ne (tgt := 90) hx hb (by omega) (by omega) dX1_ofOrder_82 (by decide) (fun c_82 => ?_) (fun c_82 => by exfalso; omega)
              refine lv_iload hx hb dX1_ofOrder_90 (lv_at hl 0 rfl) ?_
              exact hQ dX1_ofOrder_92 (by rw [hk3]; rcases (show o = 0 ∨ o = 1 ∨ o = 2 ∨ o = 3 ∨ o = 4 ∨ o = 5 by omega) with rfl | rfl | rfl | rfl | rfl | rfl <;> rcases (show k = 0 ∨ k = 1 ∨ k = 2 by omega) with rfl | rfl | rfl <;> first | rfl | (exfalso; omega))
          · refine lv_iconst (v := nI 1) hx hb dX1_ofOrder_66 (by decide) ?_
            refine lv_goto (tgt := 71) hx hb dX1_ofOrder_67 (by decide) ?_
            refine lv_iload_n hx hb dX1_ofOrder_71 rfl (lv_at hl 4 rfl) ?_
            refine lv_iconst (v := nI 2) hx hb dX1_ofOrder_72 (by decide) ?_
            refine lv_irem hx hb dX1_ofOrder_73 (by decide) ?_
            refine n_top (y := nI (o % 2)) (pk_rem (by omega) (by decide) (by decide)) ?_
            refine n_if_ne (tgt := 81) hx hb (by omega) dX1_ofOrder_74 (by decide) (fun c_74 => ?_) (fun c_74 => ?_)
            · refine lv_iconst (v := nI 0) hx hb dX1_ofOrder_81 (by decide) ?_
              refine n_icmp_ne (tgt := 90) hx hb (by omega) (by omega) dX1_ofOrder_82 (by decide) (fun c_82 => ?_) (fun c_82 => by exfalso; omega)
              refine lv_iload hx hb dX1_ofOrder_90 (lv_at hl 0 rfl) ?_
              exact hQ dX1_ofOrder_92 (by rw [hk3]; rcases (show o = 0 ∨ o = 1 ∨ o = 2 ∨ o = 3 ∨ o = 4 ∨ o = 5 by omega) with rfl | rfl | rfl | rfl | rfl | rfl <;> rcases (show k = 0 ∨ k = 1 ∨ k = 2 by omega) with rfl | rfl | rfl <;> first | rfl | (exfalso; omega))
            · refine lv_iconst (v := nI 1) hx hb dX1_ofOrder_77 (by decide) ?_
              refine lv_goto (tgt := 82) hx hb dX1_ofOrder_78 (by decide) ?_
              refine n_icmp_ne (tgt := 90) hx hb (by omega) (by omega) dX1_ofOrder_82 (by decide) (fun c_82 => by exfalso; omega) (fun c_82 => ?_)
              refine lv_iload hx hb dX1_ofOrder_85 (lv_at hl 1 rfl) ?_
              refine lv_goto (tgt := 92) hx hb dX1_ofOrder_87 (by decide) ?_
              exact hQ dX1_ofOrder_92 (by rw [hk3]; rcases (show o = 0 ∨ o = 1 ∨ o = 2 ∨ o = 3 ∨ o = 4 ∨ o = 5 by omega) with rfl | rfl | rfl | rfl | rfl | rfl <;> rcases (show k = 0 ∨ k = 1 ∨ k = 2 by omega) with rfl | rfl | rfl <;> first | rfl | (exfalso; omega))
        · refine lv_iload_n hx hb dX1_ofOrder_57 rfl (lv_at hl 2 rfl) ?_
          refine lv_goto (tgt := 92) hx hb dX1_ofOrder_58 (by decide) ?_
          exact hQ dX1_ofOrder_92 (by rw [hk3]; rcases (show o = 0 ∨ o = 1 ∨ o = 2 ∨ o = 3 ∨ o = 4 ∨ o = 5 by omega) with rfl | rfl | rfl | rfl | rfl | rfl <;> rcases (show k = 0 ∨ k = 1 ∨ k = 2 by omega) with rfl | rfl | rfl <;> first | rfl | (exfalso; omega))
      · refine lv_iconst (v := nI 1) hx hb dX1_ofOrder_46 (by decide) ?_
        refine lv_goto (tgt := 51) hx hb dX1_ofOrder_47 (by decide) ?_
        refine lv_istore (lv' := [(5, .int (nI 1)), (4, .int (nI 1)), (3, .int (nI (o / 2))), (0, .ref (h 0)), (1, .int (nI o)), (2, .int (nI k))]) hx hb dX1_ofOrder_51 hl (by decide) rfl (fun ls hl => ?_)
        refine lv_iload_n hx hb dX1_ofOrder_53 rfl (lv_at hl 5 rfl) ?_
        refine n_if_ne (tgt := 61) hx hb (by omega) dX1_ofOrder_54 (by decide) (fun c_54 => ?_) (fun c_54 => ?_)
        · refine lv_iload_n hx hb dX1_ofOrder_61 rfl (lv_at hl 5 rfl) ?_
          refine lv_iconst (v := nI 1) hx hb dX1_ofOrder_62 (by decide) ?_
          refine n_icmp_ne (tgt := 70) hx hb (by omega) (by omega) dX1_ofOrder_63 (by decide) (fun c_63 => ?_) (fun c_63 => ?_)
          · refine lv_iconst (v := nI 0) hx hb dX1_ofOrder_70 (by decide) ?_
            refine lv_iload_n hx hb dX1_ofOrder_71 rfl (lv_at hl 4 rfl) ?_
            refine lv_iconst (v := nI 2) hx hb dX1_ofOrder_72 (by decide) ?_
            refine lv_irem hx hb dX1_ofOrder_73 (by decide) ?_
            refine n_top (y := nI (o % 2)) (pk_rem (by omega) (by decide) (by decide)) ?_
            refine n_if_ne (tgt := 81) hx hb (by omega) dX1_ofOrder_74 (by decide) (fun c_74 => ?_) (fun c_74 => ?_)
            · refine lv_iconst (v := nI 0) hx hb dX1_ofOrder_81 (by decide) ?_
              refine n_icmp_ne (tgt := 90) hx hb (by omega) (by omega) dX1_ofOrder_82 (by decide) (fun c_82 => by exfalso; omega) (fun c_82 => ?_)
              refine lv_iload hx hb dX1_ofOrder_85 (lv_at hl 1 rfl) ?_
              refine lv_goto (tgt := 92) hx hb dX1_ofOrder_87 (by decide) ?_
              exact hQ dX1_ofOrder_92 (by rw [hk3]; rcases (show o = 0 ∨ o = 1 ∨ o = 2 ∨ o = 3 ∨ o = 4 ∨ o = 5 by omega) with rfl | rfl | rfl | rfl | rfl | rfl <;> rcases (show k = 0 ∨ k = 1 ∨ k = 2 by omega) with rfl | rfl | rfl <;> first | rfl | (exfalso; omega))
            · refine lv_iconst (v := nI 1) hx hb dX1_ofOrder_77 (by decide) ?_
              refine lv_goto (tgt := 82) hx hb dX1_ofOrder_78 (by decide) ?_
              refine n_icmp_ne (tgt := 90) hx hb (by omega) (by omega) dX1_ofOrder_82 (by decide) (fun c_82 => ?_) (fun c_82 => by exfalso; omega)
              refine lv_iload hx hb dX1_ofOrder_90 (lv_at hl 0 rfl) ?_
              exact hQ dX1_ofOrder_92 (by rw [hk3]; rcases (show o = 0 ∨ o = 1 ∨ o = 2 ∨ o = 3 ∨ o = 4 ∨ o = 5 by omega) with rfl | rfl | rfl | rfl | rfl | rfl <;> rcases (show k = 0 ∨ k = 1 ∨ k = 2 by omega) with rfl | rfl | rfl <;> first | rfl | (exfalso; omega))
          · refine lv_iconst (v := nI 1) hx hb dX1_ofOrder_66 (by decide) ?_
            refine lv_goto (tgt := 71) hx hb dX1_ofOrder_67 (by decide) ?_
            refine lv_iload_n hx hb dX1_ofOrder_71 rfl (lv_at hl 4 rfl) ?_
            refine lv_iconst (v := nI 2) hx hb dX1_ofOrder_72 (by decide) ?_
            refine lv_irem hx hb dX1_ofOrder_73 (by decide) ?_
            refine n_top (y := nI (o % 2)) (pk_rem (by omega) (by decide) (by decide)) ?_
            refine n_if_ne (tgt := 81) hx hb (by omega) dX1_ofOrder_74 (by decide) (fun c_74 => ?_) (fun c_74 => ?_)
            · refine lv_iconst (v := nI 0) hx hb dX1_ofOrder_81 (by decide) ?_
              refine n_icmp_ne (tgt := 90) hx hb (by omega) (by omega) dX1_ofOrder_82 (by decide) (fun c_82 => ?_) (fun c_82 => by exfalso; omega)
              refine lv_iload hx hb dX1_ofOrder_90 (lv_at hl 0 rfl) ?_
              exact hQ dX1_ofOrder_92 (by rw [hk3]; rcases (show o = 0 ∨ o = 1 ∨ o = 2 ∨ o = 3 ∨ o = 4 ∨ o = 5 by omega) with rfl | rfl | rfl | rfl | rfl | rfl <;> rcases (show k = 0 ∨ k = 1 ∨ k = 2 by omega) with rfl | rfl | rfl <;> first | rfl | (exfalso; omega))
            · refine lv_iconst (v := nI 1) hx hb dX1_ofOrder_77 (by decide) ?_
              refine lv_goto (tgt := 82) hx hb dX1_ofOrder_78 (by decide) ?_
              refine n_icmp_ne (tgt := 90) hx hb (by omega) (by omega) dX1_ofOrder_82 (by decide) (fun c_82 => by exfalso; omega) (fun c_82 => ?_)
              refine lv_iload hx hb dX1_ofOrder_85 (lv_at hl 1 rfl) ?_
              refine lv_goto (tgt := 92) hx hb dX1_ofOrder_87 (by decide) ?_
              exact hQ dX1_ofOrder_92 (by rw [hk3]; rcases (show o = 0 ∨ o = 1 ∨ o = 2 ∨ o = 3 ∨ o = 4 ∨ o = 5 by omega) with rfl | rfl | rfl | rfl | rfl | rfl <;> rcases (show k = 0 ∨ k = 1 ∨ k = 2 by omega) with rfl | rfl | rfl <;> first | rfl | (exfalso; omega))
        · refine lv_iload_n hx hb dX1_ofOrder_57 rfl (lv_at hl 2 rfl) ?_
          refine lv_goto (tgt := 92) hx hb dX1_ofOrder_58 (by decide) ?_
          exact hQ dX1_ofOrder_92 (by rw [hk3]; rcases (show o = 0 ∨ o = 1 ∨ o = 2 ∨ o = 3 ∨ o = 4 ∨ o = 5 by omega) with rfl | rfl | rfl | rfl | rfl | rfl <;> rcases (show k = 0 ∨ k = 1 ∨ k = 2 by omega) with rfl | rfl | rfl <;> first | rfl | (exfalso; omega))
  · refine lv_aload_n hx hb dX1_ofOrder_8 rfl (lv_at hl 0 rfl) ?_
    refine va_get (D := D) (ci := 1) (v := .int (nI (sK A))) (C := RX1) (T := TX1) (N := 13) hx hb hts hin0 hown hK hP 0 rfl rfl 2 (by decide) (hts (.fieldLink RX1 43 "VoicePartsModel" "voices" "I") (by decide +kernel)) (fun _ h9 => h9) rfl dX1_ofOrder_9 ?_
    refine lv_iconst (v := nI 1) hx hb dX1_ofOrder_12 (by decide) ?_
    refine n_icmp_ne (tgt := 20) hx hb (by omega) (by omega) dX1_ofOrder_13 (by decide) (fun c_13 => ?_) (fun c_13 => ?_)
    · refine lv_iload_n hx hb dX1_ofOrder_20 rfl (lv_at hl 1 rfl) ?_
      refine lv_iload_n hx hb dX1_ofOrder_21 rfl (lv_at hl 2 rfl) ?_
      refine n_iadd hx hb dX1_ofOrder_22 ?_
      refine lv_iconst (v := nI 2) hx hb dX1_ofOrder_23 (by decide) ?_
      refine lv_irem hx hb dX1_ofOrder_24 (by decide) ?_
      refine n_top (y := nI ((o + k) % 2)) (pk_rem (by have z := fno_in (sK A); omega) (by decide) (by decide)) ?_
      exact hQ dX1_ofOrder_25 (by unfold fvo; rw [if_neg (by omega), if_pos (by omega)])
    · refine lv_iconst (v := nI 0) hx hb dX1_ofOrder_16 (by decide) ?_
      refine lv_goto (tgt := 25) hx hb dX1_ofOrder_17 (by decide) ?_
      exact hQ dX1_ofOrder_25 (by unfold fvo; rw [if_pos (by omega)])
def rmX1_apartBy : Room := { frames := 3, cells := 0, slots := 0, locals := 77 }
set_option maxHeartbeats 4000000 in
set_option maxRecDepth 100000 in
/-- apartBy -/
theorem kX1_apartBy (l : Launch) (D : va_G) (h : Nat → Nat) (cI cZ : ClassId) (A : St) (M : Nat → Int32) (hI : Inv A) (o : Nat) (ho : o < fno (sK A)) : RO l yX1_apartBy wsX1_apartBy rmX1_apartBy [.ref (h 0), .int (nI o)] (vB D (mw h cI cZ A M) [(cI, .int), (cZ, .boolean)]) (fap A o) := by
  refine ro_ofW (cc := cX1_apartBy) (maxL := 6) (by decide) rfl (Nat.le_of_ble_eq_true rfl) ?_
  intro p e s m below meth c args Q hx hb hml hown hts hB hQ ls hl
  have hown : s.vm.findClass RX1 = some m.cls := hown
  obtain ⟨hP, hK⟩ := hB
  have hin0 : ∀ w ∈ u_ws RX1 TX1 13, w ∈ wsX1_apartBy := fun _ h => List.mem_cons_of_mem _ (List.mem_append_right _ h)
  have hl : lv_has ls 6 [(0, .ref (h 0)), (1, .int (nI o))] := hl
  have hF := hI.F
  have hT := hI.T
  have hK3 := hI.K
  have hJ := hI.J
  have hZ := hI.Z
  refine lv_iconst (v := nI 0) hx hb dX1_apartBy_0 (by decide) ?_
  refine lv_istore_n (lv' := [(2, .int (nI 0)), (0, .ref (h 0)), (1, .int (nI o))]) hx hb dX1_apartBy_1 rfl hl (by decide) rfl (fun ls hl => ?_)
  refine lv_iconst (v := nI 0) hx hb dX1_apartBy_2 (by decide) ?_
  refine lv_istore_n (lv' := [(3, .int (nI 0)), (2, .int (nI 0)), (0, .ref (h 0)), (1, .int (nI o))]) hx hb dX1_apartBy_3 rfl hl (by decide) rfl (fun ls hl => ?_)
  have lp4 : ∀ (n4 k : Nat), k + n4 = sK A → ∀ (ls : Array Slot), lv_has ls 6 [(0, .ref (h 0)), (1, .int (nI o)), (2, .int (acc3 0 (fun k f t => fab (fsh A k f t - sE A (fvo (sK A) o k * 48 + (f * 8 + t)))) (sF A) (sT A) k)), (3, .int (nI k))] → W p l e rmX1_apartBy s m args below meth c s.heap [] 0 0 Q (F0 m 4 ls []) := by
    intro n4
    induction n4 with
    | zero =>
      intro k hi4 ls hl
      obtain rfl : sK A = k := by omega
      refine lv_iload_n hx hb dX1_apartBy_4 rfl (lv_at hl 3 rfl) ?_
      refine lv_aload_n hx hb dX1_apartBy_5 rfl (lv_at hl 0 rfl) ?_
      refine va_get (D := D) (ci := 1) (v := .int (nI (sK A))) (C := RX1) (T := TX1) (N := 13) hx hb hts hin0 hown hK hP 0 rfl rfl 2 (by decide) (hts (.fieldLink RX1 43 "VoicePartsModel" "voices" "I") (by decide +kernel)) (fun _ h9 => h9) rfl dX1_apartBy_6 ?_
      refine n_icmp_ge (tgt := 93) hx hb (by omega) (by omega) dX1_apartBy_9 (by decide) (fun c_9 => ?_) (fun c_9 => by exfalso; omega)
      refine lv_iload_n hx hb dX1_apartBy_93 rfl (lv_at hl 2 rfl) ?_
      exact hQ dX1_apartBy_94 (fap_eq A o)
    | succ n4 ih4 =>
      intro k hi4 ls hl
      refine lv_iload_n hx hb dX1_apartBy_4 rfl (lv_at hl 3 rfl) ?_
      refine lv_aload_n hx hb dX1_apartBy_5 rfl (lv_at hl 0 rfl) ?_
      refine va_get (D := D) (ci := 1) (v := .int (nI (sK A))) (C := RX1) (T := TX1) (N := 13) hx hb hts hin0 hown hK hP 0 rfl rfl 2 (by decide) (hts (.fieldLink RX1 43 "VoicePartsModel" "voices" "I") (by decide +kernel)) (fun _ h9 => h9) rfl dX1_apartBy_6 ?_
      refine n_icmp_ge (tgt := 93) hx hb (by omega) (by omega) dX1_apartBy_9 (by decide) (fun c_9 => by exfalso; omega) (fun c_9 => ?_)
      refine lv_iconst (v := nI 0) hx hb dX1_apartBy_12 (by decide) ?_
      refine lv_istore (lv' := [(4, .int (nI 0)), (0, .ref (h 0)), (1, .int (nI o)), (2, .int (acc3 0 (fun k f t => fab (fsh A k f t - sE A (fvo (sK A) o k * 48 + (f * 8 + t)))) (sF A) (sT A) k)), (3, .int (nI k))]) hx hb dX1_apartBy_13 hl (by decide) rfl (fun ls hl => ?_)
      have lp15 : ∀ (n15 f : Nat), f + n15 = sF A → ∀ (ls : Array Slot), lv_has ls 6 [(0, .ref (h 0)), (1, .int (nI o)), (2, .int (acc2 (acc3 0 (fun k f t => fab (fsh A k f t - sE A (fvo (sK A) o k * 48 + (f * 8 + t)))) (sF A) (sT A) k) (fun f t => fab (fsh A k f t - sE A (fvo (sK A) o k * 48 + (f * 8 + t)))) (sT A) f)), (3, .int (nI k)), (4, .int (nI f))] → W p l e rmX1_apartBy s m args below meth c s.heap [] 0 0 Q (F0 m 15 ls []) := by
        intro n15
        induction n15 with
        | zero =>
          intro f hi15 ls hl
          obtain rfl : sF A = f := by omega
          refine lv_iload hx hb dX1_apartBy_15 (lv_at hl 4 rfl) ?_
          refine lv_aload_n hx hb dX1_apartBy_17 rfl (lv_at hl 0 rfl) ?_
          refine va_get (D := D) (ci := 1) (v := .int (nI (sF A))) (C := RX1) (T := TX1) (N := 13) hx hb hts hin0 hown hK hP 0 rfl rfl 0 (by decide) (hts (.fieldLink RX1 36 "VoicePartsModel" "tones" "I") (by decide +kernel)) (fun _ h9 => h9) rfl dX1_apartBy_18 ?_
          refine n_icmp_ge (tgt := 87) hx hb (by omega) (by omega) dX1_apartBy_21 (by decide) (fun c_21 => ?_) (fun c_21 => by exfalso; omega)
          refine lv_iinc (v := nI (k + 1)) (lv' := [(3, .int (nI (k + 1))), (0, .ref (h 0)), (1, .int (nI o)), (2, .int (acc2 (acc3 0 (fun k f t => fab (fsh A k f t - sE A (fvo (sK A) o k * 48 + (f * 8 + t)))) (sF A) (sT A) k) (fun f t => fab (fsh A k f t - sE A (fvo (sK A) o k * 48 + (f * 8 + t)))) (sT A) (sF A))), (4, .int (nI (sF A)))]) hx hb dX1_apartBy_87 hl (k := 3) rfl (nI_inc _) (by decide) rfl (fun ls hl => ?_)
          refine lv_goto (tgt := 4) hx hb dX1_apartBy_90 (by decide) ?_
          exact ih4 (k + 1) (by omega) ls (lv_sub hl [1, 2, 3, 0] rfl)
        | succ n15 ih15 =>
          intro f hi15 ls hl
          refine lv_iload hx hb dX1_apartBy_15 (lv_at hl 4 rfl) ?_
          refine lv_aload_n hx hb dX1_apartBy_17 rfl (lv_at hl 0 rfl) ?_
          refine va_get (D := D) (ci := 1) (v := .int (nI (sF A))) (C := RX1) (T := TX1) (N := 13) hx hb hts hin0 hown hK hP 0 rfl rfl 0 (by decide) (hts (.fieldLink RX1 36 "VoicePartsModel" "tones" "I") (by decide +kernel)) (fun _ h9 => h9) rfl dX1_apartBy_18 ?_
          refine n_icmp_ge (tgt := 87) hx hb (by omega) (by omega) dX1_apartBy_21 (by decide) (fun c_21 => by exfalso; omega) (fun c_21 => ?_)
          refine lv_iconst (v := nI 0) hx hb dX1_apartBy_24 (by decide) ?_
          refine lv_istore (lv' := [(5, .int (nI 0)), (0, .ref (h 0)), (1, .int (nI o)), (2, .int (acc2 (acc3 0 (fun k f t => fab (fsh A k f t - sE A (fvo (sK A) o k * 48 + (f * 8 + t)))) (sF A) (sT A) k) (fun f t => fab (fsh A k f t - sE A (fvo (sK A) o k * 48 + (f * 8 + t)))) (sT A) f)), (3, .int (nI k)), (4, .int (nI f))]) hx hb dX1_apartBy_25 hl (by decide) rfl (fun ls hl => ?_)
          have lp27 : ∀ (n27 t : Nat), t + n27 = sT A → ∀ (ls : Array Slot), lv_has ls 6 [(0, .ref (h 0)), (1, .int (nI o)), (2, .int (acc (acc2 (acc3 0 (fun k f t => fab (fsh A k f t - sE A (fvo (sK A) o k * 48 + (f * 8 + t)))) (sF A) (sT A) k) (fun f t => fab (fsh A k f t - sE A (fvo (sK A) o k * 48 + (f * 8 + t)))) (sT A) f) (fun t => fab (fsh A k f t - sE A (fvo (sK A) o k * 48 + (f * 8 + t)))) t)), (3, .int (nI k)), (4, .int (nI f)), (5, .int (nI t))] → W p l e rmX1_apartBy s m args below meth c s.heap [] 0 0 Q (F0 m 27 ls []) := by
            intro n27
            induction n27 with
            | zero =>
              intro t hi27 ls hl
              obtain rfl : sT A = t := by omega
              refine lv_iload hx hb dX1_apartBy_27 (lv_at hl 5 rfl) ?_
              refine lv_aload_n hx hb dX1_apartBy_29 rfl (lv_at hl 0 rfl) ?_
              refine va_get (D := D) (ci := 1) (v := .int (nI (sT A))) (C := RX1) (T := TX1) (N := 13) hx hb hts hin0 hown hK hP 0 rfl rfl 1 (by decide) (hts (.fieldLink RX1 40 "VoicePartsModel" "times" "I") (by decide +kernel)) (fun _ h9 => h9) rfl dX1_apartBy_30 ?_
              refine n_icmp_ge (tgt := 81) hx hb (by omega) (by omega) dX1_apartBy_33 (by decide) (fun c_33 => ?_) (fun c_33 => by exfalso; omega)
              refine lv_iinc (v := nI (f + 1)) (lv' := [(4, .int (nI (f + 1))), (0, .ref (h 0)), (1, .int (nI o)), (2, .int (acc (acc2 (acc3 0 (fun k f t => fab (fsh A k f t - sE A (fvo (sK A) o k * 48 + (f * 8 + t)))) (sF A) (sT A) k) (fun f t => fab (fsh A k f t - sE A (fvo (sK A) o k * 48 + (f * 8 + t)))) (sT A) f) (fun t => fab (fsh A k f t - sE A (fvo (sK A) o k * 48 + (f * 8 + t)))) (sT A))), (3, .int (nI k)), (5, .int (nI (sT A)))]) hx hb dX1_apartBy_81 hl (k := 4) rfl (nI_inc _) (by decide) rfl (fun ls hl => ?_)
              refine lv_goto (tgt := 15) hx hb dX1_apartBy_84 (by decide) ?_
              exact ih15 (f + 1) (by omega) ls (lv_sub hl [1, 2, 3, 4, 0] rfl)
            | succ n27 ih27 =>
              intro t hi27 ls hl
              refine lv_iload hx hb dX1_apartBy_27 (lv_at hl 5 rfl) ?_
              refine lv_aload_n hx hb dX1_apartBy_29 rfl (lv_at hl 0 rfl) ?_
              refine va_get (D := D) (ci := 1) (v := .int (nI (sT A))) (C := RX1) (T := TX1) (N := 13) hx hb hts hin0 hown hK hP 0 rfl rfl 1 (by decide) (hts (.fieldLink RX1 40 "VoicePartsModel" "times" "I") (by decide +kernel)) (fun _ h9 => h9) rfl dX1_apartBy_30 ?_
              refine n_icmp_ge (tgt := 81) hx hb (by omega) (by omega) dX1_apartBy_33 (by decide) (fun c_33 => by exfalso; omega) (fun c_33 => ?_)
              refine lv_iload_n hx hb dX1_apartBy_36 rfl (lv_at hl 2 rfl) ?_
              refine lv_aload_n hx hb dX1_apartBy_37 rfl (lv_at hl 0 rfl) ?_
              refine lv_iload_n hx hb dX1_apartBy_38 rfl (lv_at hl 3 rfl) ?_
              refine lv_iload hx hb dX1_apartBy_39 (lv_at hl 4 rfl) ?_
              refine lv_iload hx hb dX1_apartBy_41 (lv_at hl 5 rfl) ?_
              refine ro_callV (As := [.int (nI k), .int (nI f), .int (nI t)]) (rest := [.int (acc (acc2 (acc3 0 (fun k f t => fab (fsh A k f t - sE A (fvo (sK A) o k * 48 + (f * 8 + t)))) (sF A) (sT A) k) (fun f t => fab (fsh A k f t - sE A (fvo (sK A) o k * 48 + (f * 8 + t)))) (sT A) f) (fun t => fab (fsh A k f t - sE A (fvo (sK A) o k * 48 + (f * 8 + t)))) t)]) ⟨hx, hb, hml, hown, hts⟩ (kX1_shareOf l D h cI cZ A M  hI (k) (f) (t) (by omega) (by omega) (by omega)) (cwV 3 hts gX1_apartBy_X1_shareOf rfl rfl rfl (by decide +kernel) ⟨Nat.le_of_ble_eq_true rfl, Nat.le_of_ble_eq_true rfl⟩) vB_bl (vB_at hP hK) (va_recv hK hP (ci := 1) (q0 := 0) rfl rfl) rfl hl.1 rfl (Nat.le_of_ble_eq_true rfl) dX1_apartBy_43 ⟨Nat.zero_le _, Nat.zero_le _⟩ ?_
              refine lv_aload_n hx hb dX1_apartBy_46 rfl (lv_at hl 0 rfl) ?_
              refine va_get (D := D) (ci := 1) (v := .ref (h 4)) (C := RX1) (T := TX1) (N := 13) hx hb hts hin0 hown hK hP 0 rfl rfl 6 (by decide) (hts (.fieldLink RX1 20 "VoicePartsModel" "truth" "[I") (by decide +kernel)) (fun _ h9 => h9) rfl dX1_apartBy_47 ?_
              refine lv_bipush (v := nI 48) hx hb dX1_apartBy_50 (by decide) ?_
              refine lv_aload_n hx hb dX1_apartBy_52 rfl (lv_at hl 0 rfl) ?_
              refine lv_iload_n hx hb dX1_apartBy_53 rfl (lv_at hl 1 rfl) ?_
              refine lv_iload_n hx hb dX1_apartBy_54 rfl (lv_at hl 3 rfl) ?_
              refine ro_callV (As := [.int (nI o), .int (nI k)]) (rest := [.int (nI 48), .ref (h 4), .int (fsh A k f t), .int (acc (acc2 (acc3 0 (fun k f t => fab (fsh A k f t - sE A (fvo (sK A) o k * 48 + (f * 8 + t)))) (sF A) (sT A) k) (fun f t => fab (fsh A k f t - sE A (fvo (sK A) o k * 48 + (f * 8 + t)))) (sT A) f) (fun t => fab (fsh A k f t - sE A (fvo (sK A) o k * 48 + (f * 8 + t)))) t)]) ⟨hx, hb, hml, hown, hts⟩ (kX1_ofOrder l D h cI cZ A M hI (o) (k) ho (by omega)) (cwV 2 hts gX1_apartBy_X1_ofOrder rfl rfl rfl (by decide +kernel) ⟨Nat.le_of_ble_eq_true rfl, Nat.le_of_ble_eq_true rfl⟩) vB_bl (vB_at hP hK) (va_recv hK hP (ci := 1) (q0 := 0) rfl rfl) rfl hl.1 rfl (Nat.le_of_ble_eq_true rfl) dX1_apartBy_55 ⟨Nat.zero_le _, Nat.zero_le _⟩ ?_
              refine n_imulc hx hb dX1_apartBy_58 ?_
              refine lv_bipush (v := nI 8) hx hb dX1_apartBy_59 (by decide) ?_
              refine lv_iload hx hb dX1_apartBy_61 (lv_at hl 4 rfl) ?_
              refine n_imulc hx hb dX1_apartBy_63 ?_
              refine n_iadd hx hb dX1_apartBy_64 ?_
              refine lv_iload hx hb dX1_apartBy_65 (lv_at hl 5 rfl) ?_
              refine n_iadd hx hb dX1_apartBy_67 ?_
              have hvl := fvo_lt (o := o) (k := k) hK3
              refine n_iald hx hb hK hP 4 0 rfl rfl (by omega) (by decide) dX1_apartBy_68 ?_
              refine n_top (y := sE A (fvo (sK A) o k * 48 + (f * 8 + t))) (by rw [Nat.add_assoc]) ?_
              refine lv_isub hx hb dX1_apartBy_69 ?_
              refine ro_callS (As := [.int ((fsh A k f t) - (sE A (fvo (sK A) o k * 48 + (f * 8 + t))))]) (rest := [.int (acc (acc2 (acc3 0 (fun k f t => fab (fsh A k f t - sE A (fvo (sK A) o k * 48 + (f * 8 + t)))) (sF A) (sT A) k) (fun f t => fab (fsh A k f t - sE A (fvo (sK A) o k * 48 + (f * 8 + t)))) (sT A) f) (fun t => fab (fsh A k f t - sE A (fvo (sK A) o k * 48 + (f * 8 + t)))) t)]) ⟨hx, hb, hml, hown, hts⟩ (kX1_size l ((fsh A k f t) - (sE A (fvo (sK A) o k * 48 + (f * 8 + t))))) (va_cwS 1 hts gX1_apartBy_X1_size rfl rfl rfl (by decide +kernel) ⟨Nat.le_of_ble_eq_true rfl, Nat.le_of_ble_eq_true rfl⟩) vT_bl vT_at rfl hl.1 rfl (Nat.le_of_ble_eq_true rfl) dX1_apartBy_70 ⟨Nat.zero_le _, Nat.zero_le _⟩ ?_
              refine lv_iadd hx hb dX1_apartBy_73 ?_
              refine lv_istore_n (lv' := [(2, .int ((acc (acc2 (acc3 0 (fun k f t => fab (fsh A k f t - sE A (fvo (sK A) o k * 48 + (f * 8 + t)))) (sF A) (sT A) k) (fun f t => fab (fsh A k f t - sE A (fvo (sK A) o k * 48 + (f * 8 + t)))) (sT A) f) (fun t => fab (fsh A k f t - sE A (fvo (sK A) o k * 48 + (f * 8 + t)))) t) + (fab ((fsh A k f t) - (sE A (fvo (sK A) o k * 48 + (f * 8 + t))))))), (0, .ref (h 0)), (1, .int (nI o)), (3, .int (nI k)), (4, .int (nI f)), (5, .int (nI t))]) hx hb dX1_apartBy_74 rfl hl (by decide) rfl (fun ls hl => ?_)
              refine lv_iinc (v := nI (t + 1)) (lv' := [(5, .int (nI (t + 1))), (2, .int ((acc (acc2 (acc3 0 (fun k f t => fab (fsh A k f t - sE A (fvo (sK A) o k * 48 + (f * 8 + t)))) (sF A) (sT A) k) (fun f t => fab (fsh A k f t - sE A (fvo (sK A) o k * 48 + (f * 8 + t)))) (sT A) f) (fun t => fab (fsh A k f t - sE A (fvo (sK A) o k * 48 + (f * 8 + t)))) t) + (fab ((fsh A k f t) - (sE A (fvo (sK A) o k * 48 + (f * 8 + t))))))), (0, .ref (h 0)), (1, .int (nI o)), (3, .int (nI k)), (4, .int (nI f))]) hx hb dX1_apartBy_75 hl (k := 5) rfl (nI_inc _) (by decide) rfl (fun ls hl => ?_)
              refine lv_goto (tgt := 27) hx hb dX1_apartBy_78 (by decide) ?_
              exact ih27 (t + 1) (by omega) ls (lv_sub hl [2, 3, 1, 4, 5, 0] rfl)
          exact lp27 (sT A) (0) (by omega) ls (lv_sub hl [1, 2, 3, 4, 5, 0] rfl)
      exact lp15 (sF A) (0) (by omega) ls (lv_sub hl [1, 2, 3, 4, 0] rfl)
  exact lp4 (sK A) (0) (by omega) ls (lv_sub hl [2, 3, 1, 0] rfl)
def rmX1_apart : Room := { frames := 4, cells := 0, slots := 0, locals := 102 }
set_option maxHeartbeats 4000000 in
set_option maxRecDepth 100000 in
/-- apart -/
theorem kX1_apart (l : Launch) (D : va_G) (h : Nat → Nat) (cI cZ : ClassId) (A : St) (M : Nat → Int32) (hI : Inv A) (x : Int32) : RO l yX1_apart wsX1_apart rmX1_apart [.ref (h 0), .int x] (vB D (mw h cI cZ A M) [(cI, .int), (cZ, .boolean)]) (aAp A x) := by
  refine ro_ofW (cc := cX1_apart) (maxL := 2) (by decide) rfl (Nat.le_of_ble_eq_true rfl) ?_
  intro p e s m below meth c args Q hx hb hml hown hts hB hQ ls hl
  have hown : s.vm.findClass RX1 = some m.cls := hown
  obtain ⟨hP, hK⟩ := hB
  have hin0 : ∀ w ∈ u_ws RX1 TX1 13, w ∈ wsX1_apart := fun _ h => List.mem_cons_of_mem _ (List.mem_append_right _ h)
  have hl : lv_has ls 2 [(0, .ref (h 0)), (1, .int x)] := hl
  have hF := hI.F
  have hT := hI.T
  have hK3 := hI.K
  have hJ := hI.J
  have hZ := hI.Z
  have hno := fno_in (sK A)
  refine lv_iload_n hx hb dX1_apart_0 rfl (lv_at hl 1 rfl) ?_
  refine lv_iconst (v := nI 0) hx hb dX1_apart_1 (by decide) ?_
  refine lv_aload_n hx hb dX1_apart_2 rfl (lv_at hl 0 rfl) ?_
  refine ro_callV (As := []) (rest := [.int (nI 0), .int x]) ⟨hx, hb, hml, hown, hts⟩ (kX1_orders l D h cI cZ A M  hI ) (cwV 0 hts gX1_apart_X1_orders rfl rfl rfl (by decide +kernel) ⟨Nat.le_of_ble_eq_true rfl, Nat.le_of_ble_eq_true rfl⟩) vB_bl (vB_at hP hK) (va_recv hK hP (ci := 1) (q0 := 0) rfl rfl) rfl hl.1 rfl (Nat.le_of_ble_eq_true rfl) dX1_apart_3 ⟨Nat.zero_le _, Nat.zero_le _⟩ ?_
  refine lv_iconst (v := nI 1) hx hb dX1_apart_6 (by decide) ?_
  refine n_isub hx hb (by omega) dX1_apart_7 ?_
  refine ro_callS (As := [.int x, .int (nI 0), .int (nI ((fno (sK A)) - 1))]) (rest := []) ⟨hx, hb, hml, hown, hts⟩ (kX1_in l (x) (nI 0) (nI ((fno (sK A)) - 1))) (va_cwS 3 hts gX1_apart_X1_in rfl rfl rfl (by decide +kernel) ⟨Nat.le_of_ble_eq_true rfl, Nat.le_of_ble_eq_true rfl⟩) vT_bl vT_at rfl hl.1 rfl (Nat.le_of_ble_eq_true rfl) dX1_apart_8 ⟨Nat.zero_le _, Nat.zero_le _⟩ ?_
  refine b_if_eq (tgt := 22) hx hb dX1_apart_11 (by decide) (fun c_11 => ?_) (fun c_11 => ?_)
  · refine lv_iconst (v := (-1)) hx hb dX1_apart_22 (by decide) ?_
    exact hQ dX1_apart_23 (by unfold aAp; rw [if_neg c_11])
  · obtain ⟨o, ho, rfl⟩ := iN_of (n := fno (sK A)) c_11 (by omega) (by omega)
    refine lv_aload_n hx hb dX1_apart_14 rfl (lv_at hl 0 rfl) ?_
    refine lv_iload_n hx hb dX1_apart_15 rfl (lv_at hl 1 rfl) ?_
    refine ro_callV (As := [.int (nI o)]) (rest := []) ⟨hx, hb, hml, hown, hts⟩ (kX1_apartBy l D h cI cZ A M hI (o) (ho)) (cwV 1 hts gX1_apart_X1_apartBy rfl rfl rfl (by decide +kernel) ⟨Nat.le_of_ble_eq_true rfl, Nat.le_of_ble_eq_true rfl⟩) vB_bl (vB_at hP hK) (va_recv hK hP (ci := 1) (q0 := 0) rfl rfl) rfl hl.1 rfl (Nat.le_of_ble_eq_true rfl) dX1_apart_16 ⟨Nat.zero_le _, Nat.zero_le _⟩ ?_
    refine lv_goto (tgt := 23) hx hb dX1_apart_19 (by decide) ?_
    exact hQ dX1_apart_23 (by unfold aAp; rw [if_pos c_11, cl_nI (n := o) (by omega)])
def rmX1_order : Room := { frames := 4, cells := 0, slots := 0, locals := 102 }
set_option maxHeartbeats 4000000 in
set_option maxRecDepth 100000 in
/-- order -/
theorem kX1_order (l : Launch) (D : va_G) (h : Nat → Nat) (cI cZ : ClassId) (A : St) (M : Nat → Int32) (hI : Inv A) : RO l yX1_order wsX1_order rmX1_order [.ref (h 0)] (vB D (mw h cI cZ A M) [(cI, .int), (cZ, .boolean)]) (aOr A) := by
  refine ro_ofW (cc := cX1_order) (maxL := 3) (by decide) rfl (Nat.le_of_ble_eq_true rfl) ?_
  intro p e s m below meth c args Q hx hb hml hown hts hB hQ ls hl
  have hown : s.vm.findClass RX1 = some m.cls := hown
  obtain ⟨hP, hK⟩ := hB
  have hin0 : ∀ w ∈ u_ws RX1 TX1 13, w ∈ wsX1_order := fun _ h => List.mem_cons_of_mem _ (List.mem_append_right _ h)
  have hl : lv_has ls 3 [(0, .ref (h 0))] := hl
  have hF := hI.F
  have hT := hI.T
  have hK3 := hI.K
  have hJ := hI.J
  have hZ := hI.Z
  have hno := fno_in (sK A)
  refine lv_iconst (v := nI 0) hx hb dX1_order_0 (by decide) ?_
  refine lv_istore_n (lv' := [(1, .int (nI 0)), (0, .ref (h 0))]) hx hb dX1_order_1 rfl hl (by decide) rfl (fun ls hl => ?_)
  refine lv_iconst (v := nI 1) hx hb dX1_order_2 (by decide) ?_
  refine lv_istore_n (lv' := [(2, .int (nI 1)), (1, .int (nI 0)), (0, .ref (h 0))]) hx hb dX1_order_3 rfl hl (by decide) rfl (fun ls hl => ?_)
  have lp4 : ∀ (n4 i : Nat), i + n4 = fno (sK A) - 1 → ∀ (ls : Array Slot), lv_has ls 3 [(0, .ref (h 0)), (1, .int (nI (fle (fap A) i))), (2, .int (nI (i + 1)))] → W p l e rmX1_order s m args below meth c s.heap [] 0 0 Q (F0 m 4 ls []) := by
    intro n4
    induction n4 with
    | zero =>
      intro i hi4 ls hl
      obtain rfl : fno (sK A) - 1 = i := by omega
      refine lv_iload_n hx hb dX1_order_4 rfl (lv_at hl 2 rfl) ?_
      refine lv_aload_n hx hb dX1_order_5 rfl (lv_at hl 0 rfl) ?_
      refine ro_callV (As := []) (rest := [.int (nI ((fno (sK A) - 1) + 1))]) ⟨hx, hb, hml, hown, hts⟩ (kX1_orders l D h cI cZ A M  hI ) (cwV 0 hts gX1_order_X1_orders rfl rfl rfl (by decide +kernel) ⟨Nat.le_of_ble_eq_true rfl, Nat.le_of_ble_eq_true rfl⟩) vB_bl (vB_at hP hK) (va_recv hK hP (ci := 1) (q0 := 0) rfl rfl) rfl hl.1 rfl (Nat.le_of_ble_eq_true rfl) dX1_order_6 ⟨Nat.zero_le _, Nat.zero_le _⟩ ?_
      refine n_icmp_ge (tgt := 37) hx hb (by omega) (by omega) dX1_order_9 (by decide) (fun c_9 => ?_) (fun c_9 => by exfalso; omega)
      refine lv_iload_n hx hb dX1_order_37 rfl (lv_at hl 1 rfl) ?_
      exact hQ dX1_order_38 (rfl)
    | succ n4 ih4 =>
      intro i hi4 ls hl
      refine lv_iload_n hx hb dX1_order_4 rfl (lv_at hl 2 rfl) ?_
      refine lv_aload_n hx hb dX1_order_5 rfl (lv_at hl 0 rfl) ?_
      refine ro_callV (As := []) (rest := [.int (nI (i + 1))]) ⟨hx, hb, hml, hown, hts⟩ (kX1_orders l D h cI cZ A M  hI ) (cwV 0 hts gX1_order_X1_orders rfl rfl rfl (by decide +kernel) ⟨Nat.le_of_ble_eq_true rfl, Nat.le_of_ble_eq_true rfl⟩) vB_bl (vB_at hP hK) (va_recv hK hP (ci := 1) (q0 := 0) rfl rfl) rfl hl.1 rfl (Nat.le_of_ble_eq_true rfl) dX1_order_6 ⟨Nat.zero_le _, Nat.zero_le _⟩ ?_
      refine n_icmp_ge (tgt := 37) hx hb (by omega) (by omega) dX1_order_9 (by decide) (fun c_9 => by exfalso; omega) (fun c_9 => ?_)
      have hfl := fle_le (fap A) i
      refine lv_aload_n hx hb dX1_order_12 rfl (lv_at hl 0 rfl) ?_
      refine lv_iload_n hx hb dX1_order_13 rfl (lv_at hl 2 rfl) ?_
      refine ro_callV (As := [.int (nI (i + 1))]) (rest := []) ⟨hx, hb, hml, hown, hts⟩ (kX1_apartBy l D h cI cZ A M hI (i + 1) (by omega)) (cwV 1 hts gX1_order_X1_apartBy rfl rfl rfl (by decide +kernel) ⟨Nat.le_of_ble_eq_true rfl, Nat.le_of_ble_eq_true rfl⟩) vB_bl (vB_at hP hK) (va_recv hK hP (ci := 1) (q0 := 0) rfl rfl) rfl hl.1 rfl (Nat.le_of_ble_eq_true rfl) dX1_order_14 ⟨Nat.zero_le _, Nat.zero_le _⟩ ?_
      refine lv_aload_n hx hb dX1_order_17 rfl (lv_at hl 0 rfl) ?_
      refine lv_iload_n hx hb dX1_order_18 rfl (lv_at hl 1 rfl) ?_
      refine ro_callV (As := [.int (nI (fle (fap A) i))]) (rest := [.int (fap A (i + 1))]) ⟨hx, hb, hml, hown, hts⟩ (kX1_apartBy l D h cI cZ A M hI (fle (fap A) i) (by omega)) (cwV 1 hts gX1_order_X1_apartBy rfl rfl rfl (by decide +kernel) ⟨Nat.le_of_ble_eq_true rfl, Nat.le_of_ble_eq_true rfl⟩) vB_bl (vB_at hP hK) (va_recv hK hP (ci := 1) (q0 := 0) rfl rfl) rfl hl.1 rfl (Nat.le_of_ble_eq_true rfl) dX1_order_19 ⟨Nat.zero_le _, Nat.zero_le _⟩ ?_
      refine lv_icmp_ge (tgt := 29) hx hb dX1_order_22 (by decide) (fun c_22 => ?_) (fun c_22 => ?_)
      · refine lv_iload_n hx hb dX1_order_29 rfl (lv_at hl 1 rfl) ?_
        refine lv_istore_n (lv' := [(1, .int (nI (fle (fap A) i))), (0, .ref (h 0)), (2, .int (nI (i + 1)))]) hx hb dX1_order_30 rfl hl (by decide) rfl (fun ls hl => ?_)
        have hl : lv_has ls 3 [(1, .int (nI (fle (fap A) (i + 1)))), (0, .ref (h 0)), (2, .int (nI (i + 1)))] := by rw [show fle (fap A) (i + 1) = fle (fap A) i from if_neg (Int32.not_lt.mpr c_22)]; exact hl
        refine lv_iinc (v := nI (i + 1 + 1)) (lv' := [(2, .int (nI (i + 1 + 1))), (1, .int (nI (fle (fap A) (i + 1)))), (0, .ref (h 0))]) hx hb dX1_order_31 hl (k := 2) rfl (nI_inc _) (by decide) rfl (fun ls hl => ?_)
        refine lv_goto (tgt := 4) hx hb dX1_order_34 (by decide) ?_
        exact ih4 (i + 1) (by omega) ls (lv_sub hl [2, 1, 0] rfl)
      · refine lv_iload_n hx hb dX1_order_25 rfl (lv_at hl 2 rfl) ?_
        refine lv_goto (tgt := 30) hx hb dX1_order_26 (by decide) ?_
        refine lv_istore_n (lv' := [(1, .int (nI (i + 1))), (0, .ref (h 0)), (2, .int (nI (i + 1)))]) hx hb dX1_order_30 rfl hl (by decide) rfl (fun ls hl => ?_)
        have hl : lv_has ls 3 [(1, .int (nI (fle (fap A) (i + 1)))), (0, .ref (h 0)), (2, .int (nI (i + 1)))] := by rw [show fle (fap A) (i + 1) = i + 1 from if_pos (Int32.not_le.mp c_22)]; exact hl
        refine lv_iinc (v := nI (i + 1 + 1)) (lv' := [(2, .int (nI (i + 1 + 1))), (1, .int (nI (fle (fap A) (i + 1)))), (0, .ref (h 0))]) hx hb dX1_order_31 hl (k := 2) rfl (nI_inc _) (by decide) rfl (fun ls hl => ?_)
        refine lv_goto (tgt := 4) hx hb dX1_order_34 (by decide) ?_
        exact ih4 (i + 1) (by omega) ls (lv_sub hl [2, 1, 0] rfl)
  exact lp4 (fno (sK A) - 1) (0) (by omega) ls (lv_sub hl [2, 1, 0] rfl)
def rmX1_count : Room := { frames := 0, cells := 0, slots := 0, locals := 0 }
set_option maxHeartbeats 4000000 in
set_option maxRecDepth 100000 in
/-- count -/
theorem kX1_count (l : Launch) (D : va_G) (h : Nat → Nat) (cI cZ : ClassId) (A : St) (M : Nat → Int32) (hI : Inv A) (u : Int32) : RO l yX1_count wsX1_count rmX1_count [.ref (h 0), .int u] (vB D (mw h cI cZ A M) [(cI, .int), (cZ, .boolean)]) (aCo A u) := by
  refine ro_ofW (cc := cX1_count) (maxL := 4) (by decide) rfl (Nat.le_of_ble_eq_true rfl) ?_
  intro p e s m below meth c args Q hx hb hml hown hts hB hQ ls hl
  have hown : s.vm.findClass RX1 = some m.cls := hown
  obtain ⟨hP, hK⟩ := hB
  have hin0 : ∀ w ∈ u_ws RX1 TX1 13, w ∈ wsX1_count := fun _ h => List.mem_cons_of_mem _ (List.mem_append_right _ h)
  have hl : lv_has ls 4 [(0, .ref (h 0)), (1, .int u)] := hl
  have hF := hI.F
  have hT := hI.T
  have hK3 := hI.K
  have hJ := hI.J
  have hZ := hI.Z
  refine lv_iconst (v := nI 0) hx hb dX1_count_0 (by decide) ?_
  refine lv_istore_n (lv' := [(2, .int (nI 0)), (0, .ref (h 0)), (1, .int u)]) hx hb dX1_count_1 rfl hl (by decide) rfl (fun ls hl => ?_)
  refine lv_iload_n hx hb dX1_count_2 rfl (lv_at hl 2 rfl) ?_
  by_cases hw : iN u 8
  · obtain ⟨jw, hjw, rfl⟩ := iN_of hw (by decide) (by decide)
    rcases (show jw = 0 ∨ jw = 1 ∨ jw = 2 ∨ jw = 3 ∨ jw = 4 ∨ jw = 5 ∨ jw = 6 ∨ jw = 7 by omega) with rfl | rfl | rfl | rfl | rfl | rfl | rfl | rfl
    · refine lv_tableIn (off := 45) (tgt := 48) hx hb dX1_count_3 (by decide) (by decide) (by decide) (by decide) ?_
      refine lv_aload_n hx hb dX1_count_48 rfl (lv_at hl 1 rfl) ?_
      refine va_get (D := D) (ci := 1) (v := .int (nI (sF A))) (C := RX1) (T := TX1) (N := 13) hx hb hts hin0 hown hK hP 0 rfl rfl 0 (by decide) (hts (.fieldLink RX1 36 "VoicePartsModel" "tones" "I") (by decide +kernel)) (fun _ h9 => h9) rfl dX1_count_49 ?_
      exact hQ dX1_count_52 (by unfold aCo; rw [if_pos hw]; rfl)
    · refine lv_tableIn (off := 50) (tgt := 53) hx hb dX1_count_3 (by decide) (by decide) (by decide) (by decide) ?_
      refine lv_aload_n hx hb dX1_count_53 rfl (lv_at hl 1 rfl) ?_
      refine va_get (D := D) (ci := 1) (v := .int (nI (sT A))) (C := RX1) (T := TX1) (N := 13) hx hb hts hin0 hown hK hP 0 rfl rfl 1 (by decide) (hts (.fieldLink RX1 40 "VoicePartsModel" "times" "I") (by decide +kernel)) (fun _ h9 => h9) rfl dX1_count_54 ?_
      exact hQ dX1_count_57 (by unfold aCo; rw [if_pos hw]; rfl)
    · refine lv_tableIn (off := 55) (tgt := 58) hx hb dX1_count_3 (by decide) (by decide) (by decide) (by decide) ?_
      refine lv_aload_n hx hb dX1_count_58 rfl (lv_at hl 1 rfl) ?_
      refine va_get (D := D) (ci := 1) (v := .int (nI (sK A))) (C := RX1) (T := TX1) (N := 13) hx hb hts hin0 hown hK hP 0 rfl rfl 2 (by decide) (hts (.fieldLink RX1 43 "VoicePartsModel" "voices" "I") (by decide +kernel)) (fun _ h9 => h9) rfl dX1_count_59 ?_
      exact hQ dX1_count_62 (by unfold aCo; rw [if_pos hw]; rfl)
    · refine lv_tableIn (off := 60) (tgt := 63) hx hb dX1_count_3 (by decide) (by decide) (by decide) (by decide) ?_
      refine lv_aload_n hx hb dX1_count_63 rfl (lv_at hl 1 rfl) ?_
      refine va_get (D := D) (ci := 1) (v := .int (nI (sJ A))) (C := RX1) (T := TX1) (N := 13) hx hb hts hin0 hown hK hP 0 rfl rfl 7 (by decide) (hts (.fieldLink RX1 76 "VoicePartsModel" "judge" "I") (by decide +kernel)) (fun _ h9 => h9) rfl dX1_count_64 ?_
      exact hQ dX1_count_67 (by unfold aCo; rw [if_pos hw]; rfl)
    · refine lv_tableIn (off := 65) (tgt := 68) hx hb dX1_count_3 (by decide) (by decide) (by decide) (by decide) ?_
      refine lv_iconst (v := nI 0) hx hb dX1_count_68 (by decide) ?_
      refine lv_istore_n (lv' := [(3, .int (nI 0)), (2, .int (nI 0)), (0, .ref (h 0)), (1, .int (nI 4))]) hx hb dX1_count_69 rfl hl (by decide) rfl (fun ls hl => ?_)
      have lp70 : ∀ (n70 i : Nat), i + n70 = 48 → ∀ (ls : Array Slot), lv_has ls 4 [(0, .ref (h 0)), (1, .int (nI 4)), (2, .int (nI (cnt (fun j => sX A (j / 16) (j % 16)) i))), (3, .int (nI i))] → W p l e rmX1_count s m args below meth c s.heap [] 0 0 Q (F0 m 70 ls []) := by
        intro n70
        induction n70 with
        | zero =>
          intro i hi70 ls hl
          obtain rfl : 48 = i := by omega
          refine lv_iload_n hx hb dX1_count_70 rfl (lv_at hl 3 rfl) ?_
          refine lv_bipush (v := nI 48) hx hb dX1_count_71 (by decide) ?_
          refine n_icmp_ge (tgt := 99) hx hb (by omega) (by omega) dX1_count_73 (by decide) (fun c_73 => ?_) (fun c_73 => by exfalso; omega)
          refine lv_iload_n hx hb dX1_count_99 rfl (lv_at hl 2 rfl) ?_
          exact hQ dX1_count_100 (by unfold aCo; rw [if_pos hw, cnt48 hI.X]; rfl)
        | succ n70 ih70 =>
          intro i hi70 ls hl
          refine lv_iload_n hx hb dX1_count_70 rfl (lv_at hl 3 rfl) ?_
          refine lv_bipush (v := nI 48) hx hb dX1_count_71 (by decide) ?_
          refine n_icmp_ge (tgt := 99) hx hb (by omega) (by omega) dX1_count_73 (by decide) (fun c_73 => by exfalso; omega) (fun c_73 => ?_)
          refine lv_iload_n hx hb dX1_count_76 rfl (lv_at hl 2 rfl) ?_
          refine lv_aload_n hx hb dX1_count_77 rfl (lv_at hl 0 rfl) ?_
          refine va_get (D := D) (ci := 1) (v := .ref (h 3)) (C := RX1) (T := TX1) (N := 13) hx hb hts hin0 hown hK hP 0 rfl rfl 5 (by decide) (hts (.fieldLink RX1 16 "VoicePartsModel" "isBarred" "[Z") (by decide +kernel)) (fun _ h9 => h9) rfl dX1_count_78 ?_
          refine lv_iload_n hx hb dX1_count_81 rfl (lv_at hl 3 rfl) ?_
          refine n_zald hx hb hK hP 3 1 rfl rfl (by omega) (by decide) dX1_count_82 ?_
          refine b_if_eq (tgt := 90) hx hb dX1_count_83 (by decide) (fun c_83 => ?_) (fun c_83 => ?_)
          · refine lv_iconst (v := nI 0) hx hb dX1_count_90 (by decide) ?_
            refine n_iadd hx hb dX1_count_91 ?_
            refine n_top (y := nI (cnt (fun j => sX A (j / 16) (j % 16)) (i + 1))) (by rw [cnt_no (p := (fun j => sX A (j / 16) (j % 16))) (n := i) (Bool.eq_false_iff.mpr c_83)]; rfl) ?_
            refine lv_istore_n (lv' := [(2, .int (nI (cnt (fun j => sX A (j / 16) (j % 16)) (i + 1)))), (0, .ref (h 0)), (1, .int (nI 4)), (3, .int (nI i))]) hx hb dX1_count_92 rfl hl (by decide) rfl (fun ls hl => ?_)
            refine lv_iinc (v := nI (i + 1)) (lv' := [(3, .int (nI (i + 1))), (2, .int (nI (cnt (fun j => sX A (j / 16) (j % 16)) (i + 1)))), (0, .ref (h 0)), (1, .int (nI 4))]) hx hb dX1_count_93 hl (k := 3) rfl (nI_inc _) (by decide) rfl (fun ls hl => ?_)
            refine lv_goto (tgt := 70) hx hb dX1_count_96 (by decide) ?_
            exact ih70 (i + 1) (by omega) ls (lv_sub hl [2, 3, 1, 0] rfl)
          · refine lv_iconst (v := nI 1) hx hb dX1_count_86 (by decide) ?_
            refine lv_goto (tgt := 91) hx hb dX1_count_87 (by decide) ?_
            refine n_iadd hx hb dX1_count_91 ?_
            refine n_top (y := nI (cnt (fun j => sX A (j / 16) (j % 16)) (i + 1))) (by rw [cnt_yes (p := (fun j => sX A (j / 16) (j % 16))) (n := i) c_83]) ?_
            refine lv_istore_n (lv' := [(2, .int (nI (cnt (fun j => sX A (j / 16) (j % 16)) (i + 1)))), (0, .ref (h 0)), (1, .int (nI 4)), (3, .int (nI i))]) hx hb dX1_count_92 rfl hl (by decide) rfl (fun ls hl => ?_)
            refine lv_iinc (v := nI (i + 1)) (lv' := [(3, .int (nI (i + 1))), (2, .int (nI (cnt (fun j => sX A (j / 16) (j % 16)) (i + 1)))), (0, .ref (h 0)), (1, .int (nI 4))]) hx hb dX1_count_93 hl (k := 3) rfl (nI_inc _) (by decide) rfl (fun ls hl => ?_)
            refine lv_goto (tgt := 70) hx hb dX1_count_96 (by decide) ?_
            exact ih70 (i + 1) (by omega) ls (lv_sub hl [2, 3, 1, 0] rfl)
      exact lp70 (48) (0) (by omega) ls (lv_sub hl [2, 3, 1, 0] rfl)
    · refine lv_tableIn (off := 98) (tgt := 101) hx hb dX1_count_3 (by decide) (by decide) (by decide) (by decide) ?_
      refine lv_aload_n hx hb dX1_count_101 rfl (lv_at hl 1 rfl) ?_
      refine va_get (D := D) (ci := 1) (v := .ref (h 5)) (C := RX1) (T := TX1) (N := 13) hx hb hts hin0 hown hK hP 0 rfl rfl 9 (by decide) (hts (.fieldLink RX1 23 "VoicePartsModel" "heard" "[I") (by decide +kernel)) (fun _ h9 => h9) rfl dX1_count_102 ?_
      refine lv_iconst (v := nI 0) hx hb dX1_count_105 (by decide) ?_
      refine n_iald hx hb hK hP 5 0 rfl rfl (by omega) (by decide) dX1_count_106 ?_
      exact hQ dX1_count_107 (by unfold aCo; rw [if_pos hw]; rfl)
    · refine lv_tableIn (off := 105) (tgt := 108) hx hb dX1_count_3 (by decide) (by decide) (by decide) (by decide) ?_
      refine lv_aload_n hx hb dX1_count_108 rfl (lv_at hl 1 rfl) ?_
      refine va_get (D := D) (ci := 1) (v := .ref (h 5)) (C := RX1) (T := TX1) (N := 13) hx hb hts hin0 hown hK hP 0 rfl rfl 9 (by decide) (hts (.fieldLink RX1 23 "VoicePartsModel" "heard" "[I") (by decide +kernel)) (fun _ h9 => h9) rfl dX1_count_109 ?_
      refine lv_iconst (v := nI 1) hx hb dX1_count_112 (by decide) ?_
      refine n_iald hx hb hK hP 5 0 rfl rfl (by omega) (by decide) dX1_count_113 ?_
      exact hQ dX1_count_114 (by unfold aCo; rw [if_pos hw]; rfl)
    · refine lv_tableIn (off := 112) (tgt := 115) hx hb dX1_count_3 (by decide) (by decide) (by decide) (by decide) ?_
      refine lv_aload_n hx hb dX1_count_115 rfl (lv_at hl 1 rfl) ?_
      refine va_get (D := D) (ci := 1) (v := .int (sN A)) (C := RX1) (T := TX1) (N := 13) hx hb hts hin0 hown hK hP 0 rfl rfl 8 (by decide) (hts (.fieldLink RX1 101 "VoicePartsModel" "roundsDone" "I") (by decide +kernel)) (fun _ h9 => h9) rfl dX1_count_116 ?_
      exact hQ dX1_count_119 (by unfold aCo; rw [if_pos hw]; rfl)
  · refine lv_tableOut (tgt := 120) hx hb dX1_count_3 (by have z := iN_out hw (by decide) (by decide); omega) (by decide) ?_
    refine lv_iconst (v := (-1)) hx hb dX1_count_120 (by decide) ?_
    exact hQ dX1_count_121 (by unfold aCo; rw [if_neg hw])
