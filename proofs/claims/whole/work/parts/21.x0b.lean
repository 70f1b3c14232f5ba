def rmX0_shareAt : Room := { frames := 2, cells := 0, slots := 0, locals := 48 }
set_option maxHeartbeats 4000000 in
set_option maxRecDepth 100000 in
/-- shareAt -/
theorem kX0_shareAt (l : Launch) (D : va_G) (h : Nat → Nat) (cI : ClassId) (A : St) (hI : Inv A) (k f t : Nat) (hk : k < 3) (hf : f < 6) (ht : t < 8) : RO l yX0_shareAt wsX0_shareAt rmX0_shareAt [.ref (h 0), .int (nI k), .int (nI f), .int (nI t)] (vB D (xw h cI A) [(cI, .int)]) (fsh A k f t) := by
  refine ro_ofW (cc := cX0_shareAt) (maxL := 11) (by decide) rfl (Nat.le_of_ble_eq_true rfl) ?_
  intro p e s m below meth c args Q hx hb hml hown hts hB hQ ls hl
  have hown : s.vm.findClass RX0 = some m.cls := hown
  obtain ⟨hP, hK⟩ := hB
  have hin0 : ∀ w ∈ u_ws RX0 TX0 12, w ∈ wsX0_shareAt := fun _ h => List.mem_cons_of_mem _ (List.mem_append_right _ h)
  have hl : lv_has ls 11 [(0, .ref (h 0)), (1, .int (nI k)), (2, .int (nI f)), (3, .int (nI t))] := hl
  have hF := hI.F
  have hT := hI.T
  have hK3 := hI.K
  have hJ := hI.J
  have hZ := hI.Z
  refine lv_aload_n hx hb dX0_shareAt_0 rfl (lv_at hl 0 rfl) ?_
  refine lv_iload_n hx hb dX0_shareAt_1 rfl (lv_at hl 2 rfl) ?_
  refine lv_iload_n hx hb dX0_shareAt_2 rfl (lv_at hl 3 rfl) ?_
  refine ro_callV (As := [.int (nI f), .int (nI t)]) (rest := []) ⟨hx, hb, hml, hown, hts⟩ (kX0_boardAt l D h cI A (f) (t) (by omega) (by omega)) (cwV 2 hts gX0_shareAt_X0_boardAt rfl rfl rfl (by decide +kernel) ⟨Nat.le_of_ble_eq_true rfl, Nat.le_of_ble_eq_true rfl⟩) vB_bl (vB_at hP hK) (va_recv hK hP (ci := 0) (q0 := 0) rfl rfl) rfl hl.1 rfl (Nat.le_of_ble_eq_true rfl) dX0_shareAt_3 ⟨Nat.zero_le _, Nat.zero_le _⟩ ?_
  refine lv_istore (lv' := [(4, .int (sB A (f * 8 + t))), (0, .ref (h 0)), (1, .int (nI k)), (2, .int (nI f)), (3, .int (nI t))]) hx hb dX0_shareAt_6 hl (by decide) rfl (fun ls hl => ?_)
  refine lv_aload_n hx hb dX0_shareAt_8 rfl (lv_at hl 1 rfl) ?_
  refine lv_iload_n hx hb dX0_shareAt_9 rfl (lv_at hl 3 rfl) ?_
  refine lv_iload_n hx hb dX0_shareAt_10 rfl (lv_at hl 4 rfl) ?_
  refine ro_callV (As := [.int (nI f), .int (nI t)]) (rest := []) ⟨hx, hb, hml, hown, hts⟩ (kX0_sumAt l D h cI A hI (f) (t) (by omega) (by omega)) (cwV 2 hts gX0_shareAt_X0_sumAt rfl rfl rfl (by decide +kernel) ⟨Nat.le_of_ble_eq_true rfl, Nat.le_of_ble_eq_true rfl⟩) vB_bl (vB_at hP hK) (va_recv hK hP (ci := 0) (q0 := 0) rfl rfl) rfl hl.1 rfl (Nat.le_of_ble_eq_true rfl) dX0_shareAt_11 ⟨Nat.zero_le _, Nat.zero_le _⟩ ?_
  refine lv_istore (lv' := [(5, .int (fS A f t)), (4, .int (sB A (f * 8 + t))), (0, .ref (h 0)), (1, .int (nI k)), (2, .int (nI f)), (3, .int (nI t))]) hx hb dX0_shareAt_14 hl (by decide) rfl (fun ls hl => ?_)
  refine lv_iload hx hb dX0_shareAt_16 (lv_at hl 0 rfl) ?_
  refine lv_if_gt (tgt := 32) hx hb dX0_shareAt_18 (by decide) (fun c_18 => ?_) (fun c_18 => ?_)
  · refine lv_iload hx hb dX0_shareAt_32 (lv_at hl 1 rfl) ?_
    refine lv_aload_n hx hb dX0_shareAt_34 rfl (lv_at hl 2 rfl) ?_
    refine lv_iload_n hx hb dX0_shareAt_35 rfl (lv_at hl 3 rfl) ?_
    refine lv_iload_n hx hb dX0_shareAt_36 rfl (lv_at hl 4 rfl) ?_
    refine lv_iload_n hx hb dX0_shareAt_37 rfl (lv_at hl 5 rfl) ?_
    refine ro_callV (As := [.int (nI k), .int (nI f), .int (nI t)]) (rest := [.int (sB A (f * 8 + t))]) ⟨hx, hb, hml, hown, hts⟩ (kX0_productAt l D h cI A (k) (f) (t) (by omega) (by omega) (by omega)) (cwV 3 hts gX0_shareAt_X0_productAt rfl rfl rfl (by decide +kernel) ⟨Nat.le_of_ble_eq_true rfl, Nat.le_of_ble_eq_true rfl⟩) vB_bl (vB_at hP hK) (va_recv hK hP (ci := 0) (q0 := 0) rfl rfl) rfl hl.1 rfl (Nat.le_of_ble_eq_true rfl) dX0_shareAt_38 ⟨Nat.zero_le _, Nat.zero_le _⟩ ?_
    refine lv_imul hx hb dX0_shareAt_41 ?_
    refine n_top (y := fth A f t k) (rfl) ?_
    refine lv_istore (lv' := [(6, .int (fth A f t k)), (5, .int (fS A f t)), (4, .int (sB A (f * 8 + t))), (0, .ref (h 0)), (1, .int (nI k)), (2, .int (nI f)), (3, .int (nI t))]) hx hb dX0_shareAt_42 hl (by decide) rfl (fun ls hl => ?_)
    refine lv_iload hx hb dX0_shareAt_44 (lv_at hl 2 rfl) ?_
    refine lv_istore (lv' := [(7, .int (sB A (f * 8 + t))), (6, .int (fth A f t k)), (5, .int (fS A f t)), (4, .int (sB A (f * 8 + t))), (0, .ref (h 0)), (1, .int (nI k)), (2, .int (nI f)), (3, .int (nI t))]) hx hb dX0_shareAt_46 hl (by decide) rfl (fun ls hl => ?_)
    refine lv_iconst (v := nI 0) hx hb dX0_shareAt_48 (by decide) ?_
    refine lv_istore (lv' := [(8, .int (nI 0)), (7, .int (sB A (f * 8 + t))), (6, .int (fth A f t k)), (5, .int (fS A f t)), (4, .int (sB A (f * 8 + t))), (0, .ref (h 0)), (1, .int (nI k)), (2, .int (nI f)), (3, .int (nI t))]) hx hb dX0_shareAt_49 hl (by decide) rfl (fun ls hl => ?_)
    refine lv_iconst (v := nI 0) hx hb dX0_shareAt_51 (by decide) ?_
    refine lv_istore (lv' := [(9, .int (nI 0)), (8, .int (nI 0)), (7, .int (sB A (f * 8 + t))), (6, .int (fth A f t k)), (5, .int (fS A f t)), (4, .int (sB A (f * 8 + t))), (0, .ref (h 0)), (1, .int (nI k)), (2, .int (nI f)), (3, .int (nI t))]) hx hb dX0_shareAt_52 hl (by decide) rfl (fun ls hl => ?_)
    have lp54 : ∀ (n54 j : Nat), j + n54 = sK A → ∀ (ls : Array Slot), lv_has ls 11 [(0, .ref (h 0)), (1, .int (nI k)), (2, .int (nI f)), (3, .int (nI t)), (4, .int (sB A (f * 8 + t))), (5, .int (fS A f t)), (6, .int (fth A f t k)), (7, .int (flf (sB A (f * 8 + t)) (fS A f t) (fth A f t) j)), (8, .int (nI (cnt (fah A k f t) j))), (9, .int (nI j))] → W p l e rmX0_shareAt s m args below meth c s.heap [] 0 0 Q (F0 m 54 ls []) := by
      intro n54
      induction n54 with
      | zero =>
        intro j hi54 ls hl
        obtain rfl : sK A = j := by omega
        refine lv_iload hx hb dX0_shareAt_54 (lv_at hl 9 rfl) ?_
        refine lv_aload_n hx hb dX0_shareAt_56 rfl (lv_at hl 0 rfl) ?_
        refine va_get (D := D) (ci := 0) (v := .int (nI (sK A))) (C := RX0) (T := TX0) (N := 12) hx hb hts hin0 hown hK hP 0 rfl rfl 2 (by decide) (hts (.fieldLink RX0 137 "VoiceParts" "voices" "I") (by decide +kernel)) (fun _ h9 => h9) rfl dX0_shareAt_57 ?_
        refine n_icmp_ge (tgt := 127) hx hb (by omega) (by omega) dX0_shareAt_60 (by decide) (fun c_60 => ?_) (fun c_60 => by exfalso; omega)
        refine lv_iload hx hb dX0_shareAt_127 (lv_at hl 6 rfl) ?_
        refine lv_iload hx hb dX0_shareAt_129 (lv_at hl 5 rfl) ?_
        refine lv_idiv hx hb dX0_shareAt_131 (ne_of_pos c_18) ?_
        refine lv_iload hx hb dX0_shareAt_132 (lv_at hl 8 rfl) ?_
        refine lv_iload hx hb dX0_shareAt_134 (lv_at hl 7 rfl) ?_
        refine lv_icmp_ge (tgt := 143) hx hb dX0_shareAt_136 (by decide) (fun c_136 => ?_) (fun c_136 => ?_)
        · refine lv_iconst (v := nI 0) hx hb dX0_shareAt_143 (by decide) ?_
          refine lv_iadd hx hb dX0_shareAt_144 ?_
          exact hQ dX0_shareAt_145 (by unfold fsh; rw [if_neg (ne_of_pos c_18), if_neg (Int32.not_lt.mpr c_136)]; first | rfl | done)
        · refine lv_iconst (v := nI 1) hx hb dX0_shareAt_139 (by decide) ?_
          refine lv_goto (tgt := 144) hx hb dX0_shareAt_140 (by decide) ?_
          refine lv_iadd hx hb dX0_shareAt_144 ?_
          exact hQ dX0_shareAt_145 (by unfold fsh; rw [if_neg (ne_of_pos c_18), if_pos (Int32.not_le.mp c_136)]; first | rfl | done)
      | succ n54 ih54 =>
        intro j hi54 ls hl
        refine lv_iload hx hb dX0_shareAt_54 (lv_at hl 9 rfl) ?_
        refine lv_aload_n hx hb dX0_shareAt_56 rfl (lv_at hl 0 rfl) ?_
        refine va_get (D := D) (ci := 0) (v := .int (nI (sK A))) (C := RX0) (T := TX0) (N := 12) hx hb hts hin0 hown hK hP 0 rfl rfl 2 (by decide) (hts (.fieldLink RX0 137 "VoiceParts" "voices" "I") (by decide +kernel)) (fun _ h9 => h9) rfl dX0_shareAt_57 ?_
        refine n_icmp_ge (tgt := 127) hx hb (by omega) (by omega) dX0_shareAt_60 (by decide) (fun c_60 => by exfalso; omega) (fun c_60 => ?_)
        refine lv_iload hx hb dX0_shareAt_63 (lv_at hl 4 rfl) ?_
        refine lv_aload_n hx hb dX0_shareAt_65 rfl (lv_at hl 0 rfl) ?_
        refine lv_iload hx hb dX0_shareAt_66 (lv_at hl 9 rfl) ?_
        refine lv_iload_n hx hb dX0_shareAt_68 rfl (lv_at hl 2 rfl) ?_
        refine lv_iload_n hx hb dX0_shareAt_69 rfl (lv_at hl 3 rfl) ?_
        refine ro_callV (As := [.int (nI j), .int (nI f), .int (nI t)]) (rest := [.int (sB A (f * 8 + t))]) ⟨hx, hb, hml, hown, hts⟩ (kX0_productAt l D h cI A (j) (f) (t) (by omega) (by omega) (by omega)) (cwV 3 hts gX0_shareAt_X0_productAt rfl rfl rfl (by decide +kernel) ⟨Nat.le_of_ble_eq_true rfl, Nat.le_of_ble_eq_true rfl⟩) vB_bl (vB_at hP hK) (va_recv hK hP (ci := 0) (q0 := 0) rfl rfl) rfl hl.1 rfl (Nat.le_of_ble_eq_true rfl) dX0_shareAt_70 ⟨Nat.zero_le _, Nat.zero_le _⟩ ?_
        refine lv_imul hx hb dX0_shareAt_73 ?_
        refine n_top (y := fth A f t j) (rfl) ?_
        refine lv_istore (lv' := [(10, .int (fth A f t j)), (0, .ref (h 0)), (1, .int (nI k)), (2, .int (nI f)), (3, .int (nI t)), (4, .int (sB A (f * 8 + t))), (5, .int (fS A f t)), (6, .int (fth A f t k)), (7, .int (flf (sB A (f * 8 + t)) (fS A f t) (fth A f t) j)), (8, .int (nI (cnt (fah A k f t) j))), (9, .int (nI j))]) hx hb dX0_shareAt_74 hl (by decide) rfl (fun ls hl => ?_)
        refine lv_iload hx hb dX0_shareAt_76 (lv_at hl 8 rfl) ?_
        refine lv_iload hx hb dX0_shareAt_78 (lv_at hl 0 rfl) ?_
        refine lv_iload hx hb dX0_shareAt_80 (lv_at hl 6 rfl) ?_
        refine lv_idiv hx hb dX0_shareAt_82 (ne_of_pos c_18) ?_
        refine lv_isub hx hb dX0_shareAt_83 ?_
        refine lv_istore (lv' := [(7, .int ((flf (sB A (f * 8 + t)) (fS A f t) (fth A f t) j) - ((fth A f t j) / (fS A f t)))), (10, .int (fth A f t j)), (0, .ref (h 0)), (1, .int (nI k)), (2, .int (nI f)), (3, .int (nI t)), (4, .int (sB A (f * 8 + t))), (5, .int (fS A f t)), (6, .int (fth A f t k)), (8, .int (nI (cnt (fah A k f t) j))), (9, .int (nI j))]) hx hb dX0_shareAt_84 hl (by decide) rfl (fun ls hl => ?_)
        refine lv_iload hx hb dX0_shareAt_86 (lv_at hl 1 rfl) ?_
        refine lv_iload hx hb dX0_shareAt_88 (lv_at hl 7 rfl) ?_
        refine lv_irem hx hb dX0_shareAt_90 (ne_of_pos c_18) ?_
        refine n_top (y := frm (fth A f t j) (fS A f t)) (rfl) ?_
        refine lv_iload hx hb dX0_shareAt_91 (lv_at hl 8 rfl) ?_
        refine lv_iload hx hb dX0_shareAt_93 (lv_at hl 7 rfl) ?_
        refine lv_irem hx hb dX0_shareAt_95 (ne_of_pos c_18) ?_
        refine n_top (y := frm (fth A f t k) (fS A f t)) (rfl) ?_
        refine lv_icmp_gt (tgt := 118) hx hb dX0_shareAt_96 (by decide) (fun c_96 => ?_) (fun c_96 => ?_)
        · refine lv_iinc (v := nI (cnt (fah A k f t) (j + 1))) (lv' := [(8, .int (nI (cnt (fah A k f t) (j + 1)))), (7, .int ((flf (sB A (f * 8 + t)) (fS A f t) (fth A f t) j) - ((fth A f t j) / (fS A f t)))), (10, .int (fth A f t j)), (0, .ref (h 0)), (1, .int (nI k)), (2, .int (nI f)), (3, .int (nI t)), (4, .int (sB A (f * 8 + t))), (5, .int (fS A f t)), (6, .int (fth A f t k)), (9, .int (nI j))]) hx hb dX0_shareAt_118 hl (k := 9) rfl (by rw [cnt_yes (show _ = true from decide_eq_true (Or.inl c_96))]; exact nI_inc _) (by decide) rfl (fun ls hl => ?_)
          refine lv_iinc (v := nI (j + 1)) (lv' := [(9, .int (nI (j + 1))), (8, .int (nI (cnt (fah A k f t) (j + 1)))), (7, .int ((flf (sB A (f * 8 + t)) (fS A f t) (fth A f t) j) - ((fth A f t j) / (fS A f t)))), (10, .int (fth A f t j)), (0, .ref (h 0)), (1, .int (nI k)), (2, .int (nI f)), (3, .int (nI t)), (4, .int (sB A (f * 8 + t))), (5, .int (fS A f t)), (6, .int (fth A f t k))]) hx hb dX0_shareAt_121 hl (k := 10) rfl (nI_inc _) (by decide) rfl (fun ls hl => ?_)
          refine lv_goto (tgt := 54) hx hb dX0_shareAt_124 (by decide) ?_
          exact ih54 (j + 1) (by omega) ls (lv_sub hl [4, 5, 6, 7, 8, 9, 10, 2, 1, 0] rfl)
        · refine lv_iload hx hb dX0_shareAt_99 (lv_at hl 1 rfl) ?_
          refine lv_iload hx hb dX0_shareAt_101 (lv_at hl 7 rfl) ?_
          refine lv_irem hx hb dX0_shareAt_103 (ne_of_pos c_18) ?_
          refine n_top (y := frm (fth A f t j) (fS A f t)) (rfl) ?_
          refine lv_iload hx hb dX0_shareAt_104 (lv_at hl 8 rfl) ?_
          refine lv_iload hx hb dX0_shareAt_106 (lv_at hl 7 rfl) ?_
          refine lv_irem hx hb dX0_shareAt_108 (ne_of_pos c_18) ?_
          refine n_top (y := frm (fth A f t k) (fS A f t)) (rfl) ?_
          refine lv_icmp_ne (tgt := 121) hx hb dX0_shareAt_109 (by decide) (fun c_109 => ?_) (fun c_109 => ?_)
          · have hl : lv_has ls 11 [(7, .int ((flf (sB A (f * 8 + t)) (fS A f t) (fth A f t) j) - ((fth A f t j) / (fS A f t)))), (10, .int (fth A f t j)), (0, .ref (h 0)), (1, .int (nI k)), (2, .int (nI f)), (3, .int (nI t)), (4, .int (sB A (f * 8 + t))), (5, .int (fS A f t)), (6, .int (fth A f t k)), (8, .int (nI (cnt (fah A k f t) (j + 1)))), (9, .int (nI j))] := by rw [cnt_no (show _ = false from decide_eq_false (fun q => q.elim c_96 (fun z => c_109 z.1)))]; exact hl
            refine lv_iinc (v := nI (j + 1)) (lv' := [(9, .int (nI (j + 1))), (7, .int ((flf (sB A (f * 8 + t)) (fS A f t) (fth A f t) j) - ((fth A f t j) / (fS A f t)))), (10, .int (fth A f t j)), (0, .ref (h 0)), (1, .int (nI k)), (2, .int (nI f)), (3, .int (nI t)), (4, .int (sB A (f * 8 + t))), (5, .int (fS A f t)), (6, .int (fth A f t k)), (8, .int (nI (cnt (fah A k f t) (j + 1))))]) hx hb dX0_shareAt_121 hl (k := 10) rfl (nI_inc _) (by decide) rfl (fun ls hl => ?_)
            refine lv_goto (tgt := 54) hx hb dX0_shareAt_124 (by decide) ?_
            exact ih54 (j + 1) (by omega) ls (lv_sub hl [3, 4, 5, 6, 7, 8, 9, 1, 10, 0] rfl)
          · refine lv_iload hx hb dX0_shareAt_112 (lv_at hl 10 rfl) ?_
            refine lv_iload_n hx hb dX0_shareAt_114 rfl (lv_at hl 3 rfl) ?_
            refine n_icmp_ge (tgt := 121) hx hb (by omega) (by omega) dX0_shareAt_115 (by decide) (fun c_115 => ?_) (fun c_115 => ?_)
            · have hl : lv_has ls 11 [(7, .int ((flf (sB A (f * 8 + t)) (fS A f t) (fth A f t) j) - ((fth A f t j) / (fS A f t)))), (10, .int (fth A f t j)), (0, .ref (h 0)), (1, .int (nI k)), (2, .int (nI f)), (3, .int (nI t)), (4, .int (sB A (f * 8 + t))), (5, .int (fS A f t)), (6, .int (fth A f t k)), (8, .int (nI (cnt (fah A k f t) (j + 1)))), (9, .int (nI j))] := by rw [cnt_no (show _ = false from decide_eq_false (fun q => q.elim c_96 (fun z => absurd z.2 (by omega))))]; exact hl
              refine lv_iinc (v := nI (j + 1)) (lv' := [(9, .int (nI (j + 1))), (7, .int ((flf (sB A (f * 8 + t)) (fS A f t) (fth A f t) j) - ((fth A f t j) / (fS A f t)))), (10, .int (fth A f t j)), (0, .ref (h 0)), (1, .int (nI k)), (2, .int (nI f)), (3, .int (nI t)), (4, .int (sB A (f * 8 + t))), (5, .int (fS A f t)), (6, .int (fth A f t k)), (8, .int (nI (cnt (fah A k f t) (j + 1))))]) hx hb dX0_shareAt_121 hl (k := 10) rfl (nI_inc _) (by decide) rfl (fun ls hl => ?_)
              refine lv_goto (tgt := 54) hx hb dX0_shareAt_124 (by decide) ?_
              exact ih54 (j + 1) (by omega) ls (lv_sub hl [3, 4, 5, 6, 7, 8, 9, 1, 10, 0] rfl)
            · refine lv_iinc (v := nI (cnt (fah A k f t) (j + 1))) (lv' := [(8, .int (nI (cnt (fah A k f t) (j + 1)))), (7, .int ((flf (sB A (f * 8 + t)) (fS A f t) (fth A f t) j) - ((fth A f t j) / (fS A f t)))), (10, .int (fth A f t j)), (0, .ref (h 0)), (1, .int (nI k)), (2, .int (nI f)), (3, .int (nI t)), (4, .int (sB A (f * 8 + t))), (5, .int (fS A f t)), (6, .int (fth A f t k)), (9, .int (nI j))]) hx hb dX0_shareAt_118 hl (k := 9) rfl (by rw [cnt_yes (show _ = true from decide_eq_true (Or.inr ⟨c_109, by omega⟩))]; exact nI_inc _) (by decide) rfl (fun ls hl => ?_)
              refine lv_iinc (v := nI (j + 1)) (lv' := [(9, .int (nI (j + 1))), (8, .int (nI (cnt (fah A k f t) (j + 1)))), (7, .int ((flf (sB A (f * 8 + t)) (fS A f t) (fth A f t) j) - ((fth A f t j) / (fS A f t)))), (10, .int (fth A f t j)), (0, .ref (h 0)), (1, .int (nI k)), (2, .int (nI f)), (3, .int (nI t)), (4, .int (sB A (f * 8 + t))), (5, .int (fS A f t)), (6, .int (fth A f t k))]) hx hb dX0_shareAt_121 hl (k := 10) rfl (nI_inc _) (by decide) rfl (fun ls hl => ?_)
              refine lv_goto (tgt := 54) hx hb dX0_shareAt_124 (by decide) ?_
              exact ih54 (j + 1) (by omega) ls (lv_sub hl [4, 5, 6, 7, 8, 9, 10, 2, 1, 0] rfl)
    exact lp54 (sK A) (0) (by omega) ls (lv_sub hl [6, 7, 8, 9, 5, 4, 3, 2, 1, 0] rfl)
  · refine lv_iload_n hx hb dX0_shareAt_21 rfl (lv_at hl 3 rfl) ?_
    refine n_if_ne (tgt := 30) hx hb (by omega) dX0_shareAt_22 (by decide) (fun c_22 => ?_) (fun c_22 => ?_)
    · refine lv_iconst (v := nI 0) hx hb dX0_shareAt_30 (by decide) ?_
      exact hQ dX0_shareAt_31 (by unfold fsh; rw [if_pos (fS_0 hI c_18), if_neg c_22]; first | rfl | done)
    · refine lv_iload hx hb dX0_shareAt_25 (lv_at hl 1 rfl) ?_
      refine lv_goto (tgt := 31) hx hb dX0_shareAt_27 (by decide) ?_
      exact hQ dX0_shareAt_31 (by unfold fsh; rw [if_pos (fS_0 hI c_18), if_pos c_22])
def rmX0_areInStep : Room := { frames := 0, cells := 0, slots := 0, locals := 0 }
set_option maxHeartbeats 4000000 in
set_option maxRecDepth 100000 in
/-- areInStep -/
theorem kX0_areInStep (l : Launch)  (t o q : Nat) (ht : t < 8) (ho : o < 8) (hq : 0 < q) (hq9 : q < 9) : RO l yX0_areInStep wsX0_areInStep rmX0_areInStep [.int (nI t), .int (nI o), .int (nI q)] (vT) (if t % q = o % q then 1 else 0) := by
  refine ro_ofWz (cc := cX0_areInStep) (maxL := 3) (by decide) rfl (Nat.le_of_ble_eq_true rfl) ?_
  intro p e s m below meth c args Q hx hb hml hown hts hB hQ ls hl
  have hown : s.vm.findClass RX0 = some m.cls := hown
  have hl : lv_has ls 3 [(0, .int (nI t)), (1, .int (nI o)), (2, .int (nI q))] := hl
  refine lv_iload_n hx hb dX0_areInStep_0 rfl (lv_at hl 2 rfl) ?_
  refine n_if_le (tgt := 16) hx hb (by omega) dX0_areInStep_1 (by decide) (fun c_1 => by exfalso; omega) (fun c_1 => ?_)
  refine lv_iload_n hx hb dX0_areInStep_4 rfl (lv_at hl 0 rfl) ?_
  refine lv_iload_n hx hb dX0_areInStep_5 rfl (lv_at hl 1 rfl) ?_
  refine lv_isub hx hb dX0_areInStep_6 ?_
  refine lv_iload_n hx hb dX0_areInStep_7 rfl (lv_at hl 2 rfl) ?_
  refine lv_irem hx hb dX0_areInStep_8 (fun z => by have z2 := (nI_eq (a := q) (b := 0) (by omega) (by decide)).mp z; omega) ?_
  refine lv_if_ne (tgt := 16) hx hb dX0_areInStep_9 (by decide) (fun c_9 => ?_) (fun c_9 => ?_)
  · refine lv_iconst (v := nI 0) hx hb dX0_areInStep_16 (by decide) ?_
    exact hQ dX0_areInStep_17 ((if_neg (fun z => c_9 ((step_eq ht ho hq9 hq).mpr z))).symm)
  · refine lv_iconst (v := nI 1) hx hb dX0_areInStep_12 (by decide) ?_
    refine lv_goto (tgt := 17) hx hb dX0_areInStep_13 (by decide) ?_
    exact hQ dX0_areInStep_17 ((if_pos ((step_eq ht ho hq9 hq).mp c_9)).symm)
def rmX0_howManyAhead : Room := { frames := 2, cells := 0, slots := 0, locals := 43 }
set_option maxHeartbeats 4000000 in
set_option maxRecDepth 100000 in
/-- howManyAhead -/
theorem kX0_howManyAhead (l : Launch) (D : va_G) (h : Nat → Nat) (cI : ClassId) (A : St) (hI : Inv A) (q f t : Nat) (hq : 0 < q) (hq9 : q < 9) (hf : f < 6) (ht : t < 8) : RO l yX0_howManyAhead wsX0_howManyAhead rmX0_howManyAhead [.ref (h 0), .int (nI q), .int (nI f), .int (nI t)] (vB D (xw h cI A) [(cI, .int)]) (nI (frk A q f t)) := by
  refine ro_ofW (cc := cX0_howManyAhead) (maxL := 8) (by decide) rfl (Nat.le_of_ble_eq_true rfl) ?_
  intro p e s m below meth c args Q hx hb hml hown hts hB hQ ls hl
  have hown : s.vm.findClass RX0 = some m.cls := hown
  obtain ⟨hP, hK⟩ := hB
  have hin0 : ∀ w ∈ u_ws RX0 TX0 12, w ∈ wsX0_howManyAhead := fun _ h => List.mem_cons_of_mem _ (List.mem_append_right _ h)
  have hl : lv_has ls 8 [(0, .ref (h 0)), (1, .int (nI q)), (2, .int (nI f)), (3, .int (nI t))] := hl
  have hF := hI.F
  have hT := hI.T
  have hK3 := hI.K
  have hJ := hI.J
  have hZ := hI.Z
  refine lv_aload_n hx hb dX0_howManyAhead_0 rfl (lv_at hl 0 rfl) ?_
  refine lv_iload_n hx hb dX0_howManyAhead_1 rfl (lv_at hl 2 rfl) ?_
  refine lv_iload_n hx hb dX0_howManyAhead_2 rfl (lv_at hl 3 rfl) ?_
  refine ro_callV (As := [.int (nI f), .int (nI t)]) (rest := []) ⟨hx, hb, hml, hown, hts⟩ (kX0_boardAt l D h cI A (f) (t) (by omega) (by omega)) (cwV 2 hts gX0_howManyAhead_X0_boardAt rfl rfl rfl (by decide +kernel) ⟨Nat.le_of_ble_eq_true rfl, Nat.le_of_ble_eq_true rfl⟩) vB_bl (vB_at hP hK) (va_recv hK hP (ci := 0) (q0 := 0) rfl rfl) rfl hl.1 rfl (Nat.le_of_ble_eq_true rfl) dX0_howManyAhead_3 ⟨Nat.zero_le _, Nat.zero_le _⟩ ?_
  refine lv_istore (lv' := [(4, .int (sB A (f * 8 + t))), (0, .ref (h 0)), (1, .int (nI q)), (2, .int (nI f)), (3, .int (nI t))]) hx hb dX0_howManyAhead_6 hl (by decide) rfl (fun ls hl => ?_)
  refine lv_iconst (v := nI 0) hx hb dX0_howManyAhead_8 (by decide) ?_
  refine lv_istore (lv' := [(5, .int (nI 0)), (4, .int (sB A (f * 8 + t))), (0, .ref (h 0)), (1, .int (nI q)), (2, .int (nI f)), (3, .int (nI t))]) hx hb dX0_howManyAhead_9 hl (by decide) rfl (fun ls hl => ?_)
  refine lv_iconst (v := nI 0) hx hb dX0_howManyAhead_11 (by decide) ?_
  refine lv_istore (lv' := [(6, .int (nI 0)), (5, .int (nI 0)), (4, .int (sB A (f * 8 + t))), (0, .ref (h 0)), (1, .int (nI q)), (2, .int (nI f)), (3, .int (nI t))]) hx hb dX0_howManyAhead_12 hl (by decide) rfl (fun ls hl => ?_)
  have lp14 : ∀ (n14 o : Nat), o + n14 = sT A → ∀ (ls : Array Slot), lv_has ls 8 [(0, .ref (h 0)), (1, .int (nI q)), (2, .int (nI f)), (3, .int (nI t)), (4, .int (sB A (f * 8 + t))), (5, .int (nI (cnt (fra A q f t) o))), (6, .int (nI o))] → W p l e rmX0_howManyAhead s m args below meth c s.heap [] 0 0 Q (F0 m 14 ls []) := by
    intro n14
    induction n14 with
    | zero =>
      intro o hi14 ls hl
      obtain rfl : sT A = o := by omega
      refine lv_iload hx hb dX0_howManyAhead_14 (lv_at hl 6 rfl) ?_
      refine lv_aload_n hx hb dX0_howManyAhead_16 rfl (lv_at hl 0 rfl) ?_
      refine va_get (D := D) (ci := 0) (v := .int (nI (sT A))) (C := RX0) (T := TX0) (N := 12) hx hb hts hin0 hown hK hP 0 rfl rfl 1 (by decide) (hts (.fieldLink RX0 107 "VoiceParts" "times" "I") (by decide +kernel)) (fun _ h9 => h9) rfl dX0_howManyAhead_17 ?_
      refine n_icmp_ge (tgt := 71) hx hb (by omega) (by omega) dX0_howManyAhead_20 (by decide) (fun c_20 => ?_) (fun c_20 => by exfalso; omega)
      refine lv_iload hx hb dX0_howManyAhead_71 (lv_at hl 5 rfl) ?_
      exact hQ dX0_howManyAhead_73 (rfl)
    | succ n14 ih14 =>
      intro o hi14 ls hl
      refine lv_iload hx hb dX0_howManyAhead_14 (lv_at hl 6 rfl) ?_
      refine lv_aload_n hx hb dX0_howManyAhead_16 rfl (lv_at hl 0 rfl) ?_
      refine va_get (D := D) (ci := 0) (v := .int (nI (sT A))) (C := RX0) (T := TX0) (N := 12) hx hb hts hin0 hown hK hP 0 rfl rfl 1 (by decide) (hts (.fieldLink RX0 107 "VoiceParts" "times" "I") (by decide +kernel)) (fun _ h9 => h9) rfl dX0_howManyAhead_17 ?_
      refine n_icmp_ge (tgt := 71) hx hb (by omega) (by omega) dX0_howManyAhead_20 (by decide) (fun c_20 => by exfalso; omega) (fun c_20 => ?_)
      refine lv_aload_n hx hb dX0_howManyAhead_23 rfl (lv_at hl 0 rfl) ?_
      refine lv_iload_n hx hb dX0_howManyAhead_24 rfl (lv_at hl 2 rfl) ?_
      refine lv_iload hx hb dX0_howManyAhead_25 (lv_at hl 6 rfl) ?_
      refine ro_callV (As := [.int (nI f), .int (nI o)]) (rest := []) ⟨hx, hb, hml, hown, hts⟩ (kX0_boardAt l D h cI A (f) (o) (by omega) (by omega)) (cwV 2 hts gX0_howManyAhead_X0_boardAt rfl rfl rfl (by decide +kernel) ⟨Nat.le_of_ble_eq_true rfl, Nat.le_of_ble_eq_true rfl⟩) vB_bl (vB_at hP hK) (va_recv hK hP (ci := 0) (q0 := 0) rfl rfl) rfl hl.1 rfl (Nat.le_of_ble_eq_true rfl) dX0_howManyAhead_27 ⟨Nat.zero_le _, Nat.zero_le _⟩ ?_
      refine lv_istore (lv' := [(7, .int (sB A (f * 8 + o))), (0, .ref (h 0)), (1, .int (nI q)), (2, .int (nI f)), (3, .int (nI t)), (4, .int (sB A (f * 8 + t))), (5, .int (nI (cnt (fra A q f t) o))), (6, .int (nI o))]) hx hb dX0_howManyAhead_30 hl (by decide) rfl (fun ls hl => ?_)
      refine lv_iload_n hx hb dX0_howManyAhead_32 rfl (lv_at hl 4 rfl) ?_
      refine lv_iload hx hb dX0_howManyAhead_33 (lv_at hl 7 rfl) ?_
      refine lv_iload_n hx hb dX0_howManyAhead_35 rfl (lv_at hl 2 rfl) ?_
      refine ro_callS (As := [.int (nI t), .int (nI o), .int (nI q)]) (rest := []) ⟨hx, hb, hml, hown, hts⟩ (kX0_areInStep l  (t) (o) (q) (by omega) (by omega) (by omega) (by omega)) (va_cwS 3 hts gX0_howManyAhead_X0_areInStep rfl rfl rfl (by decide +kernel) ⟨Nat.le_of_ble_eq_true rfl, Nat.le_of_ble_eq_true rfl⟩) vT_bl vT_at rfl hl.1 rfl (Nat.le_of_ble_eq_true rfl) dX0_howManyAhead_36 ⟨Nat.zero_le _, Nat.zero_le _⟩ ?_
      refine b_if_eq (tgt := 65) hx hb dX0_howManyAhead_39 (by decide) (fun c_39 => ?_) (fun c_39 => ?_)
      · have hl : lv_has ls 8 [(7, .int (sB A (f * 8 + o))), (0, .ref (h 0)), (1, .int (nI q)), (2, .int (nI f)), (3, .int (nI t)), (4, .int (sB A (f * 8 + t))), (5, .int (nI (cnt (fra A q f t) (o + 1)))), (6, .int (nI o))] := by rw [cnt_no (show _ = false from decide_eq_false (fun z => c_39 z.1))]; exact hl
        refine lv_iinc (v := nI (o + 1)) (lv' := [(6, .int (nI (o + 1))), (7, .int (sB A (f * 8 + o))), (0, .ref (h 0)), (1, .int (nI q)), (2, .int (nI f)), (3, .int (nI t)), (4, .int (sB A (f * 8 + t))), (5, .int (nI (cnt (fra A q f t) (o + 1))))]) hx hb dX0_howManyAhead_65 hl (k := 7) rfl (nI_inc _) (by decide) rfl (fun ls hl => ?_)
        refine lv_goto (tgt := 14) hx hb dX0_howManyAhead_68 (by decide) ?_
        exact ih14 (o + 1) (by omega) ls (lv_sub hl [2, 3, 4, 5, 6, 7, 0] rfl)
      · refine lv_iload hx hb dX0_howManyAhead_42 (lv_at hl 0 rfl) ?_
        refine lv_iload hx hb dX0_howManyAhead_44 (lv_at hl 5 rfl) ?_
        refine lv_icmp_lt (tgt := 62) hx hb dX0_howManyAhead_46 (by decide) (fun c_46 => ?_) (fun c_46 => ?_)
        · refine lv_iinc (v := nI (cnt (fra A q f t) (o + 1))) (lv' := [(5, .int (nI (cnt (fra A q f t) (o + 1)))), (7, .int (sB A (f * 8 + o))), (0, .ref (h 0)), (1, .int (nI q)), (2, .int (nI f)), (3, .int (nI t)), (4, .int (sB A (f * 8 + t))), (6, .int (nI o))]) hx hb dX0_howManyAhead_62 hl (k := 6) rfl (by rw [cnt_yes (show _ = true from decide_eq_true (⟨c_39, Or.inl c_46⟩))]; exact nI_inc _) (by decide) rfl (fun ls hl => ?_)
          refine lv_iinc (v := nI (o + 1)) (lv' := [(6, .int (nI (o + 1))), (5, .int (nI (cnt (fra A q f t) (o + 1)))), (7, .int (sB A (f * 8 + o))), (0, .ref (h 0)), (1, .int (nI q)), (2, .int (nI f)), (3, .int (nI t)), (4, .int (sB A (f * 8 + t)))]) hx hb dX0_howManyAhead_65 hl (k := 7) rfl (nI_inc _) (by decide) rfl (fun ls hl => ?_)
          refine lv_goto (tgt := 14) hx hb dX0_howManyAhead_68 (by decide) ?_
          exact ih14 (o + 1) (by omega) ls (lv_sub hl [3, 4, 5, 6, 7, 1, 0] rfl)
        · refine lv_iload hx hb dX0_howManyAhead_49 (lv_at hl 0 rfl) ?_
          refine lv_iload hx hb dX0_howManyAhead_51 (lv_at hl 5 rfl) ?_
          refine lv_icmp_ne (tgt := 65) hx hb dX0_howManyAhead_53 (by decide) (fun c_53 => ?_) (fun c_53 => ?_)
          · have hl : lv_has ls 8 [(7, .int (sB A (f * 8 + o))), (0, .ref (h 0)), (1, .int (nI q)), (2, .int (nI f)), (3, .int (nI t)), (4, .int (sB A (f * 8 + t))), (5, .int (nI (cnt (fra A q f t) (o + 1)))), (6, .int (nI o))] := by rw [cnt_no (show _ = false from decide_eq_false (fun z => z.2.elim c_46 (fun y => c_53 y.1)))]; exact hl
            refine lv_iinc (v := nI (o + 1)) (lv' := [(6, .int (nI (o + 1))), (7, .int (sB A (f * 8 + o))), (0, .ref (h 0)), (1, .int (nI q)), (2, .int (nI f)), (3, .int (nI t)), (4, .int (sB A (f * 8 + t))), (5, .int (nI (cnt (fra A q f t) (o + 1))))]) hx hb dX0_howManyAhead_65 hl (k := 7) rfl (nI_inc _) (by decide) rfl (fun ls hl => ?_)
            refine lv_goto (tgt := 14) hx hb dX0_howManyAhead_68 (by decide) ?_
            exact ih14 (o + 1) (by omega) ls (lv_sub hl [2, 3, 4, 5, 6, 7, 0] rfl)
          · refine lv_iload hx hb dX0_howManyAhead_56 (lv_at hl 7 rfl) ?_
            refine lv_iload_n hx hb dX0_howManyAhead_58 rfl (lv_at hl 4 rfl) ?_
            refine n_icmp_ge (tgt := 65) hx hb (by omega) (by omega) dX0_howManyAhead_59 (by decide) (fun c_59 => ?_) (fun c_59 => ?_)
            · have hl : lv_has ls 8 [(7, .int (sB A (f * 8 + o))), (0, .ref (h 0)), (1, .int (nI q)), (2, .int (nI f)), (3, .int (nI t)), (4, .int (sB A (f * 8 + t))), (5, .int (nI (cnt (fra A q f t) (o + 1)))), (6, .int (nI o))] := by rw [cnt_no (show _ = false from decide_eq_false (fun z => z.2.elim c_46 (fun y => absurd y.2 (by omega))))]; exact hl
              refine lv_iinc (v := nI (o + 1)) (lv' := [(6, .int (nI (o + 1))), (7, .int (sB A (f * 8 + o))), (0, .ref (h 0)), (1, .int (nI q)), (2, .int (nI f)), (3, .int (nI t)), (4, .int (sB A (f * 8 + t))), (5, .int (nI (cnt (fra A q f t) (o + 1))))]) hx hb dX0_howManyAhead_65 hl (k := 7) rfl (nI_inc _) (by decide) rfl (fun ls hl => ?_)
              refine lv_goto (tgt := 14) hx hb dX0_howManyAhead_68 (by decide) ?_
              exact ih14 (o + 1) (by omega) ls (lv_sub hl [2, 3, 4, 5, 6, 7, 0] rfl)
            · refine lv_iinc (v := nI (cnt (fra A q f t) (o + 1))) (lv' := [(5, .int (nI (cnt (fra A q f t) (o + 1)))), (7, .int (sB A (f * 8 + o))), (0, .ref (h 0)), (1, .int (nI q)), (2, .int (nI f)), (3, .int (nI t)), (4, .int (sB A (f * 8 + t))), (6, .int (nI o))]) hx hb dX0_howManyAhead_62 hl (k := 6) rfl (by rw [cnt_yes (show _ = true from decide_eq_true (⟨c_39, Or.inr ⟨c_53, by omega⟩⟩))]; exact nI_inc _) (by decide) rfl (fun ls hl => ?_)
              refine lv_iinc (v := nI (o + 1)) (lv' := [(6, .int (nI (o + 1))), (5, .int (nI (cnt (fra A q f t) (o + 1)))), (7, .int (sB A (f * 8 + o))), (0, .ref (h 0)), (1, .int (nI q)), (2, .int (nI f)), (3, .int (nI t)), (4, .int (sB A (f * 8 + t)))]) hx hb dX0_howManyAhead_65 hl (k := 7) rfl (nI_inc _) (by decide) rfl (fun ls hl => ?_)
              refine lv_goto (tgt := 14) hx hb dX0_howManyAhead_68 (by decide) ?_
              exact ih14 (o + 1) (by omega) ls (lv_sub hl [3, 4, 5, 6, 7, 1, 0] rfl)
  exact lp14 (sT A) (0) (by omega) ls (lv_sub hl [3, 4, 5, 6, 2, 1, 0] rfl)
def rmX0_backgroundAt : Room := { frames := 3, cells := 0, slots := 0, locals := 70 }
set_option maxHeartbeats 4000000 in
set_option maxRecDepth 100000 in
/-- backgroundAt -/
theorem kX0_backgroundAt (l : Launch) (D : va_G) (h : Nat → Nat) (cI : ClassId) (A : St) (hI : Inv A) (q f t : Nat) (hq : 0 < q) (hq9 : q < 9) (hf : f < 6) (ht : t < sT A) : RO l yX0_backgroundAt wsX0_backgroundAt rmX0_backgroundAt [.ref (h 0), .int (nI q), .int (nI f), .int (nI t)] (vB D (xw h cI A) [(cI, .int)]) (fbg A q f t) := by
  refine ro_ofW (cc := cX0_backgroundAt) (maxL := 7) (by decide) rfl (Nat.le_of_ble_eq_true rfl) ?_
  intro p e s m below meth c args Q hx hb hml hown hts hB hQ ls hl
  have hown : s.vm.findClass RX0 = some m.cls := hown
  obtain ⟨hP, hK⟩ := hB
  have hin0 : ∀ w ∈ u_ws RX0 TX0 12, w ∈ wsX0_backgroundAt := fun _ h => List.mem_cons_of_mem _ (List.mem_append_right _ h)
  have hl : lv_has ls 7 [(0, .ref (h 0)), (1, .int (nI q)), (2, .int (nI f)), (3, .int (nI t))] := hl
  have hF := hI.F
  have hT := hI.T
  have hK3 := hI.K
  have hJ := hI.J
  have hZ := hI.Z
  refine lv_iconst (v := nI 0) hx hb dX0_backgroundAt_0 (by decide) ?_
  refine lv_istore (lv' := [(4, .int (nI 0)), (0, .ref (h 0)), (1, .int (nI q)), (2, .int (nI f)), (3, .int (nI t))]) hx hb dX0_backgroundAt_1 hl (by decide) rfl (fun ls hl => ?_)
  refine lv_iconst (v := nI 0) hx hb dX0_backgroundAt_3 (by decide) ?_
  refine lv_istore (lv' := [(5, .int (nI 0)), (4, .int (nI 0)), (0, .ref (h 0)), (1, .int (nI q)), (2, .int (nI f)), (3, .int (nI t))]) hx hb dX0_backgroundAt_4 hl (by decide) rfl (fun ls hl => ?_)
  have lp6 : ∀ (n6 o : Nat), o + n6 = sT A → ∀ (ls : Array Slot), lv_has ls 7 [(0, .ref (h 0)), (1, .int (nI q)), (2, .int (nI f)), (3, .int (nI t)), (4, .int (nI (cnt (fis q t) o))), (5, .int (nI o))] → W p l e rmX0_backgroundAt s m args below meth c s.heap [] 0 0 Q (F0 m 6 ls []) := by
    intro n6
    induction n6 with
    | zero =>
      intro o hi6 ls hl
      obtain rfl : sT A = o := by omega
      refine lv_iload hx hb dX0_backgroundAt_6 (lv_at hl 5 rfl) ?_
      refine lv_aload_n hx hb dX0_backgroundAt_8 rfl (lv_at hl 0 rfl) ?_
      refine va_get (D := D) (ci := 0) (v := .int (nI (sT A))) (C := RX0) (T := TX0) (N := 12) hx hb hts hin0 hown hK hP 0 rfl rfl 1 (by decide) (hts (.fieldLink RX0 107 "VoiceParts" "times" "I") (by decide +kernel)) (fun _ h9 => h9) rfl dX0_backgroundAt_9 ?_
      refine n_icmp_ge (tgt := 34) hx hb (by omega) (by omega) dX0_backgroundAt_12 (by decide) (fun c_12 => ?_) (fun c_12 => by exfalso; omega)
      refine lv_iload hx hb dX0_backgroundAt_34 (lv_at hl 4 rfl) ?_
      refine lv_iconst (v := nI 1) hx hb dX0_backgroundAt_36 (by decide) ?_
      refine n_isub hx hb (cnt_pos (j := t) (show _ = true from decide_eq_true rfl) ht) dX0_backgroundAt_37 ?_
      refine lv_iconst (v := nI 2) hx hb dX0_backgroundAt_38 (by decide) ?_
      refine lv_idiv hx hb dX0_backgroundAt_39 (by decide) ?_
      refine n_top (y := nI (fmi A q t)) (pk_div (by have z := cnt_le (fis q t) (sT A); omega) (by decide) (by decide)) ?_
      refine lv_istore (lv' := [(5, .int (nI (fmi A q t))), (0, .ref (h 0)), (1, .int (nI q)), (2, .int (nI f)), (3, .int (nI t)), (4, .int (nI (cnt (fis q t) (sT A))))]) hx hb dX0_backgroundAt_40 hl (by decide) rfl (fun ls hl => ?_)
      refine lv_iconst (v := nI 0) hx hb dX0_backgroundAt_42 (by decide) ?_
      refine lv_istore (lv' := [(6, .int (nI 0)), (5, .int (nI (fmi A q t))), (0, .ref (h 0)), (1, .int (nI q)), (2, .int (nI f)), (3, .int (nI t)), (4, .int (nI (cnt (fis q t) (sT A))))]) hx hb dX0_backgroundAt_43 hl (by decide) rfl (fun ls hl => ?_)
      have lp45 : ∀ (n45 u : Nat), u + n45 = sT A → fbL (fbc A q f t) (fun o => sB A (f * 8 + o)) (sB A (f * 8 + t)) n45 u = fbg A q f t → ∀ (ls : Array Slot), lv_has ls 7 [(0, .ref (h 0)), (1, .int (nI q)), (2, .int (nI f)), (3, .int (nI t)), (4, .int (nI (cnt (fis q t) (sT A)))), (5, .int (nI (fmi A q t))), (6, .int (nI u))] → W p l e rmX0_backgroundAt s m args below meth c s.heap [] 0 0 Q (F0 m 45 ls []) := by
        intro n45
        induction n45 with
        | zero =>
          intro u hi45 hh ls hl
          obtain rfl : sT A = u := by omega
          refine lv_iload hx hb dX0_backgroundAt_45 (lv_at hl 6 rfl) ?_
          refine lv_aload_n hx hb dX0_backgroundAt_47 rfl (lv_at hl 0 rfl) ?_
          refine va_get (D := D) (ci := 0) (v := .int (nI (sT A))) (C := RX0) (T := TX0) (N := 12) hx hb hts hin0 hown hK hP 0 rfl rfl 1 (by decide) (hts (.fieldLink RX0 107 "VoiceParts" "times" "I") (by decide +kernel)) (fun _ h9 => h9) rfl dX0_backgroundAt_48 ?_
          refine n_icmp_ge (tgt := 91) hx hb (by omega) (by omega) dX0_backgroundAt_51 (by decide) (fun c_51 => ?_) (fun c_51 => by exfalso; omega)
          refine lv_aload_n hx hb dX0_backgroundAt_91 rfl (lv_at hl 0 rfl) ?_
          refine lv_iload_n hx hb dX0_backgroundAt_92 rfl (lv_at hl 2 rfl) ?_
          refine lv_iload_n hx hb dX0_backgroundAt_93 rfl (lv_at hl 3 rfl) ?_
          refine ro_callV (As := [.int (nI f), .int (nI t)]) (rest := []) ⟨hx, hb, hml, hown, hts⟩ (kX0_boardAt l D h cI A (f) (t) (by omega) (by omega)) (cwV 2 hts gX0_backgroundAt_X0_boardAt rfl rfl rfl (by decide +kernel) ⟨Nat.le_of_ble_eq_true rfl, Nat.le_of_ble_eq_true rfl⟩) vB_bl (vB_at hP hK) (va_recv hK hP (ci := 0) (q0 := 0) rfl rfl) rfl hl.1 rfl (Nat.le_of_ble_eq_true rfl) dX0_backgroundAt_94 ⟨Nat.zero_le _, Nat.zero_le _⟩ ?_
          exact hQ dX0_backgroundAt_97 (hh)
        | succ n45 ih45 =>
          intro u hi45 hh ls hl
          refine lv_iload hx hb dX0_backgroundAt_45 (lv_at hl 6 rfl) ?_
          refine lv_aload_n hx hb dX0_backgroundAt_47 rfl (lv_at hl 0 rfl) ?_
          refine va_get (D := D) (ci := 0) (v := .int (nI (sT A))) (C := RX0) (T := TX0) (N := 12) hx hb hts hin0 hown hK hP 0 rfl rfl 1 (by decide) (hts (.fieldLink RX0 107 "VoiceParts" "times" "I") (by decide +kernel)) (fun _ h9 => h9) rfl dX0_backgroundAt_48 ?_
          refine n_icmp_ge (tgt := 91) hx hb (by omega) (by omega) dX0_backgroundAt_51 (by decide) (fun c_51 => by exfalso; omega) (fun c_51 => ?_)
          refine lv_iload_n hx hb dX0_backgroundAt_54 rfl (lv_at hl 3 rfl) ?_
          refine lv_iload hx hb dX0_backgroundAt_55 (lv_at hl 6 rfl) ?_
          refine lv_iload_n hx hb dX0_backgroundAt_57 rfl (lv_at hl 1 rfl) ?_
          refine ro_callS (As := [.int (nI t), .int (nI u), .int (nI q)]) (rest := []) ⟨hx, hb, hml, hown, hts⟩ (kX0_areInStep l  (t) (u) (q) (by omega) (by omega) (by omega) (by omega)) (va_cwS 3 hts gX0_backgroundAt_X0_areInStep rfl rfl rfl (by decide +kernel) ⟨Nat.le_of_ble_eq_true rfl, Nat.le_of_ble_eq_true rfl⟩) vT_bl vT_at rfl hl.1 rfl (Nat.le_of_ble_eq_true rfl) dX0_backgroundAt_58 ⟨Nat.zero_le _, Nat.zero_le _⟩ ?_
          refine b_if_eq (tgt := 85) hx hb dX0_backgroundAt_61 (by decide) (fun c_61 => ?_) (fun c_61 => ?_)
          · refine lv_iinc (v := nI (u + 1)) (lv' := [(6, .int (nI (u + 1))), (0, .ref (h 0)), (1, .int (nI q)), (2, .int (nI f)), (3, .int (nI t)), (4, .int (nI (cnt (fis q t) (sT A)))), (5, .int (nI (fmi A q t)))]) hx hb dX0_backgroundAt_85 hl (k := 6) rfl (nI_inc _) (by decide) rfl (fun ls hl => ?_)
            refine lv_goto (tgt := 45) hx hb dX0_backgroundAt_88 (by decide) ?_
            exact ih45 (u + 1) (by omega) (by rw [← hh, fbL, if_neg (fun z => c_61 (of_decide_eq_true z).1)]) ls (lv_sub hl [1, 2, 3, 4, 5, 6, 0] rfl)
          · refine lv_aload_n hx hb dX0_backgroundAt_64 rfl (lv_at hl 0 rfl) ?_
            refine lv_iload_n hx hb dX0_backgroundAt_65 rfl (lv_at hl 1 rfl) ?_
            refine lv_iload_n hx hb dX0_backgroundAt_66 rfl (lv_at hl 2 rfl) ?_
            refine lv_iload hx hb dX0_backgroundAt_67 (lv_at hl 6 rfl) ?_
            refine ro_callV (As := [.int (nI q), .int (nI f), .int (nI u)]) (rest := []) ⟨hx, hb, hml, hown, hts⟩ (kX0_howManyAhead l D h cI A  hI (q) (f) (u) (by omega) (by omega) (by omega) (by omega)) (cwV 3 hts gX0_backgroundAt_X0_howManyAhead rfl rfl rfl (by decide +kernel) ⟨Nat.le_of_ble_eq_true rfl, Nat.le_of_ble_eq_true rfl⟩) vB_bl (vB_at hP hK) (va_recv hK hP (ci := 0) (q0 := 0) rfl rfl) rfl hl.1 rfl (Nat.le_of_ble_eq_true rfl) dX0_backgroundAt_69 ⟨Nat.zero_le _, Nat.zero_le _⟩ ?_
            refine lv_iload hx hb dX0_backgroundAt_72 (lv_at hl 5 rfl) ?_
            have q1 : frk A q f u < 2 ^ 31 := by have z := cnt_le (fra A q f u) (sT A); unfold frk; omega
            have q2 : fmi A q t < 2 ^ 31 := by have z := cnt_le (fis q t) (sT A); unfold fmi; omega
            refine n_icmp_ne (tgt := 85) hx hb (by omega) (by omega) dX0_backgroundAt_74 (by decide) (fun c_74 => ?_) (fun c_74 => ?_)
            · refine lv_iinc (v := nI (u + 1)) (lv' := [(6, .int (nI (u + 1))), (0, .ref (h 0)), (1, .int (nI q)), (2, .int (nI f)), (3, .int (nI t)), (4, .int (nI (cnt (fis q t) (sT A)))), (5, .int (nI (fmi A q t)))]) hx hb dX0_backgroundAt_85 hl (k := 6) rfl (nI_inc _) (by decide) rfl (fun ls hl => ?_)
              refine lv_goto (tgt := 45) hx hb dX0_backgroundAt_88 (by decide) ?_
              exact ih45 (u + 1) (by omega) (by rw [← hh, fbL, if_neg (fun z => c_74 (of_decide_eq_true z).2)]) ls (lv_sub hl [1, 2, 3, 4, 5, 6, 0] rfl)
            · refine lv_aload_n hx hb dX0_backgroundAt_77 rfl (lv_at hl 0 rfl) ?_
              refine lv_iload_n hx hb dX0_backgroundAt_78 rfl (lv_at hl 2 rfl) ?_
              refine lv_iload hx hb dX0_backgroundAt_79 (lv_at hl 6 rfl) ?_
              refine ro_callV (As := [.int (nI f), .int (nI u)]) (rest := []) ⟨hx, hb, hml, hown, hts⟩ (kX0_boardAt l D h cI A (f) (u) (by omega) (by omega)) (cwV 2 hts gX0_backgroundAt_X0_boardAt rfl rfl rfl (by decide +kernel) ⟨Nat.le_of_ble_eq_true rfl, Nat.le_of_ble_eq_true rfl⟩) vB_bl (vB_at hP hK) (va_recv hK hP (ci := 0) (q0 := 0) rfl rfl) rfl hl.1 rfl (Nat.le_of_ble_eq_true rfl) dX0_backgroundAt_81 ⟨Nat.zero_le _, Nat.zero_le _⟩ ?_
              exact hQ dX0_backgroundAt_84 (by rw [← hh, fbL, if_pos (show fbc A q f t u = true from decide_eq_true ⟨c_61, c_74⟩)])
      exact lp45 (sT A) (0) (by omega) rfl ls (lv_sub hl [2, 3, 4, 5, 6, 1, 0] rfl)
    | succ n6 ih6 =>
      intro o hi6 ls hl
      refine lv_iload hx hb dX0_backgroundAt_6 (lv_at hl 5 rfl) ?_
      refine lv_aload_n hx hb dX0_backgroundAt_8 rfl (lv_at hl 0 rfl) ?_
      refine va_get (D := D) (ci := 0) (v := .int (nI (sT A))) (C := RX0) (T := TX0) (N := 12) hx hb hts hin0 hown hK hP 0 rfl rfl 1 (by decide) (hts (.fieldLink RX0 107 "VoiceParts" "times" "I") (by decide +kernel)) (fun _ h9 => h9) rfl dX0_backgroundAt_9 ?_
      refine n_icmp_ge (tgt := 34) hx hb (by omega) (by omega) dX0_backgroundAt_12 (by decide) (fun c_12 => by exfalso; omega) (fun c_12 => ?_)
      refine lv_iload_n hx hb dX0_backgroundAt_15 rfl (lv_at hl 3 rfl) ?_
      refine lv_iload hx hb dX0_backgroundAt_16 (lv_at hl 5 rfl) ?_
      refine lv_iload_n hx hb dX0_backgroundAt_18 rfl (lv_at hl 1 rfl) ?_
      refine ro_callS (As := [.int (nI t), .int (nI o), .int (nI q)]) (rest := []) ⟨hx, hb, hml, hown, hts⟩ (kX0_areInStep l  (t) (o) (q) (by omega) (by omega) (by omega) (by omega)) (va_cwS 3 hts gX0_backgroundAt_X0_areInStep rfl rfl rfl (by decide +kernel) ⟨Nat.le_of_ble_eq_true rfl, Nat.le_of_ble_eq_true rfl⟩) vT_bl vT_at rfl hl.1 rfl (Nat.le_of_ble_eq_true rfl) dX0_backgroundAt_19 ⟨Nat.zero_le _, Nat.zero_le _⟩ ?_
      refine b_if_eq (tgt := 28) hx hb dX0_backgroundAt_22 (by decide) (fun c_22 => ?_) (fun c_22 => ?_)
      · have hl : lv_has ls 7 [(0, .ref (h 0)), (1, .int (nI q)), (2, .int (nI f)), (3, .int (nI t)), (4, .int (nI (cnt (fis q t) (o + 1)))), (5, .int (nI o))] := by rw [cnt_no (show _ = false from decide_eq_false (c_22))]; exact hl
        refine lv_iinc (v := nI (o + 1)) (lv' := [(5, .int (nI (o + 1))), (0, .ref (h 0)), (1, .int (nI q)), (2, .int (nI f)), (3, .int (nI t)), (4, .int (nI (cnt (fis q t) (o + 1))))]) hx hb dX0_backgroundAt_28 hl (k := 5) rfl (nI_inc _) (by decide) rfl (fun ls hl => ?_)
        refine lv_goto (tgt := 6) hx hb dX0_backgroundAt_31 (by decide) ?_
        exact ih6 (o + 1) (by omega) ls (lv_sub hl [1, 2, 3, 4, 5, 0] rfl)
      · refine lv_iinc (v := nI (cnt (fis q t) (o + 1))) (lv' := [(4, .int (nI (cnt (fis q t) (o + 1)))), (0, .ref (h 0)), (1, .int (nI q)), (2, .int (nI f)), (3, .int (nI t)), (5, .int (nI o))]) hx hb dX0_backgroundAt_25 hl (k := 4) rfl (by rw [cnt_yes (show _ = true from decide_eq_true (c_22))]; exact nI_inc _) (by decide) rfl (fun ls hl => ?_)
        refine lv_iinc (v := nI (o + 1)) (lv' := [(5, .int (nI (o + 1))), (4, .int (nI (cnt (fis q t) (o + 1)))), (0, .ref (h 0)), (1, .int (nI q)), (2, .int (nI f)), (3, .int (nI t))]) hx hb dX0_backgroundAt_28 hl (k := 5) rfl (nI_inc _) (by decide) rfl (fun ls hl => ?_)
        refine lv_goto (tgt := 6) hx hb dX0_backgroundAt_31 (by decide) ?_
        exact ih6 (o + 1) (by omega) ls (lv_sub hl [2, 3, 4, 5, 1, 0] rfl)
  exact lp6 (sT A) (0) (by omega) ls (lv_sub hl [2, 3, 4, 5, 1, 0] rfl)
def rmX0_priceOfPeriod : Room := { frames := 4, cells := 0, slots := 0, locals := 96 }
set_option maxHeartbeats 4000000 in
set_option maxRecDepth 100000 in
/-- priceOfPeriod -/
theorem kX0_priceOfPeriod (l : Launch) (D : va_G) (h : Nat → Nat) (cI : ClassId) (A : St) (hI : Inv A) (q : Nat) (hq : 0 < q) (hq9 : q < 9) : RO l yX0_priceOfPeriod wsX0_priceOfPeriod rmX0_priceOfPeriod [.ref (h 0), .int (nI q)] (vB D (xw h cI A) [(cI, .int)]) (fpr A q) := by
  refine ro_ofW (cc := cX0_priceOfPeriod) (maxL := 5) (by decide) rfl (Nat.le_of_ble_eq_true rfl) ?_
  intro p e s m below meth c args Q hx hb hml hown hts hB hQ ls hl
  have hown : s.vm.findClass RX0 = some m.cls := hown
  obtain ⟨hP, hK⟩ := hB
  have hin0 : ∀ w ∈ u_ws RX0 TX0 12, w ∈ wsX0_priceOfPeriod := fun _ h => List.mem_cons_of_mem _ (List.mem_append_right _ h)
  have hl : lv_has ls 5 [(0, .ref (h 0)), (1, .int (nI q))] := hl
  have hF := hI.F
  have hT := hI.T
  have hK3 := hI.K
  have hJ := hI.J
  have hZ := hI.Z
  refine lv_iload_n hx hb dX0_priceOfPeriod_0 rfl (lv_at hl 1 rfl) ?_
  refine lv_aload_n hx hb dX0_priceOfPeriod_1 rfl (lv_at hl 0 rfl) ?_
  refine va_get (D := D) (ci := 0) (v := .int (nI (sF A))) (C := RX0) (T := TX0) (N := 12) hx hb hts hin0 hown hK hP 0 rfl rfl 0 (by decide) (hts (.fieldLink RX0 86 "VoiceParts" "tones" "I") (by decide +kernel)) (fun _ h9 => h9) rfl dX0_priceOfPeriod_2 ?_
  refine n_imul hx hb dX0_priceOfPeriod_5 ?_
  refine lv_istore_n (lv' := [(2, .int (nI (q * (sF A)))), (0, .ref (h 0)), (1, .int (nI q))]) hx hb dX0_priceOfPeriod_6 rfl hl (by decide) rfl (fun ls hl => ?_)
  refine lv_iconst (v := nI 0) hx hb dX0_priceOfPeriod_7 (by decide) ?_
  refine lv_istore_n (lv' := [(3, .int (nI 0)), (2, .int (nI (q * (sF A)))), (0, .ref (h 0)), (1, .int (nI q))]) hx hb dX0_priceOfPeriod_8 rfl hl (by decide) rfl (fun ls hl => ?_)
  have lp9 : ∀ (n9 f : Nat), f + n9 = sF A → ∀ (ls : Array Slot), lv_has ls 5 [(0, .ref (h 0)), (1, .int (nI q)), (2, .int (acc2 (nI (q * sF A)) (fun f t => fab (sB A (f * 8 + t) - fbg A q f t)) (sT A) f)), (3, .int (nI f))] → W p l e rmX0_priceOfPeriod s m args below meth c s.heap [] 0 0 Q (F0 m 9 ls []) := by
    intro n9
    induction n9 with
    | zero =>
      intro f hi9 ls hl
      obtain rfl : sF A = f := by omega
      refine lv_iload_n hx hb dX0_priceOfPeriod_9 rfl (lv_at hl 3 rfl) ?_
      refine lv_aload_n hx hb dX0_priceOfPeriod_10 rfl (lv_at hl 0 rfl) ?_
      refine va_get (D := D) (ci := 0) (v := .int (nI (sF A))) (C := RX0) (T := TX0) (N := 12) hx hb hts hin0 hown hK hP 0 rfl rfl 0 (by decide) (hts (.fieldLink RX0 86 "VoiceParts" "tones" "I") (by decide +kernel)) (fun _ h9 => h9) rfl dX0_priceOfPeriod_11 ?_
      refine n_icmp_ge (tgt := 63) hx hb (by omega) (by omega) dX0_priceOfPeriod_14 (by decide) (fun c_14 => ?_) (fun c_14 => by exfalso; omega)
      refine lv_iload_n hx hb dX0_priceOfPeriod_63 rfl (lv_at hl 2 rfl) ?_
      exact hQ dX0_priceOfPeriod_64 (rfl)
    | succ n9 ih9 =>
      intro f hi9 ls hl
      refine lv_iload_n hx hb dX0_priceOfPeriod_9 rfl (lv_at hl 3 rfl) ?_
      refine lv_aload_n hx hb dX0_priceOfPeriod_10 rfl (lv_at hl 0 rfl) ?_
      refine va_get (D := D) (ci := 0) (v := .int (nI (sF A))) (C := RX0) (T := TX0) (N := 12) hx hb hts hin0 hown hK hP 0 rfl rfl 0 (by decide) (hts (.fieldLink RX0 86 "VoiceParts" "tones" "I") (by decide +kernel)) (fun _ h9 => h9) rfl dX0_priceOfPeriod_11 ?_
      refine n_icmp_ge (tgt := 63) hx hb (by omega) (by omega) dX0_priceOfPeriod_14 (by decide) (fun c_14 => by exfalso; omega) (fun c_14 => ?_)
      refine lv_iconst (v := nI 0) hx hb dX0_priceOfPeriod_17 (by decide) ?_
      refine lv_istore (lv' := [(4, .int (nI 0)), (0, .ref (h 0)), (1, .int (nI q)), (2, .int (acc2 (nI (q * sF A)) (fun f t => fab (sB A (f * 8 + t) - fbg A q f t)) (sT A) f)), (3, .int (nI f))]) hx hb dX0_priceOfPeriod_18 hl (by decide) rfl (fun ls hl => ?_)
      have lp20 : ∀ (n20 t : Nat), t + n20 = sT A → ∀ (ls : Array Slot), lv_has ls 5 [(0, .ref (h 0)), (1, .int (nI q)), (2, .int (acc (acc2 (nI (q * sF A)) (fun f t => fab (sB A (f * 8 + t) - fbg A q f t)) (sT A) f) (fun t => fab (sB A (f * 8 + t) - fbg A q f t)) t)), (3, .int (nI f)), (4, .int (nI t))] → W p l e rmX0_priceOfPeriod s m args below meth c s.heap [] 0 0 Q (F0 m 20 ls []) := by
        intro n20
        induction n20 with
        | zero =>
          intro t hi20 ls hl
          obtain rfl : sT A = t := by omega
          refine lv_iload hx hb dX0_priceOfPeriod_20 (lv_at hl 4 rfl) ?_
          refine lv_aload_n hx hb dX0_priceOfPeriod_22 rfl (lv_at hl 0 rfl) ?_
          refine va_get (D := D) (ci := 0) (v := .int (nI (sT A))) (C := RX0) (T := TX0) (N := 12) hx hb hts hin0 hown hK hP 0 rfl rfl 1 (by decide) (hts (.fieldLink RX0 107 "VoiceParts" "times" "I") (by decide +kernel)) (fun _ h9 => h9) rfl dX0_priceOfPeriod_23 ?_
          refine n_icmp_ge (tgt := 57) hx hb (by omega) (by omega) dX0_priceOfPeriod_26 (by decide) (fun c_26 => ?_) (fun c_26 => by exfalso; omega)
          refine lv_iinc (v := nI (f + 1)) (lv' := [(3, .int (nI (f + 1))), (0, .ref (h 0)), (1, .int (nI q)), (2, .int (acc (acc2 (nI (q * sF A)) (fun f t => fab (sB A (f * 8 + t) - fbg A q f t)) (sT A) f) (fun t => fab (sB A (f * 8 + t) - fbg A q f t)) (sT A))), (4, .int (nI (sT A)))]) hx hb dX0_priceOfPeriod_57 hl (k := 3) rfl (nI_inc _) (by decide) rfl (fun ls hl => ?_)
          refine lv_goto (tgt := 9) hx hb dX0_priceOfPeriod_60 (by decide) ?_
          exact ih9 (f + 1) (by omega) ls (lv_sub hl [1, 2, 3, 0] rfl)
        | succ n20 ih20 =>
          intro t hi20 ls hl
          refine lv_iload hx hb dX0_priceOfPeriod_20 (lv_at hl 4 rfl) ?_
          refine lv_aload_n hx hb dX0_priceOfPeriod_22 rfl (lv_at hl 0 rfl) ?_
          refine va_get (D := D) (ci := 0) (v := .int (nI (sT A))) (C := RX0) (T := TX0) (N := 12) hx hb hts hin0 hown hK hP 0 rfl rfl 1 (by decide) (hts (.fieldLink RX0 107 "VoiceParts" "times" "I") (by decide +kernel)) (fun _ h9 => h9) rfl dX0_priceOfPeriod_23 ?_
          refine n_icmp_ge (tgt := 57) hx hb (by omega) (by omega) dX0_priceOfPeriod_26 (by decide) (fun c_26 => by exfalso; omega) (fun c_26 => ?_)
          refine lv_iload_n hx hb dX0_priceOfPeriod_29 rfl (lv_at hl 2 rfl) ?_
          refine lv_aload_n hx hb dX0_priceOfPeriod_30 rfl (lv_at hl 0 rfl) ?_
          refine lv_iload_n hx hb dX0_priceOfPeriod_31 rfl (lv_at hl 3 rfl) ?_
          refine lv_iload hx hb dX0_priceOfPeriod_32 (lv_at hl 4 rfl) ?_
          refine ro_callV (As := [.int (nI f), .int (nI t)]) (rest := [.int (acc (acc2 (nI (q * sF A)) (fun f t => fab (sB A (f * 8 + t) - fbg A q f t)) (sT A) f) (fun t => fab (sB A (f * 8 + t) - fbg A q f t)) t)]) ⟨hx, hb, hml, hown, hts⟩ (kX0_boardAt l D h cI A (f) (t) (by omega) (by omega)) (cwV 2 hts gX0_priceOfPeriod_X0_boardAt rfl rfl rfl (by decide +kernel) ⟨Nat.le_of_ble_eq_true rfl, Nat.le_of_ble_eq_true rfl⟩) vB_bl (vB_at hP hK) (va_recv hK hP (ci := 0) (q0 := 0) rfl rfl) rfl hl.1 rfl (Nat.le_of_ble_eq_true rfl) dX0_priceOfPeriod_34 ⟨Nat.zero_le _, Nat.zero_le _⟩ ?_
          refine lv_aload_n hx hb dX0_priceOfPeriod_37 rfl (lv_at hl 0 rfl) ?_
          refine lv_iload_n hx hb dX0_priceOfPeriod_38 rfl (lv_at hl 1 rfl) ?_
          refine lv_iload_n hx hb dX0_priceOfPeriod_39 rfl (lv_at hl 3 rfl) ?_
          refine lv_iload hx hb dX0_priceOfPeriod_40 (lv_at hl 4 rfl) ?_
          refine ro_callV (As := [.int (nI q), .int (nI f), .int (nI t)]) (rest := [.int (sB A (f * 8 + t)), .int (acc (acc2 (nI (q * sF A)) (fun f t => fab (sB A (f * 8 + t) - fbg A q f t)) (sT A) f) (fun t => fab (sB A (f * 8 + t) - fbg A q f t)) t)]) ⟨hx, hb, hml, hown, hts⟩ (kX0_backgroundAt l D h cI A  hI (q) (f) (t) (by omega) (by omega) (by omega) (by omega)) (cwV 3 hts gX0_priceOfPeriod_X0_backgroundAt rfl rfl rfl (by decide +kernel) ⟨Nat.le_of_ble_eq_true rfl, Nat.le_of_ble_eq_true rfl⟩) vB_bl (vB_at hP hK) (va_recv hK hP (ci := 0) (q0 := 0) rfl rfl) rfl hl.1 rfl (Nat.le_of_ble_eq_true rfl) dX0_priceOfPeriod_42 ⟨Nat.zero_le _, Nat.zero_le _⟩ ?_
          refine lv_isub hx hb dX0_priceOfPeriod_45 ?_
          refine va_mabs hx hb (hml.trans hl.1.symm) hown (hts (.methodLink RX0 116 Lib.Math.abs.name) (by decide +kernel)) (hts (.static Lib.Math.abs.name) (by decide +kernel)) (hts (.initialized "java/lang/Math") (by decide +kernel)) (hts (.code Lib.Math.abs.name Lib.Math.abs.code 1 (some .int)) (by decide +kernel)) (Nat.le_of_ble_eq_true rfl) (Nat.le_of_ble_eq_true rfl) (Nat.zero_le _) (Nat.zero_le _) dX0_priceOfPeriod_46 ?_
          refine lv_iadd hx hb dX0_priceOfPeriod_49 ?_
          refine lv_istore_n (lv' := [(2, .int ((acc (acc2 (nI (q * sF A)) (fun f t => fab (sB A (f * 8 + t) - fbg A q f t)) (sT A) f) (fun t => fab (sB A (f * 8 + t) - fbg A q f t)) t) + (fab ((sB A (f * 8 + t)) - (fbg A q f t))))), (0, .ref (h 0)), (1, .int (nI q)), (3, .int (nI f)), (4, .int (nI t))]) hx hb dX0_priceOfPeriod_50 rfl hl (by decide) rfl (fun ls hl => ?_)
          refine lv_iinc (v := nI (t + 1)) (lv' := [(4, .int (nI (t + 1))), (2, .int ((acc (acc2 (nI (q * sF A)) (fun f t => fab (sB A (f * 8 + t) - fbg A q f t)) (sT A) f) (fun t => fab (sB A (f * 8 + t) - fbg A q f t)) t) + (fab ((sB A (f * 8 + t)) - (fbg A q f t))))), (0, .ref (h 0)), (1, .int (nI q)), (3, .int (nI f))]) hx hb dX0_priceOfPeriod_51 hl (k := 4) rfl (nI_inc _) (by decide) rfl (fun ls hl => ?_)
          refine lv_goto (tgt := 20) hx hb dX0_priceOfPeriod_54 (by decide) ?_
          exact ih20 (t + 1) (by omega) ls (lv_sub hl [2, 3, 1, 4, 0] rfl)
      exact lp20 (sT A) (0) (by omega) ls (lv_sub hl [1, 2, 3, 4, 0] rfl)
  exact lp9 (sF A) (0) (by omega) ls (lv_sub hl [2, 3, 1, 0] rfl)
def rmX0_bestPeriod : Room := { frames := 5, cells := 0, slots := 0, locals := 120 }
set_option maxHeartbeats 4000000 in
set_option maxRecDepth 100000 in
/-- bestPeriod -/
theorem kX0_bestPeriod (l : Launch) (D : va_G) (h : Nat → Nat) (cI : ClassId) (A : St) (hI : Inv A) : RO l yX0_bestPeriod wsX0_bestPeriod rmX0_bestPeriod [.ref (h 0)] (vB D (xw h cI A) [(cI, .int)]) (nI (fpe A)) := by
  refine ro_ofW (cc := cX0_bestPeriod) (maxL := 5) (by decide) rfl (Nat.le_of_ble_eq_true rfl) ?_
  intro p e s m below meth c args Q hx hb hml hown hts hB hQ ls hl
  have hown : s.vm.findClass RX0 = some m.cls := hown
  obtain ⟨hP, hK⟩ := hB
  have hin0 : ∀ w ∈ u_ws RX0 TX0 12, w ∈ wsX0_bestPeriod := fun _ h => List.mem_cons_of_mem _ (List.mem_append_right _ h)
  have hl : lv_has ls 5 [(0, .ref (h 0))] := hl
  have hF := hI.F
  have hT := hI.T
  have hK3 := hI.K
  have hJ := hI.J
  have hZ := hI.Z
  refine lv_iconst (v := nI 1) hx hb dX0_bestPeriod_0 (by decide) ?_
  refine lv_istore_n (lv' := [(1, .int (nI 1)), (0, .ref (h 0))]) hx hb dX0_bestPeriod_1 rfl hl (by decide) rfl (fun ls hl => ?_)
  refine lv_aload_n hx hb dX0_bestPeriod_2 rfl (lv_at hl 1 rfl) ?_
  refine lv_iconst (v := nI 1) hx hb dX0_bestPeriod_3 (by decide) ?_
  refine ro_callV (As := [.int (nI 1)]) (rest := []) ⟨hx, hb, hml, hown, hts⟩ (kX0_priceOfPeriod l D h cI A  hI (1) (by omega) (by omega)) (cwV 1 hts gX0_bestPeriod_X0_priceOfPeriod rfl rfl rfl (by decide +kernel) ⟨Nat.le_of_ble_eq_true rfl, Nat.le_of_ble_eq_true rfl⟩) vB_bl (vB_at hP hK) (va_recv hK hP (ci := 0) (q0 := 0) rfl rfl) rfl hl.1 rfl (Nat.le_of_ble_eq_true rfl) dX0_bestPeriod_4 ⟨Nat.zero_le _, Nat.zero_le _⟩ ?_
  refine lv_istore_n (lv' := [(2, .int (fpr A 1)), (1, .int (nI 1)), (0, .ref (h 0))]) hx hb dX0_bestPeriod_7 rfl hl (by decide) rfl (fun ls hl => ?_)
  refine lv_iconst (v := nI 2) hx hb dX0_bestPeriod_8 (by decide) ?_
  refine lv_istore_n (lv' := [(3, .int (nI 2)), (2, .int (fpr A 1)), (1, .int (nI 1)), (0, .ref (h 0))]) hx hb dX0_bestPeriod_9 rfl hl (by decide) rfl (fun ls hl => ?_)
  have lp10 : ∀ (n10 i : Nat), i + n10 = sT A - 1 → ∀ (ls : Array Slot), lv_has ls 5 [(0, .ref (h 0)), (1, .int (nI (fbp (fpr A) i))), (2, .int (fpr A (fbp (fpr A) i))), (3, .int (nI (i + 2)))] → W p l e rmX0_bestPeriod s m args below meth c s.heap [] 0 0 Q (F0 m 10 ls []) := by
    intro n10
    induction n10 with
    | zero =>
      intro i hi10 ls hl
      obtain rfl : sT A - 1 = i := by omega
      refine lv_iload_n hx hb dX0_bestPeriod_10 rfl (lv_at hl 3 rfl) ?_
      refine lv_aload_n hx hb dX0_bestPeriod_11 rfl (lv_at hl 0 rfl) ?_
      refine va_get (D := D) (ci := 0) (v := .int (nI (sT A))) (C := RX0) (T := TX0) (N := 12) hx hb hts hin0 hown hK hP 0 rfl rfl 1 (by decide) (hts (.fieldLink RX0 107 "VoiceParts" "times" "I") (by decide +kernel)) (fun _ h9 => h9) rfl dX0_bestPeriod_12 ?_
      refine n_icmp_gt (tgt := 42) hx hb (by omega) (by omega) dX0_bestPeriod_15 (by decide) (fun c_15 => ?_) (fun c_15 => by exfalso; omega)
      refine lv_iload_n hx hb dX0_bestPeriod_42 rfl (lv_at hl 1 rfl) ?_
      exact hQ dX0_bestPeriod_43 (rfl)
    | succ n10 ih10 =>
      intro i hi10 ls hl
      refine lv_iload_n hx hb dX0_bestPeriod_10 rfl (lv_at hl 3 rfl) ?_
      refine lv_aload_n hx hb dX0_bestPeriod_11 rfl (lv_at hl 0 rfl) ?_
      refine va_get (D := D) (ci := 0) (v := .int (nI (sT A))) (C := RX0) (T := TX0) (N := 12) hx hb hts hin0 hown hK hP 0 rfl rfl 1 (by decide) (hts (.fieldLink RX0 107 "VoiceParts" "times" "I") (by decide +kernel)) (fun _ h9 => h9) rfl dX0_bestPeriod_12 ?_
      refine n_icmp_gt (tgt := 42) hx hb (by omega) (by omega) dX0_bestPeriod_15 (by decide) (fun c_15 => by exfalso; omega) (fun c_15 => ?_)
      refine lv_aload_n hx hb dX0_bestPeriod_18 rfl (lv_at hl 0 rfl) ?_
      refine lv_iload_n hx hb dX0_bestPeriod_19 rfl (lv_at hl 3 rfl) ?_
      refine ro_callV (As := [.int (nI (i + 2))]) (rest := []) ⟨hx, hb, hml, hown, hts⟩ (kX0_priceOfPeriod l D h cI A  hI (i + 2) (by omega) (by omega)) (cwV 1 hts gX0_bestPeriod_X0_priceOfPeriod rfl rfl rfl (by decide +kernel) ⟨Nat.le_of_ble_eq_true rfl, Nat.le_of_ble_eq_true rfl⟩) vB_bl (vB_at hP hK) (va_recv hK hP (ci := 0) (q0 := 0) rfl rfl) rfl hl.1 rfl (Nat.le_of_ble_eq_true rfl) dX0_bestPeriod_20 ⟨Nat.zero_le _, Nat.zero_le _⟩ ?_
      refine lv_istore (lv' := [(4, .int (fpr A (i + 2))), (0, .ref (h 0)), (1, .int (nI (fbp (fpr A) i))), (2, .int (fpr A (fbp (fpr A) i))), (3, .int (nI (i + 2)))]) hx hb dX0_bestPeriod_23 hl (by decide) rfl (fun ls hl => ?_)
      refine lv_iload hx hb dX0_bestPeriod_25 (lv_at hl 0 rfl) ?_
      refine lv_iload_n hx hb dX0_bestPeriod_27 rfl (lv_at hl 3 rfl) ?_
      refine lv_icmp_ge (tgt := 36) hx hb dX0_bestPeriod_28 (by decide) (fun c_28 => ?_) (fun c_28 => ?_)
      · have hl : lv_has ls 5 [(4, .int (fpr A (i + 2))), (0, .ref (h 0)), (1, .int (nI (fbp (fpr A) (i + 1)))), (2, .int (fpr A (fbp (fpr A) (i + 1)))), (3, .int (nI (i + 2)))] := by rw [show fbp (fpr A) (i + 1) = fbp (fpr A) i from if_neg (Int32.not_lt.mpr c_28)]; exact hl
        refine lv_iinc (v := nI (i + 2 + 1)) (lv' := [(3, .int (nI (i + 2 + 1))), (4, .int (fpr A (i + 2))), (0, .ref (h 0)), (1, .int (nI (fbp (fpr A) (i + 1)))), (2, .int (fpr A (fbp (fpr A) (i + 1))))]) hx hb dX0_bestPeriod_36 hl (k := 4) rfl (nI_inc _) (by decide) rfl (fun ls hl => ?_)
        refine lv_goto (tgt := 10) hx hb dX0_bestPeriod_39 (by decide) ?_
        exact ih10 (i + 1) (by omega) ls (lv_sub hl [2, 3, 4, 0] rfl)
      · refine lv_iload hx hb dX0_bestPeriod_31 (lv_at hl 0 rfl) ?_
        refine lv_istore_n (lv' := [(2, .int (fpr A (i + 2))), (4, .int (fpr A (i + 2))), (0, .ref (h 0)), (1, .int (nI (fbp (fpr A) i))), (3, .int (nI (i + 2)))]) hx hb dX0_bestPeriod_33 rfl hl (by decide) rfl (fun ls hl => ?_)
        refine lv_iload_n hx hb dX0_bestPeriod_34 rfl (lv_at hl 4 rfl) ?_
        refine lv_istore_n (lv' := [(1, .int (nI (i + 2))), (2, .int (fpr A (i + 2))), (4, .int (fpr A (i + 2))), (0, .ref (h 0)), (3, .int (nI (i + 2)))]) hx hb dX0_bestPeriod_35 rfl hl (by decide) rfl (fun ls hl => ?_)
        have hl : lv_has ls 5 [(1, .int (nI (fbp (fpr A) (i + 1)))), (2, .int (fpr A (fbp (fpr A) (i + 1)))), (4, .int (fpr A (i + 2))), (0, .ref (h 0)), (3, .int (nI (i + 2)))] := by rw [show fbp (fpr A) (i + 1) = i + 2 from if_pos (Int32.not_le.mp c_28)]; exact hl
        refine lv_iinc (v := nI (i + 2 + 1)) (lv' := [(3, .int (nI (i + 2 + 1))), (1, .int (nI (fbp (fpr A) (i + 1)))), (2, .int (fpr A (fbp (fpr A) (i + 1)))), (4, .int (fpr A (i + 2))), (0, .ref (h 0))]) hx hb dX0_bestPeriod_36 hl (k := 4) rfl (nI_inc _) (by decide) rfl (fun ls hl => ?_)
        refine lv_goto (tgt := 10) hx hb dX0_bestPeriod_39 (by decide) ?_
        exact ih10 (i + 1) (by omega) ls (lv_sub hl [4, 1, 2, 0] rfl)
  exact lp10 (sT A - 1) (0) (by omega) ls (lv_sub hl [3, 2, 1, 0] rfl)
def rmX0_filledRowAt : Room := { frames := 0, cells := 0, slots := 0, locals := 0 }
set_option maxHeartbeats 4000000 in
set_option maxRecDepth 100000 in
/-- filledRowAt -/
theorem kX0_filledRowAt (l : Launch) (D : va_G) (h : Nat → Nat) (cI : ClassId) (A : St) (hI : Inv A) (i : Nat) (hi : i < 8) : RO l yX0_filledRowAt wsX0_filledRowAt rmX0_filledRowAt [.ref (h 0), .int (nI i)] (vB D (xw h cI A) [(cI, .int)]) (ffr A i) := by
  refine ro_ofW (cc := cX0_filledRowAt) (maxL := 2) (by decide) rfl (Nat.le_of_ble_eq_true rfl) ?_
  intro p e s m below meth c args Q hx hb hml hown hts hB hQ ls hl
  have hown : s.vm.findClass RX0 = some m.cls := hown
  obtain ⟨hP, hK⟩ := hB
  have hin0 : ∀ w ∈ u_ws RX0 TX0 12, w ∈ wsX0_filledRowAt := fun _ h => List.mem_cons_of_mem _ (List.mem_append_right _ h)
  have hl : lv_has ls 2 [(0, .ref (h 0)), (1, .int (nI i))] := hl
  have hF := hI.F
  have hT := hI.T
  have hK3 := hI.K
  have hJ := hI.J
  have hZ := hI.Z
  refine lv_iload_n hx hb dX0_filledRowAt_0 rfl (lv_at hl 1 rfl) ?_
  refine lv_aload_n hx hb dX0_filledRowAt_1 rfl (lv_at hl 0 rfl) ?_
  refine va_get (D := D) (ci := 0) (v := .ref (h 5)) (C := RX0) (T := TX0) (N := 12) hx hb hts hin0 hown hK hP 0 rfl rfl 8 (by decide) (hts (.fieldLink RX0 22 "VoiceParts" "rowSizes" "[I") (by decide +kernel)) (fun _ h9 => h9) rfl dX0_filledRowAt_2 ?_
  refine lv_iconst (v := nI 0) hx hb dX0_filledRowAt_5 (by decide) ?_
  refine n_iald hx hb hK hP 5 0 rfl rfl (by omega) (by decide) dX0_filledRowAt_6 ?_
  refine n_icmp_ge (tgt := 19) hx hb (by omega) (by omega) dX0_filledRowAt_7 (by decide) (fun c_7 => ?_) (fun c_7 => ?_)
  · refine lv_iconst (v := nI 0) hx hb dX0_filledRowAt_19 (by decide) ?_
    exact hQ dX0_filledRowAt_20 (by unfold ffr; rw [if_neg (by omega)]; first | rfl | done)
  · refine lv_aload_n hx hb dX0_filledRowAt_10 rfl (lv_at hl 0 rfl) ?_
    refine va_get (D := D) (ci := 0) (v := .ref (h 4)) (C := RX0) (T := TX0) (N := 12) hx hb hts hin0 hown hK hP 0 rfl rfl 7 (by decide) (hts (.fieldLink RX0 19 "VoiceParts" "rowNumbers" "[I") (by decide +kernel)) (fun _ h9 => h9) rfl dX0_filledRowAt_11 ?_
    refine lv_iload_n hx hb dX0_filledRowAt_14 rfl (lv_at hl 1 rfl) ?_
    refine n_iald hx hb hK hP 4 0 rfl rfl (by omega) (by decide) dX0_filledRowAt_15 ?_
    refine lv_goto (tgt := 20) hx hb dX0_filledRowAt_16 (by decide) ?_
    exact hQ dX0_filledRowAt_20 (by unfold ffr; rw [if_pos (by omega)])
def rmX0_productsAt : Room := { frames := 1, cells := 0, slots := 0, locals := 22 }
set_option maxHeartbeats 4000000 in
set_option maxRecDepth 100000 in
/-- productsAt -/
theorem kX0_productsAt (l : Launch) (D : va_G) (h : Nat → Nat) (cI : ClassId) (A : St) (hI : Inv A) (d : Int32) (h1 : 1 ≤ sZ A 1) : RO l yX0_productsAt wsX0_productsAt rmX0_productsAt [.ref (h 0), .int d] (vB D (xw h cI A) [(cI, .int)]) (fpd A d) := by
  refine ro_ofW (cc := cX0_productsAt) (maxL := 5) (by decide) rfl (Nat.le_of_ble_eq_true rfl) ?_
  intro p e s m below meth c args Q hx hb hml hown hts hB hQ ls hl
  have hown : s.vm.findClass RX0 = some m.cls := hown
  obtain ⟨hP, hK⟩ := hB
  have hin0 : ∀ w ∈ u_ws RX0 TX0 12, w ∈ wsX0_productsAt := fun _ h => List.mem_cons_of_mem _ (List.mem_append_right _ h)
  have hl : lv_has ls 5 [(0, .ref (h 0)), (1, .int d)] := hl
  have hF := hI.F
  have hT := hI.T
  have hK3 := hI.K
  have hJ := hI.J
  have hZ := hI.Z
  refine lv_iconst (v := nI 0) hx hb dX0_productsAt_0 (by decide) ?_
  refine lv_istore_n (lv' := [(2, .int (nI 0)), (0, .ref (h 0)), (1, .int d)]) hx hb dX0_productsAt_1 rfl hl (by decide) rfl (fun ls hl => ?_)
  refine lv_iconst (v := nI 0) hx hb dX0_productsAt_2 (by decide) ?_
  refine lv_istore_n (lv' := [(3, .int (nI 0)), (2, .int (nI 0)), (0, .ref (h 0)), (1, .int d)]) hx hb dX0_productsAt_3 rfl hl (by decide) rfl (fun ls hl => ?_)
  have lp4 : ∀ (n4 i : Nat), i + n4 = sZ A 0 → ∀ (ls : Array Slot), lv_has ls 5 [(0, .ref (h 0)), (1, .int d), (2, .int (l_sum (fpt A d) i)), (3, .int (nI i))] → W p l e rmX0_productsAt s m args below meth c s.heap [] 0 0 Q (F0 m 4 ls []) := by
    intro n4
    induction n4 with
    | zero =>
      intro i hi4 ls hl
      obtain rfl : sZ A 0 = i := by omega
      refine lv_iload_n hx hb dX0_productsAt_4 rfl (lv_at hl 3 rfl) ?_
      refine lv_aload_n hx hb dX0_productsAt_5 rfl (lv_at hl 0 rfl) ?_
      refine va_get (D := D) (ci := 0) (v := .ref (h 5)) (C := RX0) (T := TX0) (N := 12) hx hb hts hin0 hown hK hP 0 rfl rfl 8 (by decide) (hts (.fieldLink RX0 22 "VoiceParts" "rowSizes" "[I") (by decide +kernel)) (fun _ h9 => h9) rfl dX0_productsAt_6 ?_
      refine lv_iconst (v := nI 0) hx hb dX0_productsAt_9 (by decide) ?_
      refine n_iald hx hb hK hP 5 0 rfl rfl (by omega) (by decide) dX0_productsAt_10 ?_
      refine n_icmp_ge (tgt := 62) hx hb (by omega) (by omega) dX0_productsAt_11 (by decide) (fun c_11 => ?_) (fun c_11 => by exfalso; omega)
      refine lv_iload_n hx hb dX0_productsAt_62 rfl (lv_at hl 2 rfl) ?_
      exact hQ dX0_productsAt_63 (rfl)
    | succ n4 ih4 =>
      intro i hi4 ls hl
      refine lv_iload_n hx hb dX0_productsAt_4 rfl (lv_at hl 3 rfl) ?_
      refine lv_aload_n hx hb dX0_productsAt_5 rfl (lv_at hl 0 rfl) ?_
      refine va_get (D := D) (ci := 0) (v := .ref (h 5)) (C := RX0) (T := TX0) (N := 12) hx hb hts hin0 hown hK hP 0 rfl rfl 8 (by decide) (hts (.fieldLink RX0 22 "VoiceParts" "rowSizes" "[I") (by decide +kernel)) (fun _ h9 => h9) rfl dX0_productsAt_6 ?_
      refine lv_iconst (v := nI 0) hx hb dX0_productsAt_9 (by decide) ?_
      refine n_iald hx hb hK hP 5 0 rfl rfl (by omega) (by decide) dX0_productsAt_10 ?_
      refine n_icmp_ge (tgt := 62) hx hb (by omega) (by omega) dX0_productsAt_11 (by decide) (fun c_11 => by exfalso; omega) (fun c_11 => ?_)
      refine lv_iload_n hx hb dX0_productsAt_14 rfl (lv_at hl 3 rfl) ?_
      refine lv_iload_n hx hb dX0_productsAt_15 rfl (lv_at hl 1 rfl) ?_
      refine lv_iadd hx hb dX0_productsAt_16 ?_
      refine lv_istore (lv' := [(4, .int ((nI i) + d)), (0, .ref (h 0)), (1, .int d), (2, .int (l_sum (fpt A d) i)), (3, .int (nI i))]) hx hb dX0_productsAt_17 hl (by decide) rfl (fun ls hl => ?_)
      refine lv_iload hx hb dX0_productsAt_19 (lv_at hl 0 rfl) ?_
      refine lv_iconst (v := nI 0) hx hb dX0_productsAt_21 (by decide) ?_
      refine lv_aload_n hx hb dX0_productsAt_22 rfl (lv_at hl 1 rfl) ?_
      refine va_get (D := D) (ci := 0) (v := .ref (h 5)) (C := RX0) (T := TX0) (N := 12) hx hb hts hin0 hown hK hP 0 rfl rfl 8 (by decide) (hts (.fieldLink RX0 22 "VoiceParts" "rowSizes" "[I") (by decide +kernel)) (fun _ h9 => h9) rfl dX0_productsAt_23 ?_
      refine lv_iconst (v := nI 1) hx hb dX0_productsAt_26 (by decide) ?_
      refine n_iald hx hb hK hP 5 0 rfl rfl (by omega) (by decide) dX0_productsAt_27 ?_
      refine lv_iconst (v := nI 1) hx hb dX0_productsAt_28 (by decide) ?_
      refine n_isub hx hb (by omega) dX0_productsAt_29 ?_
      refine ro_callS (As := [.int ((nI i) + d), .int (nI 0), .int (nI ((sZ A (1)) - 1))]) (rest := []) ⟨hx, hb, hml, hown, hts⟩ (kX0_within l ((nI i) + d) (nI 0) (nI ((sZ A (1)) - 1))) (va_cwS 3 hts gX0_productsAt_X0_within rfl rfl rfl (by decide +kernel) ⟨Nat.le_of_ble_eq_true rfl, Nat.le_of_ble_eq_true rfl⟩) vT_bl vT_at rfl hl.1 rfl (Nat.le_of_ble_eq_true rfl) dX0_productsAt_30 ⟨Nat.zero_le _, Nat.zero_le _⟩ ?_
      refine b_if_eq (tgt := 56) hx hb dX0_productsAt_33 (by decide) (fun c_33 => ?_) (fun c_33 => ?_)
      · have hl : lv_has ls 5 [(4, .int ((nI i) + d)), (0, .ref (h 0)), (1, .int d), (2, .int (l_sum (fpt A d) (i + 1))), (3, .int (nI i))] := by rw [l_sum_s, show fpt A d i = 0 from if_neg c_33, Int32.add_zero]; exact hl
        refine lv_iinc (v := nI (i + 1)) (lv' := [(3, .int (nI (i + 1))), (4, .int ((nI i) + d)), (0, .ref (h 0)), (1, .int d), (2, .int (l_sum (fpt A d) (i + 1)))]) hx hb dX0_productsAt_56 hl (k := 4) rfl (nI_inc _) (by decide) rfl (fun ls hl => ?_)
        refine lv_goto (tgt := 4) hx hb dX0_productsAt_59 (by decide) ?_
        exact ih4 (i + 1) (by omega) ls (lv_sub hl [2, 3, 4, 0] rfl)
      · obtain ⟨jv, hjv, ejv⟩ := iN_of (n := sZ A 1) c_33 h1 (by omega)
        have hl : lv_has ls 5 [(4, .int (nI jv)), (0, .ref (h 0)), (1, .int d), (2, .int (l_sum (fpt A d) i)), (3, .int (nI i))] := by rw [← ejv]; exact hl
        refine lv_iload_n hx hb dX0_productsAt_36 rfl (lv_at hl 3 rfl) ?_
        refine lv_aload_n hx hb dX0_productsAt_37 rfl (lv_at hl 1 rfl) ?_
        refine va_get (D := D) (ci := 0) (v := .ref (h 4)) (C := RX0) (T := TX0) (N := 12) hx hb hts hin0 hown hK hP 0 rfl rfl 7 (by decide) (hts (.fieldLink RX0 19 "VoiceParts" "rowNumbers" "[I") (by decide +kernel)) (fun _ h9 => h9) rfl dX0_productsAt_38 ?_
        refine lv_iload_n hx hb dX0_productsAt_41 rfl (lv_at hl 4 rfl) ?_
        refine n_iald hx hb hK hP 4 0 rfl rfl (by omega) (by decide) dX0_productsAt_42 ?_
        refine lv_aload_n hx hb dX0_productsAt_43 rfl (lv_at hl 1 rfl) ?_
        refine va_get (D := D) (ci := 0) (v := .ref (h 4)) (C := RX0) (T := TX0) (N := 12) hx hb hts hin0 hown hK hP 0 rfl rfl 7 (by decide) (hts (.fieldLink RX0 19 "VoiceParts" "rowNumbers" "[I") (by decide +kernel)) (fun _ h9 => h9) rfl dX0_productsAt_44 ?_
        refine lv_bipush (v := nI 8) hx hb dX0_productsAt_47 (by decide) ?_
        refine lv_iload hx hb dX0_productsAt_49 (lv_at hl 0 rfl) ?_
        refine n_iadd hx hb dX0_productsAt_51 ?_
        refine n_iald hx hb hK hP 4 0 rfl rfl (by omega) (by decide) dX0_productsAt_52 ?_
        refine lv_imul hx hb dX0_productsAt_53 ?_
        refine lv_iadd hx hb dX0_productsAt_54 ?_
        refine n_top (y := l_sum (fpt A d) (i + 1)) (by rw [l_sum_s, show fpt A d i = sR A i * sR A (8 + jv) from by unfold fpt; rw [if_pos c_33, ejv, nI_clamp (by omega)]]) ?_
        refine lv_istore_n (lv' := [(2, .int (l_sum (fpt A d) (i + 1))), (4, .int (nI jv)), (0, .ref (h 0)), (1, .int d), (3, .int (nI i))]) hx hb dX0_productsAt_55 rfl hl (by decide) rfl (fun ls hl => ?_)
        refine lv_iinc (v := nI (i + 1)) (lv' := [(3, .int (nI (i + 1))), (2, .int (l_sum (fpt A d) (i + 1))), (4, .int (nI jv)), (0, .ref (h 0)), (1, .int d)]) hx hb dX0_productsAt_56 hl (k := 4) rfl (nI_inc _) (by decide) rfl (fun ls hl => ?_)
        refine lv_goto (tgt := 4) hx hb dX0_productsAt_59 (by decide) ?_
        exact ih4 (i + 1) (by omega) ls (lv_sub hl [3, 4, 1, 0] rfl)
  exact lp4 (sZ A 0) (0) (by omega) ls (lv_sub hl [2, 3, 1, 0] rfl)
def rmJ6_bitCount_0f7a4 : Room := { frames := 0, cells := 0, slots := 0, locals := 0 }
set_option maxHeartbeats 4000000 in
set_option maxRecDepth 100000 in
/-- bitCount_0f7a4 -/
theorem kJ6_bitCount_0f7a4 (l : Launch)  (n : Nat) (hn : n < 8) : RO l yJ6_bitCount_0f7a4 wsJ6_bitCount_0f7a4 rmJ6_bitCount_0f7a4 [.int (nI n)] (vT) (nI (pc3 n)) := by
  refine ro_ofW (cc := cJ6_bitCount_0f7a4) (maxL := 1) (by decide) rfl (Nat.le_of_ble_eq_true rfl) ?_
  intro p e s m below meth c args Q hx hb hml hown hts hB hQ ls hl
  have hown : s.vm.findClass RJ6 = some m.cls := hown
  have hl : lv_has ls 1 [(0, .int (nI n))] := hl
  refine lv_iload_n hx hb dJ6_bitCount_0f7a4_0 rfl (lv_at hl 0 rfl) ?_
  refine lv_iload_n hx hb dJ6_bitCount_0f7a4_1 rfl (lv_at hl 0 rfl) ?_
  refine lv_iconst (v := nI 1) hx hb dJ6_bitCount_0f7a4_2 (by decide) ?_
  refine lv_iushr hx hb dJ6_bitCount_0f7a4_3 rfl ?_
  refine lv_ldcw (v := (1431655765)) hx hb hown (hts (.constant RJ6 265 (1431655765)) (by decide +kernel)) dJ6_bitCount_0f7a4_4 ?_
  refine lv_iand hx hb dJ6_bitCount_0f7a4_7 ?_
  refine lv_isub hx hb dJ6_bitCount_0f7a4_8 ?_
  refine n_top (y := nI (g1 n)) (co_dec (N := 8) (P := fun n => (nI n) - ((((nI n).toUInt32 >>> ((nI 1).toUInt32 &&& Int32.toUInt32 31)).toInt32) &&& (1431655765)) = nI (g1 n)) (by decide +kernel) hn) ?_
  refine lv_istore_n (lv' := [(0, .int (nI (g1 n)))]) hx hb dJ6_bitCount_0f7a4_9 rfl hl (by decide) rfl (fun ls hl => ?_)
  refine lv_iload_n hx hb dJ6_bitCount_0f7a4_10 rfl (lv_at hl 0 rfl) ?_
  refine lv_ldcw (v := (858993459)) hx hb hown (hts (.constant RJ6 266 (858993459)) (by decide +kernel)) dJ6_bitCount_0f7a4_11 ?_
  refine lv_iand hx hb dJ6_bitCount_0f7a4_14 ?_
  refine lv_iload_n hx hb dJ6_bitCount_0f7a4_15 rfl (lv_at hl 0 rfl) ?_
  refine lv_iconst (v := nI 2) hx hb dJ6_bitCount_0f7a4_16 (by decide) ?_
  refine lv_iushr hx hb dJ6_bitCount_0f7a4_17 rfl ?_
  refine lv_ldcw (v := (858993459)) hx hb hown (hts (.constant RJ6 266 (858993459)) (by decide +kernel)) dJ6_bitCount_0f7a4_18 ?_
  refine lv_iand hx hb dJ6_bitCount_0f7a4_21 ?_
  refine lv_iadd hx hb dJ6_bitCount_0f7a4_22 ?_
  refine n_top (y := nI (pc3 n)) (co_dec (N := 8) (P := fun n => ((nI (g1 n)) &&& (858993459)) + ((((nI (g1 n)).toUInt32 >>> ((nI 2).toUInt32 &&& Int32.toUInt32 31)).toInt32) &&& (858993459)) = nI (pc3 n)) (by decide +kernel) hn) ?_
  refine lv_istore_n (lv' := [(0, .int (nI (pc3 n)))]) hx hb dJ6_bitCount_0f7a4_23 rfl hl (by decide) rfl (fun ls hl => ?_)
  refine lv_iload_n hx hb dJ6_bitCount_0f7a4_24 rfl (lv_at hl 0 rfl) ?_
  refine lv_iload_n hx hb dJ6_bitCount_0f7a4_25 rfl (lv_at hl 0 rfl) ?_
  refine lv_iconst (v := nI 4) hx hb dJ6_bitCount_0f7a4_26 (by decide) ?_
  refine lv_iushr hx hb dJ6_bitCount_0f7a4_27 rfl ?_
  refine lv_iadd hx hb dJ6_bitCount_0f7a4_28 ?_
  refine lv_ldcw (v := (252645135)) hx hb hown (hts (.constant RJ6 267 (252645135)) (by decide +kernel)) dJ6_bitCount_0f7a4_29 ?_
  refine lv_iand hx hb dJ6_bitCount_0f7a4_32 ?_
  refine n_top (y := nI (pc3 n)) (co_dec (N := 8) (P := fun n => ((nI (pc3 n)) + (((nI (pc3 n)).toUInt32 >>> ((nI 4).toUInt32 &&& Int32.toUInt32 31)).toInt32)) &&& (252645135) = nI (pc3 n)) (by decide +kernel) hn) ?_
  refine lv_istore_n (lv' := [(0, .int (nI (pc3 n)))]) hx hb dJ6_bitCount_0f7a4_33 rfl hl (by decide) rfl (fun ls hl => ?_)
  refine lv_iload_n hx hb dJ6_bitCount_0f7a4_34 rfl (lv_at hl 0 rfl) ?_
  refine lv_iload_n hx hb dJ6_bitCount_0f7a4_35 rfl (lv_at hl 0 rfl) ?_
  refine lv_bipush (v := nI 8) hx hb dJ6_bitCount_0f7a4_36 (by decide) ?_
  refine lv_iushr hx hb dJ6_bitCount_0f7a4_38 rfl ?_
  refine lv_iadd hx hb dJ6_bitCount_0f7a4_39 ?_
  refine n_top (y := nI (pc3 n)) (co_dec (N := 8) (P := fun n => (nI (pc3 n)) + (((nI (pc3 n)).toUInt32 >>> ((nI 8).toUInt32 &&& Int32.toUInt32 31)).toInt32) = nI (pc3 n)) (by decide +kernel) hn) ?_
  refine lv_istore_n (lv' := [(0, .int (nI (pc3 n)))]) hx hb dJ6_bitCount_0f7a4_40 rfl hl (by decide) rfl (fun ls hl => ?_)
  refine lv_iload_n hx hb dJ6_bitCount_0f7a4_41 rfl (lv_at hl 0 rfl) ?_
  refine lv_iload_n hx hb dJ6_bitCount_0f7a4_42 rfl (lv_at hl 0 rfl) ?_
  refine lv_bipush (v := nI 16) hx hb dJ6_bitCount_0f7a4_43 (by decide) ?_
  refine lv_iushr hx hb dJ6_bitCount_0f7a4_45 rfl ?_
  refine lv_iadd hx hb dJ6_bitCount_0f7a4_46 ?_
  refine n_top (y := nI (pc3 n)) (co_dec (N := 8) (P := fun n => (nI (pc3 n)) + (((nI (pc3 n)).toUInt32 >>> ((nI 16).toUInt32 &&& Int32.toUInt32 31)).toInt32) = nI (pc3 n)) (by decide +kernel) hn) ?_
  refine lv_istore_n (lv' := [(0, .int (nI (pc3 n)))]) hx hb dJ6_bitCount_0f7a4_47 rfl hl (by decide) rfl (fun ls hl => ?_)
  refine lv_iload_n hx hb dJ6_bitCount_0f7a4_48 rfl (lv_at hl 0 rfl) ?_
  refine lv_bipush (v := nI 63) hx hb dJ6_bitCount_0f7a4_49 (by decide) ?_
  refine lv_iand hx hb dJ6_bitCount_0f7a4_51 ?_
  refine n_top (y := nI (pc3 n)) (co_dec (N := 8) (P := fun n => (nI (pc3 n)) &&& (nI 63) = nI (pc3 n)) (by decide +kernel) hn) ?_
  exact hQ dJ6_bitCount_0f7a4_52 (rfl)
def rmX0_sign : Room := { frames := 1, cells := 0, slots := 0, locals := 20 }
set_option maxHeartbeats 4000000 in
set_option maxRecDepth 100000 in
/-- sign -/
theorem kX0_sign (l : Launch)  (k i : Nat) (hk : k < 8) (hi : i < 8) : RO l yX0_sign wsX0_sign rmX0_sign [.int (nI k), .int (nI i)] (vT) (fsg k i) := by
  refine ro_ofW (cc := cX0_sign) (maxL := 2) (by decide) rfl (Nat.le_of_ble_eq_true rfl) ?_
  intro p e s m below meth c args Q hx hb hml hown hts hB hQ ls hl
  have hown : s.vm.findClass RX0 = some m.cls := hown
  have hl : lv_has ls 2 [(0, .int (nI k)), (1, .int (nI i))] := hl
  refine lv_iload_n hx hb dX0_sign_0 rfl (lv_at hl 0 rfl) ?_
  refine lv_iload_n hx hb dX0_sign_1 rfl (lv_at hl 1 rfl) ?_
  refine lv_iand hx hb dX0_sign_2 ?_
  refine n_top (y := nI (k &&& i)) (nI_and8 hk hi) ?_
  refine ro_callS (As := [.int (nI (k &&& i))]) (rest := []) ⟨hx, hb, hml, hown, hts⟩ (kJ6_bitCount_0f7a4 l (k &&& i) (and8 hk)) (va_cwS 1 hts gX0_sign_J6_bitCount_0f7a4 rfl rfl rfl (by decide +kernel) ⟨Nat.le_of_ble_eq_true rfl, Nat.le_of_ble_eq_true rfl⟩) vT_bl vT_at rfl hl.1 rfl (Nat.le_of_ble_eq_true rfl) dX0_sign_3 ⟨Nat.zero_le _, Nat.zero_le _⟩ ?_
  refine lv_iconst (v := nI 2) hx hb dX0_sign_6 (by decide) ?_
  refine lv_irem hx hb dX0_sign_7 (by decide) ?_
  refine n_top (y := nI (pc3 (k &&& i) % 2)) (pk_rem (by unfold pc3; omega) (by decide) (by decide)) ?_
  refine n_if_ne (tgt := 15) hx hb (by omega) dX0_sign_8 (by decide) (fun c_8 => ?_) (fun c_8 => ?_)
  · refine lv_iconst (v := (-1)) hx hb dX0_sign_15 (by decide) ?_
    exact hQ dX0_sign_16 (by unfold fsg; rw [if_neg c_8])
  · refine lv_iconst (v := nI 1) hx hb dX0_sign_11 (by decide) ?_
    refine lv_goto (tgt := 16) hx hb dX0_sign_12 (by decide) ?_
    exact hQ dX0_sign_16 (by unfold fsg; rw [if_pos c_8]; first | rfl | done)
def rmX0_turnedAt : Room := { frames := 2, cells := 0, slots := 0, locals := 41 }
set_option maxHeartbeats 4000000 in
set_option maxRecDepth 100000 in
/-- turnedAt -/
theorem kX0_turnedAt (l : Launch) (D : va_G) (h : Nat → Nat) (cI : ClassId) (A : St) (hI : Inv A) (k : Nat) (hk : k < 8) : RO l yX0_turnedAt wsX0_turnedAt rmX0_turnedAt [.ref (h 0), .int (nI k)] (vB D (xw h cI A) [(cI, .int)]) (ftu A k) := by
  refine ro_ofW (cc := cX0_turnedAt) (maxL := 4) (by decide) rfl (Nat.le_of_ble_eq_true rfl) ?_
  intro p e s m below meth c args Q hx hb hml hown hts hB hQ ls hl
  have hown : s.vm.findClass RX0 = some m.cls := hown
  obtain ⟨hP, hK⟩ := hB
  have hin0 : ∀ w ∈ u_ws RX0 TX0 12, w ∈ wsX0_turnedAt := fun _ h => List.mem_cons_of_mem _ (List.mem_append_right _ h)
  have hl : lv_has ls 4 [(0, .ref (h 0)), (1, .int (nI k))] := hl
  have hF := hI.F
  have hT := hI.T
  have hK3 := hI.K
  have hJ := hI.J
  have hZ := hI.Z
  refine lv_iconst (v := nI 0) hx hb dX0_turnedAt_0 (by decide) ?_
  refine lv_istore_n (lv' := [(2, .int (nI 0)), (0, .ref (h 0)), (1, .int (nI k))]) hx hb dX0_turnedAt_1 rfl hl (by decide) rfl (fun ls hl => ?_)
  refine lv_iconst (v := nI 0) hx hb dX0_turnedAt_2 (by decide) ?_
  refine lv_istore_n (lv' := [(3, .int (nI 0)), (2, .int (nI 0)), (0, .ref (h 0)), (1, .int (nI k))]) hx hb dX0_turnedAt_3 rfl hl (by decide) rfl (fun ls hl => ?_)
  have lp4 : ∀ (n4 i : Nat), i + n4 = 8 → ∀ (ls : Array Slot), lv_has ls 4 [(0, .ref (h 0)), (1, .int (nI k)), (2, .int (l_sum (fun i => fsg k i * ffr A i) i)), (3, .int (nI i))] → W p l e rmX0_turnedAt s m args below meth c s.heap [] 0 0 Q (F0 m 4 ls []) := by
    intro n4
    induction n4 with
    | zero =>
      intro i hi4 ls hl
      obtain rfl : 8 = i := by omega
      refine lv_iload_n hx hb dX0_turnedAt_4 rfl (lv_at hl 3 rfl) ?_
      refine lv_bipush (v := nI 8) hx hb dX0_turnedAt_5 (by decide) ?_
      refine n_icmp_ge (tgt := 30) hx hb (by omega) (by omega) dX0_turnedAt_7 (by decide) (fun c_7 => ?_) (fun c_7 => by exfalso; omega)
      refine lv_iload_n hx hb dX0_turnedAt_30 rfl (lv_at hl 2 rfl) ?_
      exact hQ dX0_turnedAt_31 (rfl)
    | succ n4 ih4 =>
      intro i hi4 ls hl
      refine lv_iload_n hx hb dX0_turnedAt_4 rfl (lv_at hl 3 rfl) ?_
      refine lv_bipush (v := nI 8) hx hb dX0_turnedAt_5 (by decide) ?_
      refine n_icmp_ge (tgt := 30) hx hb (by omega) (by omega) dX0_turnedAt_7 (by decide) (fun c_7 => by exfalso; omega) (fun c_7 => ?_)
      refine lv_iload_n hx hb dX0_turnedAt_10 rfl (lv_at hl 2 rfl) ?_
      refine lv_iload_n hx hb dX0_turnedAt_11 rfl (lv_at hl 1 rfl) ?_
      refine lv_iload_n hx hb dX0_turnedAt_12 rfl (lv_at hl 3 rfl) ?_
      refine ro_callS (As := [.int (nI k), .int (nI i)]) (rest := [.int (l_sum (fun i => fsg k i * ffr A i) i)]) ⟨hx, hb, hml, hown, hts⟩ (kX0_sign l  (k) (i) (by omega) (by omega)) (va_cwS 2 hts gX0_turnedAt_X0_sign rfl rfl rfl (by decide +kernel) ⟨Nat.le_of_ble_eq_true rfl, Nat.le_of_ble_eq_true rfl⟩) vT_bl vT_at rfl hl.1 rfl (Nat.le_of_ble_eq_true rfl) dX0_turnedAt_13 ⟨Nat.zero_le _, Nat.zero_le _⟩ ?_
      refine lv_aload_n hx hb dX0_turnedAt_16 rfl (lv_at hl 0 rfl) ?_
      refine lv_iload_n hx hb dX0_turnedAt_17 rfl (lv_at hl 3 rfl) ?_
      refine ro_callV (As := [.int (nI i)]) (rest := [.int (fsg k i), .int (l_sum (fun i => fsg k i * ffr A i) i)]) ⟨hx, hb, hml, hown, hts⟩ (kX0_filledRowAt l D h cI A  hI (i) (by omega)) (cwV 1 hts gX0_turnedAt_X0_filledRowAt rfl rfl rfl (by decide +kernel) ⟨Nat.le_of_ble_eq_true rfl, Nat.le_of_ble_eq_true rfl⟩) vB_bl (vB_at hP hK) (va_recv hK hP (ci := 0) (q0 := 0) rfl rfl) rfl hl.1 rfl (Nat.le_of_ble_eq_true rfl) dX0_turnedAt_18 ⟨Nat.zero_le _, Nat.zero_le _⟩ ?_
      refine lv_imul hx hb dX0_turnedAt_21 ?_
      refine lv_iadd hx hb dX0_turnedAt_22 ?_
      refine lv_istore_n (lv' := [(2, .int ((l_sum (fun i => fsg k i * ffr A i) i) + ((fsg k i) * (ffr A i)))), (0, .ref (h 0)), (1, .int (nI k)), (3, .int (nI i))]) hx hb dX0_turnedAt_23 rfl hl (by decide) rfl (fun ls hl => ?_)
      refine lv_iinc (v := nI (i + 1)) (lv' := [(3, .int (nI (i + 1))), (2, .int ((l_sum (fun i => fsg k i * ffr A i) i) + ((fsg k i) * (ffr A i)))), (0, .ref (h 0)), (1, .int (nI k))]) hx hb dX0_turnedAt_24 hl (k := 3) rfl (nI_inc _) (by decide) rfl (fun ls hl => ?_)
      refine lv_goto (tgt := 4) hx hb dX0_turnedAt_27 (by decide) ?_
      exact ih4 (i + 1) (by omega) ls (lv_sub hl [2, 3, 1, 0] rfl)
  exact lp4 (8) (0) (by omega) ls (lv_sub hl [2, 3, 1, 0] rfl)
def rmX0_backAt : Room := { frames := 3, cells := 0, slots := 0, locals := 64 }
set_option maxHeartbeats 4000000 in
set_option maxRecDepth 100000 in
/-- backAt -/
theorem kX0_backAt (l : Launch) (D : va_G) (h : Nat → Nat) (cI : ClassId) (A : St) (hI : Inv A) (k : Nat) (hk : k < 8) : RO l yX0_backAt wsX0_backAt rmX0_backAt [.ref (h 0), .int (nI k)] (vB D (xw h cI A) [(cI, .int)]) (fba A k) := by
  refine ro_ofW (cc := cX0_backAt) (maxL := 4) (by decide) rfl (Nat.le_of_ble_eq_true rfl) ?_
  intro p e s m below meth c args Q hx hb hml hown hts hB hQ ls hl
  have hown : s.vm.findClass RX0 = some m.cls := hown
  obtain ⟨hP, hK⟩ := hB
  have hin0 : ∀ w ∈ u_ws RX0 TX0 12, w ∈ wsX0_backAt := fun _ h => List.mem_cons_of_mem _ (List.mem_append_right _ h)
  have hl : lv_has ls 4 [(0, .ref (h 0)), (1, .int (nI k))] := hl
  have hF := hI.F
  have hT := hI.T
  have hK3 := hI.K
  have hJ := hI.J
  have hZ := hI.Z
  refine lv_iconst (v := nI 0) hx hb dX0_backAt_0 (by decide) ?_
  refine lv_istore_n (lv' := [(2, .int (nI 0)), (0, .ref (h 0)), (1, .int (nI k))]) hx hb dX0_backAt_1 rfl hl (by decide) rfl (fun ls hl => ?_)
  refine lv_iconst (v := nI 0) hx hb dX0_backAt_2 (by decide) ?_
  refine lv_istore_n (lv' := [(3, .int (nI 0)), (2, .int (nI 0)), (0, .ref (h 0)), (1, .int (nI k))]) hx hb dX0_backAt_3 rfl hl (by decide) rfl (fun ls hl => ?_)
  have lp4 : ∀ (n4 i : Nat), i + n4 = 8 → ∀ (ls : Array Slot), lv_has ls 4 [(0, .ref (h 0)), (1, .int (nI k)), (2, .int (l_sum (fun i => fsg k i * ftu A i) i)), (3, .int (nI i))] → W p l e rmX0_backAt s m args below meth c s.heap [] 0 0 Q (F0 m 4 ls []) := by
    intro n4
    induction n4 with
    | zero =>
      intro i hi4 ls hl
      obtain rfl : 8 = i := by omega
      refine lv_iload_n hx hb dX0_backAt_4 rfl (lv_at hl 3 rfl) ?_
      refine lv_bipush (v := nI 8) hx hb dX0_backAt_5 (by decide) ?_
      refine n_icmp_ge (tgt := 30) hx hb (by omega) (by omega) dX0_backAt_7 (by decide) (fun c_7 => ?_) (fun c_7 => by exfalso; omega)
      refine lv_iload_n hx hb dX0_backAt_30 rfl (lv_at hl 2 rfl) ?_
      refine lv_bipush (v := nI 8) hx hb dX0_backAt_31 (by decide) ?_
      refine lv_idiv hx hb dX0_backAt_33 (by decide) ?_
      exact hQ dX0_backAt_34 (rfl)
    | succ n4 ih4 =>
      intro i hi4 ls hl
      refine lv_iload_n hx hb dX0_backAt_4 rfl (lv_at hl 3 rfl) ?_
      refine lv_bipush (v := nI 8) hx hb dX0_backAt_5 (by decide) ?_
      refine n_icmp_ge (tgt := 30) hx hb (by omega) (by omega) dX0_backAt_7 (by decide) (fun c_7 => by exfalso; omega) (fun c_7 => ?_)
      refine lv_iload_n hx hb dX0_backAt_10 rfl (lv_at hl 2 rfl) ?_
      refine lv_iload_n hx hb dX0_backAt_11 rfl (lv_at hl 1 rfl) ?_
      refine lv_iload_n hx hb dX0_backAt_12 rfl (lv_at hl 3 rfl) ?_
      refine ro_callS (As := [.int (nI k), .int (nI i)]) (rest := [.int (l_sum (fun i => fsg k i * ftu A i) i)]) ⟨hx, hb, hml, hown, hts⟩ (kX0_sign l  (k) (i) (by omega) (by omega)) (va_cwS 2 hts gX0_backAt_X0_sign rfl rfl rfl (by decide +kernel) ⟨Nat.le_of_ble_eq_true rfl, Nat.le_of_ble_eq_true rfl⟩) vT_bl vT_at rfl hl.1 rfl (Nat.le_of_ble_eq_true rfl) dX0_backAt_13 ⟨Nat.zero_le _, Nat.zero_le _⟩ ?_
      refine lv_aload_n hx hb dX0_backAt_16 rfl (lv_at hl 0 rfl) ?_
      refine lv_iload_n hx hb dX0_backAt_17 rfl (lv_at hl 3 rfl) ?_
      refine ro_callV (As := [.int (nI i)]) (rest := [.int (fsg k i), .int (l_sum (fun i => fsg k i * ftu A i) i)]) ⟨hx, hb, hml, hown, hts⟩ (kX0_turnedAt l D h cI A  hI (i) (by omega)) (cwV 1 hts gX0_backAt_X0_turnedAt rfl rfl rfl (by decide +kernel) ⟨Nat.le_of_ble_eq_true rfl, Nat.le_of_ble_eq_true rfl⟩) vB_bl (vB_at hP hK) (va_recv hK hP (ci := 0) (q0 := 0) rfl rfl) rfl hl.1 rfl (Nat.le_of_ble_eq_true rfl) dX0_backAt_18 ⟨Nat.zero_le _, Nat.zero_le _⟩ ?_
      refine lv_imul hx hb dX0_backAt_21 ?_
      refine lv_iadd hx hb dX0_backAt_22 ?_
      refine lv_istore_n (lv' := [(2, .int ((l_sum (fun i => fsg k i * ftu A i) i) + ((fsg k i) * (ftu A i)))), (0, .ref (h 0)), (1, .int (nI k)), (3, .int (nI i))]) hx hb dX0_backAt_23 rfl hl (by decide) rfl (fun ls hl => ?_)
      refine lv_iinc (v := nI (i + 1)) (lv' := [(3, .int (nI (i + 1))), (2, .int ((l_sum (fun i => fsg k i * ftu A i) i) + ((fsg k i) * (ftu A i)))), (0, .ref (h 0)), (1, .int (nI k))]) hx hb dX0_backAt_24 hl (k := 3) rfl (nI_inc _) (by decide) rfl (fun ls hl => ?_)
      refine lv_goto (tgt := 4) hx hb dX0_backAt_27 (by decide) ?_
      exact ih4 (i + 1) (by omega) ls (lv_sub hl [2, 3, 1, 0] rfl)
  exact lp4 (8) (0) (by omega) ls (lv_sub hl [2, 3, 1, 0] rfl)
def rmX0_howManyOrders : Room := { frames := 0, cells := 0, slots := 0, locals := 0 }
set_option maxHeartbeats 4000000 in
set_option maxRecDepth 100000 in
/-- howManyOrders -/
theorem kX0_howManyOrders (l : Launch) (D : va_G) (h : Nat → Nat) (cI : ClassId) (A : St) (hI : Inv A) : RO l yX0_howManyOrders wsX0_howManyOrders rmX0_howManyOrders [.ref (h 0)] (vB D (xw h cI A) [(cI, .int)]) (nI (fno (sK A))) := by
  refine ro_ofW (cc := cX0_howManyOrders) (maxL := 1) (by decide) rfl (Nat.le_of_ble_eq_true rfl) ?_
  intro p e s m below meth c args Q hx hb hml hown hts hB hQ ls hl
  have hown : s.vm.findClass RX0 = some m.cls := hown
  obtain ⟨hP, hK⟩ := hB
  have hin0 : ∀ w ∈ u_ws RX0 TX0 12, w ∈ wsX0_howManyOrders := fun _ h => List.mem_cons_of_mem _ (List.mem_append_right _ h)
  have hl : lv_has ls 1 [(0, .ref (h 0))] := hl
  have hF := hI.F
  have hT := hI.T
  have hK3 := hI.K
  have hJ := hI.J
  have hZ := hI.Z
  refine lv_aload_n hx hb dX0_howManyOrders_0 rfl (lv_at hl 0 rfl) ?_
  refine va_get (D := D) (ci := 0) (v := .int (nI (sK A))) (C := RX0) (T := TX0) (N := 12) hx hb hts hin0 hown hK hP 0 rfl rfl 2 (by decide) (hts (.fieldLink RX0 137 "VoiceParts" "voices" "I") (by decide +kernel)) (fun _ h9 => h9) rfl dX0_howManyOrders_1 ?_
  rcases (show sK A = 1 ∨ sK A = 2 ∨ sK A = 3 by omega) with hk | hk | hk
  · refine lv_lookup (off := 28) (tgt := 32) hx hb dX0_howManyOrders_4 (by decide) (by rw [hk]; decide) (by decide) ?_
    refine lv_iconst (v := nI 1) hx hb dX0_howManyOrders_32 (by decide) ?_
    exact hQ dX0_howManyOrders_33 (by rw [hk]; rfl)
  · refine lv_lookup (off := 30) (tgt := 34) hx hb dX0_howManyOrders_4 (by decide) (by rw [hk]; decide) (by decide) ?_
    refine lv_iconst (v := nI 2) hx hb dX0_howManyOrders_34 (by decide) ?_
    exact hQ dX0_howManyOrders_35 (by rw [hk]; rfl)
  · refine lv_lookup (off := 32) (tgt := 36) hx hb dX0_howManyOrders_4 (by decide) (by rw [hk]; decide) (by decide) ?_
    refine lv_bipush (v := nI 6) hx hb dX0_howManyOrders_36 (by decide) ?_
    exact hQ dX0_howManyOrders_38 (by rw [hk]; rfl)
def rmX0_voiceInOrder : Room := { frames := 0, cells := 0, slots := 0, locals := 0 }
set_option maxHeartbeats 4000000 in
set_option maxRecDepth 100000 in
/-- voiceInOrder -/
theorem kX0_voiceInOrder (l : Launch) (D : va_G) (h : Nat → Nat) (cI : ClassId) (A : St) (t : Nat → Nat) (hI : Inv A) (o k : Nat) (ho : o < fno (sK A)) (hv : k < sK A) : RO l yX0_voiceInOrder wsX0_voiceInOrder rmX0_voiceInOrder [.ref (h 0), .int (nI o), .int (nI k)] (vB2 D (xw h cI A) [(cI, .int)] t) (nI (fvo (sK A) o k)) := by
  refine ro_ofW (cc := cX0_voiceInOrder) (maxL := 3) (by decide) rfl (Nat.le_of_ble_eq_true rfl) ?_
  intro p e s m below meth c args Q hx hb hml hown hts hB hQ ls hl
  have hown : s.vm.findClass RX0 = some m.cls := hown
  obtain ⟨⟨hP, hK⟩, hST⟩ := hB
  have hin0 : ∀ w ∈ u_ws RX0 TX0 12, w ∈ wsX0_voiceInOrder := fun _ h => List.mem_cons_of_mem _ (List.mem_append_right _ h)
  have hl : lv_has ls 3 [(0, .ref (h 0)), (1, .int (nI o)), (2, .int (nI k))] := hl
  have hF := hI.F
  have hT := hI.T
  have hK3 := hI.K
  have hJ := hI.J
  have hZ := hI.Z
  refine lv_aload_n hx hb dX0_voiceInOrder_0 rfl (lv_at hl 0 rfl) ?_
  refine va_get (D := D) (ci := 0) (v := .int (nI (sK A))) (C := RX0) (T := TX0) (N := 12) hx hb hts hin0 hown hK hP 0 rfl rfl 2 (by decide) (hts (.fieldLink RX0 137 "VoiceParts" "voices" "I") (by decide +kernel)) (fun _ h9 => h9) rfl dX0_voiceInOrder_1 ?_
  rcases (show sK A = 1 ∨ sK A = 2 ∨ sK A = 3 by omega) with hk | hk | hk
  · refine lv_lookup (off := 28) (tgt := 32) hx hb dX0_voiceInOrder_4 (by decide) (by rw [hk]; decide) (by decide) ?_
    have ho1 : o < 1 := by rw [hk] at ho; exact ho
    refine va_gets hx hb hST.1.1 va_S.rf hown (hts (.fieldLink RX0 183 "VoiceParts" "ORDERS_OF_ONE" "[I") (by decide +kernel)) (fun _ h9 => h9) dX0_voiceInOrder_32 ?_
    refine lv_iload_n hx hb dX0_voiceInOrder_35 rfl (lv_at hl 1 rfl) ?_
    refine lv_iload_n hx hb dX0_voiceInOrder_36 rfl (lv_at hl 2 rfl) ?_
    refine n_iadd hx hb dX0_voiceInOrder_37 ?_
    refine va_ti hx hb hST.1.2 va_S.rf (vp_in_nI (by omega) (by decide)) (v := .int (nI 0)) (rfl) dX0_voiceInOrder_38 ?_
    exact hQ dX0_voiceInOrder_39 (by rw [hk]; rfl)
  · refine lv_lookup (off := 36) (tgt := 40) hx hb dX0_voiceInOrder_4 (by decide) (by rw [hk]; decide) (by decide) ?_
    have ho1 : o < 2 := by rw [hk] at ho; exact ho
    refine va_gets hx hb hST.2.1.1 va_S.rf hown (hts (.fieldLink RX0 186 "VoiceParts" "ORDERS_OF_TWO" "[I") (by decide +kernel)) (fun _ h9 => h9) dX0_voiceInOrder_40 ?_
    refine lv_iload_n hx hb dX0_voiceInOrder_43 rfl (lv_at hl 1 rfl) ?_
    refine lv_iconst (v := nI 2) hx hb dX0_voiceInOrder_44 (by decide) ?_
    refine n_imul hx hb dX0_voiceInOrder_45 ?_
    refine lv_iload_n hx hb dX0_voiceInOrder_46 rfl (lv_at hl 2 rfl) ?_
    refine n_iadd hx hb dX0_voiceInOrder_47 ?_
    refine va_ti hx hb hST.2.1.2 va_S.rf (vp_in_nI (by omega) (by decide)) (v := .int (nI (tb2 (o * 2 + k)))) (by rw [nI_clamp (by omega)]) dX0_voiceInOrder_48 ?_
    exact hQ dX0_voiceInOrder_49 (by rw [hk, tb2_eq ho1 (by omega)]; rfl)
  · refine lv_lookup (off := 46) (tgt := 50) hx hb dX0_voiceInOrder_4 (by decide) (by rw [hk]; decide) (by decide) ?_
    have ho1 : o < 6 := by rw [hk] at ho; exact ho
    refine va_gets hx hb hST.2.2.1 va_S.rf hown (hts (.fieldLink RX0 189 "VoiceParts" "ORDERS_OF_THREE" "[I") (by decide +kernel)) (fun _ h9 => h9) dX0_voiceInOrder_50 ?_
    refine lv_iload_n hx hb dX0_voiceInOrder_53 rfl (lv_at hl 1 rfl) ?_
    refine lv_iconst (v := nI 3) hx hb dX0_voiceInOrder_54 (by decide) ?_
    refine n_imul hx hb dX0_voiceInOrder_55 ?_
    refine lv_iload_n hx hb dX0_voiceInOrder_56 rfl (lv_at hl 2 rfl) ?_
    refine n_iadd hx hb dX0_voiceInOrder_57 ?_
    refine va_ti hx hb hST.2.2.2 va_S.rf (vp_in_nI (by omega) (by decide)) (v := .int (nI (tb3 (o * 3 + k)))) (by rw [nI_clamp (by omega)]) dX0_voiceInOrder_58 ?_
    exact hQ dX0_voiceInOrder_59 (by rw [hk]; rfl)
def rmX0_apartOfVoice : Room := { frames := 3, cells := 0, slots := 0, locals := 78 }
set_option maxHeartbeats 4000000 in
set_option maxRecDepth 100000 in
/-- apartOfVoice -/
theorem kX0_apartOfVoice (l : Launch) (D : va_G) (h : Nat → Nat) (cI : ClassId) (A : St) (hI : Inv A) (k v : Nat) (hk : k < 3) (hv : v < 3) : RO l yX0_apartOfVoice wsX0_apartOfVoice rmX0_apartOfVoice [.ref (h 0), .int (nI k), .int (nI v)] (vB D (xw h cI A) [(cI, .int)]) (fav A k v) := by
  refine ro_ofW (cc := cX0_apartOfVoice) (maxL := 7) (by decide) rfl (Nat.le_of_ble_eq_true rfl) ?_
  intro p e s m below meth c args Q hx hb hml hown hts hB hQ ls hl
  have hown : s.vm.findClass RX0 = some m.cls := hown
  obtain ⟨hP, hK⟩ := hB
  have hin0 : ∀ w ∈ u_ws RX0 TX0 12, w ∈ wsX0_apartOfVoice := fun _ h => List.mem_cons_of_mem _ (List.mem_append_right _ h)
  have hl : lv_has ls 7 [(0, .ref (h 0)), (1, .int (nI k)), (2, .int (nI v))] := hl
  have hF := hI.F
  have hT := hI.T
  have hK3 := hI.K
  have hJ := hI.J
  have hZ := hI.Z
  refine lv_iconst (v := nI 0) hx hb dX0_apartOfVoice_0 (by decide) ?_
  refine lv_istore_n (lv' := [(3, .int (nI 0)), (0, .ref (h 0)), (1, .int (nI k)), (2, .int (nI v))]) hx hb dX0_apartOfVoice_1 rfl hl (by decide) rfl (fun ls hl => ?_)
  refine lv_iconst (v := nI 0) hx hb dX0_apartOfVoice_2 (by decide) ?_
  refine lv_istore (lv' := [(4, .int (nI 0)), (3, .int (nI 0)), (0, .ref (h 0)), (1, .int (nI k)), (2, .int (nI v))]) hx hb dX0_apartOfVoice_3 hl (by decide) rfl (fun ls hl => ?_)
  have lp5 : ∀ (n5 f : Nat), f + n5 = sF A → ∀ (ls : Array Slot), lv_has ls 7 [(0, .ref (h 0)), (1, .int (nI k)), (2, .int (nI v)), (3, .int (acc2 0 (fun f t => fab (fsh A k f t - sE A (v * 48 + (f * 8 + t)))) (sT A) f)), (4, .int (nI f))] → W p l e rmX0_apartOfVoice s m args below meth c s.heap [] 0 0 Q (F0 m 5 ls []) := by
    intro n5
    induction n5 with
    | zero =>
      intro f hi5 ls hl
      obtain rfl : sF A = f := by omega
      refine lv_iload hx hb dX0_apartOfVoice_5 (lv_at hl 4 rfl) ?_
      refine lv_aload_n hx hb dX0_apartOfVoice_7 rfl (lv_at hl 0 rfl) ?_
      refine va_get (D := D) (ci := 0) (v := .int (nI (sF A))) (C := RX0) (T := TX0) (N := 12) hx hb hts hin0 hown hK hP 0 rfl rfl 0 (by decide) (hts (.fieldLink RX0 86 "VoiceParts" "tones" "I") (by decide +kernel)) (fun _ h9 => h9) rfl dX0_apartOfVoice_8 ?_
      refine n_icmp_ge (tgt := 71) hx hb (by omega) (by omega) dX0_apartOfVoice_11 (by decide) (fun c_11 => ?_) (fun c_11 => by exfalso; omega)
      refine lv_iload_n hx hb dX0_apartOfVoice_71 rfl (lv_at hl 3 rfl) ?_
      exact hQ dX0_apartOfVoice_72 (rfl)
    | succ n5 ih5 =>
      intro f hi5 ls hl
      refine lv_iload hx hb dX0_apartOfVoice_5 (lv_at hl 4 rfl) ?_
      refine lv_aload_n hx hb dX0_apartOfVoice_7 rfl (lv_at hl 0 rfl) ?_
      refine va_get (D := D) (ci := 0) (v := .int (nI (sF A))) (C := RX0) (T := TX0) (N := 12) hx hb hts hin0 hown hK hP 0 rfl rfl 0 (by decide) (hts (.fieldLink RX0 86 "VoiceParts" "tones" "I") (by decide +kernel)) (fun _ h9 => h9) rfl dX0_apartOfVoice_8 ?_
      refine n_icmp_ge (tgt := 71) hx hb (by omega) (by omega) dX0_apartOfVoice_11 (by decide) (fun c_11 => by exfalso; omega) (fun c_11 => ?_)
      refine lv_iconst (v := nI 0) hx hb dX0_apartOfVoice_14 (by decide) ?_
      refine lv_istore (lv' := [(5, .int (nI 0)), (0, .ref (h 0)), (1, .int (nI k)), (2, .int (nI v)), (3, .int (acc2 0 (fun f t => fab (fsh A k f t - sE A (v * 48 + (f * 8 + t)))) (sT A) f)), (4, .int (nI f))]) hx hb dX0_apartOfVoice_15 hl (by decide) rfl (fun ls hl => ?_)
      have lp17 : ∀ (n17 t : Nat), t + n17 = sT A → ∀ (ls : Array Slot), lv_has ls 7 [(0, .ref (h 0)), (1, .int (nI k)), (2, .int (nI v)), (3, .int (acc (acc2 0 (fun f t => fab (fsh A k f t - sE A (v * 48 + (f * 8 + t)))) (sT A) f) (fun t => fab (fsh A k f t - sE A (v * 48 + (f * 8 + t)))) t)), (4, .int (nI f)), (5, .int (nI t))] → W p l e rmX0_apartOfVoice s m args below meth c s.heap [] 0 0 Q (F0 m 17 ls []) := by
        intro n17
        induction n17 with
        | zero =>
          intro t hi17 ls hl
          obtain rfl : sT A = t := by omega
          refine lv_iload hx hb dX0_apartOfVoice_17 (lv_at hl 5 rfl) ?_
          refine lv_aload_n hx hb dX0_apartOfVoice_19 rfl (lv_at hl 0 rfl) ?_
          refine va_get (D := D) (ci := 0) (v := .int (nI (sT A))) (C := RX0) (T := TX0) (N := 12) hx hb hts hin0 hown hK hP 0 rfl rfl 1 (by decide) (hts (.fieldLink RX0 107 "VoiceParts" "times" "I") (by decide +kernel)) (fun _ h9 => h9) rfl dX0_apartOfVoice_20 ?_
          refine n_icmp_ge (tgt := 65) hx hb (by omega) (by omega) dX0_apartOfVoice_23 (by decide) (fun c_23 => ?_) (fun c_23 => by exfalso; omega)
          refine lv_iinc (v := nI (f + 1)) (lv' := [(4, .int (nI (f + 1))), (0, .ref (h 0)), (1, .int (nI k)), (2, .int (nI v)), (3, .int (acc (acc2 0 (fun f t => fab (fsh A k f t - sE A (v * 48 + (f * 8 + t)))) (sT A) f) (fun t => fab (fsh A k f t - sE A (v * 48 + (f * 8 + t)))) (sT A))), (5, .int (nI (sT A)))]) hx hb dX0_apartOfVoice_65 hl (k := 4) rfl (nI_inc _) (by decide) rfl (fun ls hl => ?_)
          refine lv_goto (tgt := 5) hx hb dX0_apartOfVoice_68 (by decide) ?_
          exact ih5 (f + 1) (by omega) ls (lv_sub hl [1, 2, 3, 4, 0] rfl)
        | succ n17 ih17 =>
          intro t hi17 ls hl
          refine lv_iload hx hb dX0_apartOfVoice_17 (lv_at hl 5 rfl) ?_
          refine lv_aload_n hx hb dX0_apartOfVoice_19 rfl (lv_at hl 0 rfl) ?_
          refine va_get (D := D) (ci := 0) (v := .int (nI (sT A))) (C := RX0) (T := TX0) (N := 12) hx hb hts hin0 hown hK hP 0 rfl rfl 1 (by decide) (hts (.fieldLink RX0 107 "VoiceParts" "times" "I") (by decide +kernel)) (fun _ h9 => h9) rfl dX0_apartOfVoice_20 ?_
          refine n_icmp_ge (tgt := 65) hx hb (by omega) (by omega) dX0_apartOfVoice_23 (by decide) (fun c_23 => by exfalso; omega) (fun c_23 => ?_)
          refine lv_aload_n hx hb dX0_apartOfVoice_26 rfl (lv_at hl 0 rfl) ?_
          refine va_get (D := D) (ci := 0) (v := .ref (h 3)) (C := RX0) (T := TX0) (N := 12) hx hb hts hin0 hown hK hP 0 rfl rfl 6 (by decide) (hts (.fieldLink RX0 16 "VoiceParts" "truthNumbers" "[I") (by decide +kernel)) (fun _ h9 => h9) rfl dX0_apartOfVoice_27 ?_
          refine lv_iload_n hx hb dX0_apartOfVoice_30 rfl (lv_at hl 2 rfl) ?_
          refine lv_iload hx hb dX0_apartOfVoice_31 (lv_at hl 4 rfl) ?_
          refine lv_iload hx hb dX0_apartOfVoice_33 (lv_at hl 5 rfl) ?_
          refine ro_callS (As := [.int (nI v), .int (nI f), .int (nI t)]) (rest := [.ref (h 3)]) ⟨hx, hb, hml, hown, hts⟩ (kX0_truthPlace l (v) (f) (t)) (va_cwS 3 hts gX0_apartOfVoice_X0_truthPlace rfl rfl rfl (by decide +kernel) ⟨Nat.le_of_ble_eq_true rfl, Nat.le_of_ble_eq_true rfl⟩) vT_bl vT_at rfl hl.1 rfl (Nat.le_of_ble_eq_true rfl) dX0_apartOfVoice_35 ⟨Nat.zero_le _, Nat.zero_le _⟩ ?_
          refine n_iald hx hb hK hP 3 0 rfl rfl (by omega) (by decide) dX0_apartOfVoice_38 ?_
          refine lv_istore (lv' := [(6, .int (sE A (v * 48 + (f * 8 + t)))), (0, .ref (h 0)), (1, .int (nI k)), (2, .int (nI v)), (3, .int (acc (acc2 0 (fun f t => fab (fsh A k f t - sE A (v * 48 + (f * 8 + t)))) (sT A) f) (fun t => fab (fsh A k f t - sE A (v * 48 + (f * 8 + t)))) t)), (4, .int (nI f)), (5, .int (nI t))]) hx hb dX0_apartOfVoice_39 hl (by decide) rfl (fun ls hl => ?_)
          refine lv_iload_n hx hb dX0_apartOfVoice_41 rfl (lv_at hl 4 rfl) ?_
          refine lv_aload_n hx hb dX0_apartOfVoice_42 rfl (lv_at hl 1 rfl) ?_
          refine lv_iload_n hx hb dX0_apartOfVoice_43 rfl (lv_at hl 2 rfl) ?_
          refine lv_iload hx hb dX0_apartOfVoice_44 (lv_at hl 5 rfl) ?_
          refine lv_iload hx hb dX0_apartOfVoice_46 (lv_at hl 6 rfl) ?_
          refine ro_callV (As := [.int (nI k), .int (nI f), .int (nI t)]) (rest := [.int (acc (acc2 0 (fun f t => fab (fsh A k f t - sE A (v * 48 + (f * 8 + t)))) (sT A) f) (fun t => fab (fsh A k f t - sE A (v * 48 + (f * 8 + t)))) t)]) ⟨hx, hb, hml, hown, hts⟩ (kX0_shareAt l D h cI A  hI (k) (f) (t) (by omega) (by omega) (by omega)) (cwV 3 hts gX0_apartOfVoice_X0_shareAt rfl rfl rfl (by decide +kernel) ⟨Nat.le_of_ble_eq_true rfl, Nat.le_of_ble_eq_true rfl⟩) vB_bl (vB_at hP hK) (va_recv hK hP (ci := 0) (q0 := 0) rfl rfl) rfl hl.1 rfl (Nat.le_of_ble_eq_true rfl) dX0_apartOfVoice_48 ⟨Nat.zero_le _, Nat.zero_le _⟩ ?_
          refine lv_iload hx hb dX0_apartOfVoice_51 (lv_at hl 0 rfl) ?_
          refine lv_isub hx hb dX0_apartOfVoice_53 ?_
          refine va_mabs hx hb (hml.trans hl.1.symm) hown (hts (.methodLink RX0 116 Lib.Math.abs.name) (by decide +kernel)) (hts (.static Lib.Math.abs.name) (by decide +kernel)) (hts (.initialized "java/lang/Math") (by decide +kernel)) (hts (.code Lib.Math.abs.name Lib.Math.abs.code 1 (some .int)) (by decide +kernel)) (Nat.le_of_ble_eq_true rfl) (Nat.le_of_ble_eq_true rfl) (Nat.zero_le _) (Nat.zero_le _) dX0_apartOfVoice_54 ?_
          refine lv_iadd hx hb dX0_apartOfVoice_57 ?_
          refine lv_istore_n (lv' := [(3, .int ((acc (acc2 0 (fun f t => fab (fsh A k f t - sE A (v * 48 + (f * 8 + t)))) (sT A) f) (fun t => fab (fsh A k f t - sE A (v * 48 + (f * 8 + t)))) t) + (fab ((fsh A k f t) - (sE A (v * 48 + (f * 8 + t))))))), (6, .int (sE A (v * 48 + (f * 8 + t)))), (0, .ref (h 0)), (1, .int (nI k)), (2, .int (nI v)), (4, .int (nI f)), (5, .int (nI t))]) hx hb dX0_apartOfVoice_58 rfl hl (by decide) rfl (fun ls hl => ?_)
          refine lv_iinc (v := nI (t + 1)) (lv' := [(5, .int (nI (t + 1))), (3, .int ((acc (acc2 0 (fun f t => fab (fsh A k f t - sE A (v * 48 + (f * 8 + t)))) (sT A) f) (fun t => fab (fsh A k f t - sE A (v * 48 + (f * 8 + t)))) t) + (fab ((fsh A k f t) - (sE A (v * 48 + (f * 8 + t))))))), (6, .int (sE A (v * 48 + (f * 8 + t)))), (0, .ref (h 0)), (1, .int (nI k)), (2, .int (nI v)), (4, .int (nI f))]) hx hb dX0_apartOfVoice_59 hl (k := 6) rfl (nI_inc _) (by decide) rfl (fun ls hl => ?_)
          refine lv_goto (tgt := 17) hx hb dX0_apartOfVoice_62 (by decide) ?_
          exact ih17 (t + 1) (by omega) ls (lv_sub hl [3, 4, 5, 1, 6, 0] rfl)
      exact lp17 (sT A) (0) (by omega) ls (lv_sub hl [1, 2, 3, 4, 5, 0] rfl)
  exact lp5 (sF A) (0) (by omega) ls (lv_sub hl [2, 3, 4, 1, 0] rfl)
def rmX0_apartBy : Room := { frames := 4, cells := 0, slots := 0, locals := 104 }
set_option maxHeartbeats 4000000 in
set_option maxRecDepth 100000 in
/-- apartBy -/
theorem kX0_apartBy (l : Launch) (D : va_G) (h : Nat → Nat) (cI : ClassId) (A : St) (t : Nat → Nat) (hI : Inv A) (o : Nat) (ho : o < fno (sK A)) : RO l yX0_apartBy wsX0_apartBy rmX0_apartBy [.ref (h 0), .int (nI o)] (vB2 D (xw h cI A) [(cI, .int)] t) (fap A o) := by
  refine ro_ofW (cc := cX0_apartBy) (maxL := 4) (by decide) rfl (Nat.le_of_ble_eq_true rfl) ?_
  intro p e s m below meth c args Q hx hb hml hown hts hB hQ ls hl
  have hown : s.vm.findClass RX0 = some m.cls := hown
  obtain ⟨⟨hP, hK⟩, hST⟩ := hB
  have hin0 : ∀ w ∈ u_ws RX0 TX0 12, w ∈ wsX0_apartBy := fun _ h => List.mem_cons_of_mem _ (List.mem_append_right _ h)
  have hl : lv_has ls 4 [(0, .ref (h 0)), (1, .int (nI o))] := hl
  have hF := hI.F
  have hT := hI.T
  have hK3 := hI.K
  have hJ := hI.J
  have hZ := hI.Z
  refine lv_iconst (v := nI 0) hx hb dX0_apartBy_0 (by decide) ?_
  refine lv_istore_n (lv' := [(2, .int (nI 0)), (0, .ref (h 0)), (1, .int (nI o))]) hx hb dX0_apartBy_1 rfl hl (by decide) rfl (fun ls hl => ?_)
  refine lv_iconst (v := nI 0) hx hb dX0_apartBy_2 (by decide) ?_
  refine lv_istore_n (lv' := [(3, .int (nI 0)), (2, .int (nI 0)), (0, .ref (h 0)), (1, .int (nI o))]) hx hb dX0_apartBy_3 rfl hl (by decide) rfl (fun ls hl => ?_)
  have lp4 : ∀ (n4 k : Nat), k + n4 = sK A → ∀ (ls : Array Slot), lv_has ls 4 [(0, .ref (h 0)), (1, .int (nI o)), (2, .int (l_sum (fun k => fav A k (fvo (sK A) o k)) k)), (3, .int (nI k))] → W p l e rmX0_apartBy s m args below meth c s.heap [] 0 0 Q (F0 m 4 ls []) := by
    intro n4
    induction n4 with
    | zero =>
      intro k hi4 ls hl
      obtain rfl : sK A = k := by omega
      refine lv_iload_n hx hb dX0_apartBy_4 rfl (lv_at hl 3 rfl) ?_
      refine lv_aload_n hx hb dX0_apartBy_5 rfl (lv_at hl 0 rfl) ?_
      refine va_get (D := D) (ci := 0) (v := .int (nI (sK A))) (C := RX0) (T := TX0) (N := 12) hx hb hts hin0 hown hK hP 0 rfl rfl 2 (by decide) (hts (.fieldLink RX0 137 "VoiceParts" "voices" "I") (by decide +kernel)) (fun _ h9 => h9) rfl dX0_apartBy_6 ?_
      refine n_icmp_ge (tgt := 32) hx hb (by omega) (by omega) dX0_apartBy_9 (by decide) (fun c_9 => ?_) (fun c_9 => by exfalso; omega)
      refine lv_iload_n hx hb dX0_apartBy_32 rfl (lv_at hl 2 rfl) ?_
      exact hQ dX0_apartBy_33 (rfl)
    | succ n4 ih4 =>
      intro k hi4 ls hl
      refine lv_iload_n hx hb dX0_apartBy_4 rfl (lv_at hl 3 rfl) ?_
      refine lv_aload_n hx hb dX0_apartBy_5 rfl (lv_at hl 0 rfl) ?_
      refine va_get (D := D) (ci := 0) (v := .int (nI (sK A))) (C := RX0) (T := TX0) (N := 12) hx hb hts hin0 hown hK hP 0 rfl rfl 2 (by decide) (hts (.fieldLink RX0 137 "VoiceParts" "voices" "I") (by decide +kernel)) (fun _ h9 => h9) rfl dX0_apartBy_6 ?_
      refine n_icmp_ge (tgt := 32) hx hb (by omega) (by omega) dX0_apartBy_9 (by decide) (fun c_9 => by exfalso; omega) (fun c_9 => ?_)
      refine lv_iload_n hx hb dX0_apartBy_12 rfl (lv_at hl 2 rfl) ?_
      refine lv_aload_n hx hb dX0_apartBy_13 rfl (lv_at hl 0 rfl) ?_
      refine lv_iload_n hx hb dX0_apartBy_14 rfl (lv_at hl 3 rfl) ?_
      refine lv_aload_n hx hb dX0_apartBy_15 rfl (lv_at hl 0 rfl) ?_
      refine lv_iload_n hx hb dX0_apartBy_16 rfl (lv_at hl 1 rfl) ?_
      refine lv_iload_n hx hb dX0_apartBy_17 rfl (lv_at hl 3 rfl) ?_
      refine ro_callV (As := [.int (nI o), .int (nI k)]) (rest := [.int (nI k), .ref (h 0), .int (l_sum (fun k => fav A k (fvo (sK A) o k)) k)]) ⟨hx, hb, hml, hown, hts⟩ (kX0_voiceInOrder l D h cI A t hI (o) (k) ho (by omega)) (cwV 2 hts gX0_apartBy_X0_voiceInOrder rfl rfl rfl (by decide +kernel) ⟨Nat.le_of_ble_eq_true rfl, Nat.le_of_ble_eq_true rfl⟩) vB2_bl (vB2_at hP hK hST) (va_recv hK hP (ci := 0) (q0 := 0) rfl rfl) rfl hl.1 rfl (Nat.le_of_ble_eq_true rfl) dX0_apartBy_18 ⟨Nat.zero_le _, Nat.zero_le _⟩ ?_
      refine ro_callV (As := [.int (nI k), .int (nI (fvo (sK A) o k))]) (rest := [.int (l_sum (fun k => fav A k (fvo (sK A) o k)) k)]) ⟨hx, hb, hml, hown, hts⟩ (kX0_apartOfVoice l D h cI A hI (k) (fvo (sK A) o k) (by omega) (fvo_lt hK3)) (cwV 2 hts gX0_apartBy_X0_apartOfVoice rfl rfl rfl (by decide +kernel) ⟨Nat.le_of_ble_eq_true rfl, Nat.le_of_ble_eq_true rfl⟩) vB_bl (vB_at hP hK) (va_recv hK hP (ci := 0) (q0 := 0) rfl rfl) rfl hl.1 rfl (Nat.le_of_ble_eq_true rfl) dX0_apartBy_21 ⟨Nat.zero_le _, Nat.zero_le _⟩ ?_
      refine lv_iadd hx hb dX0_apartBy_24 ?_
      refine lv_istore_n (lv' := [(2, .int ((l_sum (fun k => fav A k (fvo (sK A) o k)) k) + (fav A k (fvo (sK A) o k)))), (0, .ref (h 0)), (1, .int (nI o)), (3, .int (nI k))]) hx hb dX0_apartBy_25 rfl hl (by decide) rfl (fun ls hl => ?_)
      refine lv_iinc (v := nI (k + 1)) (lv' := [(3, .int (nI (k + 1))), (2, .int ((l_sum (fun k => fav A k (fvo (sK A) o k)) k) + (fav A k (fvo (sK A) o k)))), (0, .ref (h 0)), (1, .int (nI o))]) hx hb dX0_apartBy_26 hl (k := 3) rfl (nI_inc _) (by decide) rfl (fun ls hl => ?_)
      refine lv_goto (tgt := 4) hx hb dX0_apartBy_29 (by decide) ?_
      exact ih4 (k + 1) (by omega) ls (lv_sub hl [2, 3, 1, 0] rfl)
  exact lp4 (sK A) (0) (by omega) ls (lv_sub hl [2, 3, 1, 0] rfl)
