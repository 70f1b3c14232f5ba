def rmX1_bestPeriod : Room := { frames := 1, cells := 0, slots := 0, locals := 27 }
set_option maxHeartbeats 4000000 in
set_option maxRecDepth 100000 in
theorem kX1_bestPeriod (l : Launch) (D : va_G) (h : Nat → Nat) (cI cZ : ClassId) (A : St) (M : Nat → Int32) (hI : Inv A) : MX l yX1_bestPeriod wsX1_bestPeriod rmX1_bestPeriod [.ref (h 0)] D [(cI, .int), (cZ, .boolean)] (mw h cI cZ A M) (fun M => mw h cI cZ A M) (nI (fpe A)) := by
  refine mx_ofW (cc := cX1_bestPeriod) (maxL := 7) (by decide) rfl (Nat.le_of_ble_eq_true rfl) ?_
  intro p e s m below meth c args Q G H locs hx hb hml hown hts hP hK hD hS hQ ls hl
  have hown : s.vm.findClass RX1 = some m.cls := hown
  have hin0 : ∀ w ∈ u_ws RX1 TX1 13, w ∈ wsX1_bestPeriod := fun _ h => List.mem_cons_of_mem _ (List.mem_append_right _ h)
  have hl : lv_has ls 7 [(0, .ref (h 0))] := hl
  have hF := hI.F
  have hT := hI.T
  have hK3 := hI.K
  have hJ := hI.J
  have hZ := hI.Z
  refine lv_iconst (v := nI 1) hx hb dX1_bestPeriod_0 (by decide) ?_
  refine lv_istore_n (lv' := [(1, .int (nI 1)), (0, .ref (h 0))]) hx hb dX1_bestPeriod_1 rfl hl (by decide) rfl (fun ls hl => ?_)
  refine lv_iconst (v := (-1)) hx hb dX1_bestPeriod_2 (by decide) ?_
  refine lv_istore_n (lv' := [(2, .int (-1)), (1, .int (nI 1)), (0, .ref (h 0))]) hx hb dX1_bestPeriod_3 rfl hl (by decide) rfl (fun ls hl => ?_)
  refine lv_iconst (v := nI 1) hx hb dX1_bestPeriod_4 (by decide) ?_
  refine lv_istore_n (lv' := [(3, .int (nI 1)), (2, .int (-1)), (1, .int (nI 1)), (0, .ref (h 0))]) hx hb dX1_bestPeriod_5 rfl hl (by decide) rfl (fun ls hl => ?_)
  have lp6 : ∀ (n6 i : Nat), i + n6 = sT A → ∀ (M : Nat → Int32) (H : Heap) (locs : List Loc), va_P D vwCl (mw h cI cZ A M) H → va_S G s.heap H locs → ∀ (ls : Array Slot), lv_has ls 7 [(0, .ref (h 0)), (1, .int (nI (fbp (fpr A) (i - 1)))), (2, .int (if i = 0 then (-1) else fpr A (fbp (fpr A) (i - 1)))), (3, .int (nI (i + 1)))] → W p l e rmX1_bestPeriod s m args below meth c H locs 0 0 Q (F0 m 6 ls []) := by
    intro n6
    induction n6 with
    | zero =>
      intro i hi6 M H locs hP hS ls hl
      obtain rfl : sT A = i := by omega
      have hD : va_D G (mw h cI cZ A M) := va_D.to hD rfl
      refine lv_iload_n hx hb dX1_bestPeriod_6 rfl (lv_at hl 3 rfl) ?_
      refine lv_aload_n hx hb dX1_bestPeriod_7 rfl (lv_at hl 0 rfl) ?_
      refine va_get (D := D) (ci := 1) (v := .int (nI (sT A))) (C := RX1) (T := TX1) (N := 13) hx hb hts hin0 hown hK hP 0 rfl rfl 1 (by decide) (hts (.fieldLink RX1 40 "VoicePartsModel" "times" "I") (by decide +kernel)) (fun _ h9 => h9) rfl dX1_bestPeriod_8 ?_
      refine n_icmp_gt (tgt := 128) hx hb (by omega) (by omega) dX1_bestPeriod_11 (by decide) (fun c_11 => ?_) (fun c_11 => by exfalso; omega)
      refine lv_iload_n hx hb dX1_bestPeriod_128 rfl (lv_at hl 1 rfl) ?_
      exact hQ dX1_bestPeriod_129 (rfl) (hP) hS
    | succ n6 ih6 =>
      intro i hi6 M H locs hP hS ls hl
      have hD : va_D G (mw h cI cZ A M) := va_D.to hD rfl
      refine lv_iload_n hx hb dX1_bestPeriod_6 rfl (lv_at hl 3 rfl) ?_
      refine lv_aload_n hx hb dX1_bestPeriod_7 rfl (lv_at hl 0 rfl) ?_
      refine va_get (D := D) (ci := 1) (v := .int (nI (sT A))) (C := RX1) (T := TX1) (N := 13) hx hb hts hin0 hown hK hP 0 rfl rfl 1 (by decide) (hts (.fieldLink RX1 40 "VoicePartsModel" "times" "I") (by decide +kernel)) (fun _ h9 => h9) rfl dX1_bestPeriod_8 ?_
      refine n_icmp_gt (tgt := 128) hx hb (by omega) (by omega) dX1_bestPeriod_11 (by decide) (fun c_11 => by exfalso; omega) (fun c_11 => ?_)
      refine lv_iload_n hx hb dX1_bestPeriod_14 rfl (lv_at hl 3 rfl) ?_
      refine lv_aload_n hx hb dX1_bestPeriod_15 rfl (lv_at hl 0 rfl) ?_
      refine va_get (D := D) (ci := 1) (v := .int (nI (sF A))) (C := RX1) (T := TX1) (N := 13) hx hb hts hin0 hown hK hP 0 rfl rfl 0 (by decide) (hts (.fieldLink RX1 36 "VoicePartsModel" "tones" "I") (by decide +kernel)) (fun _ h9 => h9) rfl dX1_bestPeriod_16 ?_
      refine n_imul hx hb dX1_bestPeriod_19 ?_
      refine lv_istore (lv' := [(4, .int (nI ((i + 1) * (sF A)))), (0, .ref (h 0)), (1, .int (nI (fbp (fpr A) (i - 1)))), (2, .int (if i = 0 then (-1) else fpr A (fbp (fpr A) (i - 1)))), (3, .int (nI (i + 1)))]) hx hb dX1_bestPeriod_20 hl (by decide) rfl (fun ls hl => ?_)
      refine lv_iconst (v := nI 0) hx hb dX1_bestPeriod_22 (by decide) ?_
      refine lv_istore (lv' := [(5, .int (nI 0)), (4, .int (nI ((i + 1) * (sF A)))), (0, .ref (h 0)), (1, .int (nI (fbp (fpr A) (i - 1)))), (2, .int (if i = 0 then (-1) else fpr A (fbp (fpr A) (i - 1)))), (3, .int (nI (i + 1)))]) hx hb dX1_bestPeriod_23 hl (by decide) rfl (fun ls hl => ?_)
      have lp25 : ∀ (n25 f : Nat), f + n25 = sF A → ∀ (M : Nat → Int32) (H : Heap) (locs : List Loc), va_P D vwCl (mw h cI cZ A M) H → va_S G s.heap H locs → ∀ (ls : Array Slot), lv_has ls 7 [(0, .ref (h 0)), (1, .int (nI (fbp (fpr A) (i - 1)))), (2, .int (if i = 0 then (-1) else fpr A (fbp (fpr A) (i - 1)))), (3, .int (nI (i + 1))), (4, .int (acc2 (nI ((i + 1) * sF A)) (fun f t => fab (sB A (f * 8 + t) - fbg A (i + 1) f t)) (sT A) f)), (5, .int (nI f))] → W p l e rmX1_bestPeriod s m args below meth c H locs 0 0 Q (F0 m 25 ls []) := by
        intro n25
        induction n25 with
        | zero =>
          intro f hi25 M H locs hP hS ls hl
          obtain rfl : sF A = f := by omega
          have hD : va_D G (mw h cI cZ A M) := va_D.to hD rfl
          refine lv_iload hx hb dX1_bestPeriod_25 (lv_at hl 5 rfl) ?_
          refine lv_aload_n hx hb dX1_bestPeriod_27 rfl (lv_at hl 0 rfl) ?_
          refine va_get (D := D) (ci := 1) (v := .int (nI (sF A))) (C := RX1) (T := TX1) (N := 13) hx hb hts hin0 hown hK hP 0 rfl rfl 0 (by decide) (hts (.fieldLink RX1 36 "VoicePartsModel" "tones" "I") (by decide +kernel)) (fun _ h9 => h9) rfl dX1_bestPeriod_28 ?_
          refine n_icmp_ge (tgt := 89) hx hb (by omega) (by omega) dX1_bestPeriod_31 (by decide) (fun c_31 => ?_) (fun c_31 => by exfalso; omega)
          have hl : lv_has ls 7 [(0, .ref (h 0)), (1, .int (nI (fbp (fpr A) (i - 1)))), (2, .int (if i = 0 then (-1) else fpr A (fbp (fpr A) (i - 1)))), (3, .int (nI (i + 1))), (4, .int (fpr A (i + 1))), (5, .int (nI (sF A)))] := by skip; exact hl
          by_cases hi0 : i = 0
          · have e0 : (if i = 0 then (-1) else fpr A (fbp (fpr A) (i - 1))) = (-1) := if_pos hi0
            have hl : lv_has ls 7 [(0, .ref (h 0)), (1, .int (nI (fbp (fpr A) (i - 1)))), (2, .int (-1)), (3, .int (nI (i + 1))), (4, .int (fpr A (i + 1))), (5, .int (nI (sF A)))] := by rw [← e0]; exact hl
            have hl : lv_has ls 7 [(0, .ref (h 0)), (1, .int (nI (fbp (fpr A) (i - 1)))), (2, .int (-1)), (3, .int (nI (i + 1))), (4, .int (fpr A (i + 1))), (5, .int (nI (sF A)))] := by skip; exact hl
            refine lv_iload_n hx hb dX1_bestPeriod_89 rfl (lv_at hl 2 rfl) ?_
            refine lv_if_lt (tgt := 99) hx hb dX1_bestPeriod_90 (by decide) (fun c_90 => ?_) (fun c_90 => absurd (by decide) c_90)
            refine lv_iload_n hx hb dX1_bestPeriod_99 rfl (lv_at hl 3 rfl) ?_
            refine lv_goto (tgt := 104) hx hb dX1_bestPeriod_100 (by decide) ?_
            refine lv_istore_n (lv' := [(1, .int (nI (i + 1))), (0, .ref (h 0)), (2, .int (-1)), (3, .int (nI (i + 1))), (4, .int (fpr A (i + 1))), (5, .int (nI (sF A)))]) hx hb dX1_bestPeriod_104 rfl hl (by decide) rfl (fun ls hl => ?_)
            refine lv_iload_n hx hb dX1_bestPeriod_105 rfl (lv_at hl 2 rfl) ?_
            refine lv_if_lt (tgt := 115) hx hb dX1_bestPeriod_106 (by decide) (fun c_106 => ?_) (fun c_106 => absurd (by decide) c_106)
            refine lv_iload hx hb dX1_bestPeriod_115 (lv_at hl 4 rfl) ?_
            refine lv_goto (tgt := 121) hx hb dX1_bestPeriod_117 (by decide) ?_
            refine lv_istore_n (lv' := [(2, .int (fpr A (i + 1))), (1, .int (nI (i + 1))), (0, .ref (h 0)), (3, .int (nI (i + 1))), (4, .int (fpr A (i + 1))), (5, .int (nI (sF A)))]) hx hb dX1_bestPeriod_121 rfl hl (by decide) rfl (fun ls hl => ?_)
            have hl : lv_has ls 7 [(2, .int (if i + 1 = 0 then (-1) else fpr A (fbp (fpr A) (i + 1 - 1)))), (1, .int (nI (fbp (fpr A) (i + 1 - 1)))), (0, .ref (h 0)), (3, .int (nI (i + 1))), (4, .int (fpr A (i + 1))), (5, .int (nI (sF A)))] := by rw [if_neg (show ¬ i + 1 = 0 by omega), show fbp (fpr A) (i + 1 - 1) = i + 1 from by rw [hi0]; rfl]; exact hl
            refine lv_iinc (v := nI (i + 1 + 1)) (lv' := [(3, .int (nI (i + 1 + 1))), (2, .int (if i + 1 = 0 then (-1) else fpr A (fbp (fpr A) (i + 1 - 1)))), (1, .int (nI (fbp (fpr A) (i + 1 - 1)))), (0, .ref (h 0)), (4, .int (fpr A (i + 1))), (5, .int (nI (sF A)))]) hx hb dX1_bestPeriod_122 hl (k := 3) rfl (nI_inc _) (by decide) rfl (fun ls hl => ?_)
            refine lv_goto (tgt := 6) hx hb dX1_bestPeriod_125 (by decide) ?_
            exact ih6 (i + 1) (by omega) M H locs (hP) hS ls (lv_sub hl [3, 2, 1, 0] rfl)
          · have e0 : (if i = 0 then (-1) else fpr A (fbp (fpr A) (i - 1))) = fpr A (fbp (fpr A) (i - 1)) := if_neg hi0
            have hl : lv_has ls 7 [(0, .ref (h 0)), (1, .int (nI (fbp (fpr A) (i - 1)))), (2, .int (fpr A (fbp (fpr A) (i - 1)))), (3, .int (nI (i + 1))), (4, .int (fpr A (i + 1))), (5, .int (nI (sF A)))] := by rw [← e0]; exact hl
            have hfb := fbp_in (fpr A) (i - 1)
            have hl : lv_has ls 7 [(0, .ref (h 0)), (1, .int (nI (fbp (fpr A) (i - 1)))), (2, .int (fpr A (fbp (fpr A) (i - 1)))), (3, .int (nI (i + 1))), (4, .int (fpr A (i + 1))), (5, .int (nI (sF A)))] := by skip; exact hl
            refine lv_iload_n hx hb dX1_bestPeriod_89 rfl (lv_at hl 2 rfl) ?_
            refine lv_if_lt (tgt := 99) hx hb dX1_bestPeriod_90 (by decide) (fun c_90 => absurd c_90 (fpr_nn hI (by omega))) (fun c_90 => ?_)
            refine lv_iload hx hb dX1_bestPeriod_93 (lv_at hl 4 rfl) ?_
            refine lv_iload_n hx hb dX1_bestPeriod_95 rfl (lv_at hl 2 rfl) ?_
            refine lv_icmp_ge (tgt := 103) hx hb dX1_bestPeriod_96 (by decide) (fun c_96 => ?_) (fun c_96 => ?_)
            · refine lv_iload_n hx hb dX1_bestPeriod_103 rfl (lv_at hl 1 rfl) ?_
              refine lv_istore_n (lv' := [(1, .int (nI (fbp (fpr A) (i - 1)))), (0, .ref (h 0)), (2, .int (fpr A (fbp (fpr A) (i - 1)))), (3, .int (nI (i + 1))), (4, .int (fpr A (i + 1))), (5, .int (nI (sF A)))]) hx hb dX1_bestPeriod_104 rfl hl (by decide) rfl (fun ls hl => ?_)
              refine lv_iload_n hx hb dX1_bestPeriod_105 rfl (lv_at hl 2 rfl) ?_
              refine lv_if_lt (tgt := 115) hx hb dX1_bestPeriod_106 (by decide) (fun c_106 => absurd c_106 (fpr_nn hI (by omega))) (fun c_106 => ?_)
              refine lv_iload hx hb dX1_bestPeriod_109 (lv_at hl 4 rfl) ?_
              refine lv_iload_n hx hb dX1_bestPeriod_111 rfl (lv_at hl 2 rfl) ?_
              refine lv_icmp_ge (tgt := 120) hx hb dX1_bestPeriod_112 (by decide) (fun c_112 => ?_) (fun c_112 => absurd c_96 c_112)
              refine lv_iload_n hx hb dX1_bestPeriod_120 rfl (lv_at hl 2 rfl) ?_
              refine lv_istore_n (lv' := [(2, .int (fpr A (fbp (fpr A) (i - 1)))), (1, .int (nI (fbp (fpr A) (i - 1)))), (0, .ref (h 0)), (3, .int (nI (i + 1))), (4, .int (fpr A (i + 1))), (5, .int (nI (sF A)))]) hx hb dX1_bestPeriod_121 rfl hl (by decide) rfl (fun ls hl => ?_)
              have hl : lv_has ls 7 [(2, .int (if i + 1 = 0 then (-1) else fpr A (fbp (fpr A) (i + 1 - 1)))), (1, .int (nI (fbp (fpr A) (i + 1 - 1)))), (0, .ref (h 0)), (3, .int (nI (i + 1))), (4, .int (fpr A (i + 1))), (5, .int (nI (sF A)))] := by rw [if_neg (show ¬ i + 1 = 0 by omega), fbp_keep hi0 (Int32.not_lt.mpr c_96)]; exact hl
              refine lv_iinc (v := nI (i + 1 + 1)) (lv' := [(3, .int (nI (i + 1 + 1))), (2, .int (if i + 1 = 0 then (-1) else fpr A (fbp (fpr A) (i + 1 - 1)))), (1, .int (nI (fbp (fpr A) (i + 1 - 1)))), (0, .ref (h 0)), (4, .int (fpr A (i + 1))), (5, .int (nI (sF A)))]) hx hb dX1_bestPeriod_122 hl (k := 3) rfl (nI_inc _) (by decide) rfl (fun ls hl => ?_)
              refine lv_goto (tgt := 6) hx hb dX1_bestPeriod_125 (by decide) ?_
              exact ih6 (i + 1) (by omega) M H locs (hP) hS ls (lv_sub hl [3, 2, 1, 0] rfl)
            · refine lv_iload_n hx hb dX1_bestPeriod_99 rfl (lv_at hl 3 rfl) ?_
              refine lv_goto (tgt := 104) hx hb dX1_bestPeriod_100 (by decide) ?_
              refine lv_istore_n (lv' := [(1, .int (nI (i + 1))), (0, .ref (h 0)), (2, .int (fpr A (fbp (fpr A) (i - 1)))), (3, .int (nI (i + 1))), (4, .int (fpr A (i + 1))), (5, .int (nI (sF A)))]) hx hb dX1_bestPeriod_104 rfl hl (by decide) rfl (fun ls hl => ?_)
              refine lv_iload_n hx hb dX1_bestPeriod_105 rfl (lv_at hl 2 rfl) ?_
              refine lv_if_lt (tgt := 115) hx hb dX1_bestPeriod_106 (by decide) (fun c_106 => absurd c_106 (fpr_nn hI (by omega))) (fun c_106 => ?_)
              refine lv_iload hx hb dX1_bestPeriod_109 (lv_at hl 4 rfl) ?_
              refine lv_iload_n hx hb dX1_bestPeriod_111 rfl (lv_at hl 2 rfl) ?_
              refine lv_icmp_ge (tgt := 120) hx hb dX1_bestPeriod_112 (by decide) (fun c_112 => absurd c_112 c_96) (fun c_112 => ?_)
              refine lv_iload hx hb dX1_bestPeriod_115 (lv_at hl 4 rfl) ?_
              refine lv_goto (tgt := 121) hx hb dX1_bestPeriod_117 (by decide) ?_
              refine lv_istore_n (lv' := [(2, .int (fpr A (i + 1))), (1, .int (nI (i + 1))), (0, .ref (h 0)), (3, .int (nI (i + 1))), (4, .int (fpr A (i + 1))), (5, .int (nI (sF A)))]) hx hb dX1_bestPeriod_121 rfl hl (by decide) rfl (fun ls hl => ?_)
              have hl : lv_has ls 7 [(2, .int (if i + 1 = 0 then (-1) else fpr A (fbp (fpr A) (i + 1 - 1)))), (1, .int (nI (fbp (fpr A) (i + 1 - 1)))), (0, .ref (h 0)), (3, .int (nI (i + 1))), (4, .int (fpr A (i + 1))), (5, .int (nI (sF A)))] := by rw [if_neg (show ¬ i + 1 = 0 by omega), fbp_take hi0 (Int32.not_le.mp c_96)]; exact hl
              refine lv_iinc (v := nI (i + 1 + 1)) (lv' := [(3, .int (nI (i + 1 + 1))), (2, .int (if i + 1 = 0 then (-1) else fpr A (fbp (fpr A) (i + 1 - 1)))), (1, .int (nI (fbp (fpr A) (i + 1 - 1)))), (0, .ref (h 0)), (4, .int (fpr A (i + 1))), (5, .int (nI (sF A)))]) hx hb dX1_bestPeriod_122 hl (k := 3) rfl (nI_inc _) (by decide) rfl (fun ls hl => ?_)
              refine lv_goto (tgt := 6) hx hb dX1_bestPeriod_125 (by decide) ?_
              exact ih6 (i + 1) (by omega) M H locs (hP) hS ls (lv_sub hl [3, 2, 1, 0] rfl)
        | succ n25 ih25 =>
          intro f hi25 M H locs hP hS ls hl
          have hD : va_D G (mw h cI cZ A M) := va_D.to hD rfl
          refine lv_iload hx hb dX1_bestPeriod_25 (lv_at hl 5 rfl) ?_
          refine lv_aload_n hx hb dX1_bestPeriod_27 rfl (lv_at hl 0 rfl) ?_
          refine va_get (D := D) (ci := 1) (v := .int (nI (sF A))) (C := RX1) (T := TX1) (N := 13) hx hb hts hin0 hown hK hP 0 rfl rfl 0 (by decide) (hts (.fieldLink RX1 36 "VoicePartsModel" "tones" "I") (by decide +kernel)) (fun _ h9 => h9) rfl dX1_bestPeriod_28 ?_
          refine n_icmp_ge (tgt := 89) hx hb (by omega) (by omega) dX1_bestPeriod_31 (by decide) (fun c_31 => by exfalso; omega) (fun c_31 => ?_)
          refine lv_iconst (v := nI 0) hx hb dX1_bestPeriod_34 (by decide) ?_
          refine lv_istore (lv' := [(6, .int (nI 0)), (0, .ref (h 0)), (1, .int (nI (fbp (fpr A) (i - 1)))), (2, .int (if i = 0 then (-1) else fpr A (fbp (fpr A) (i - 1)))), (3, .int (nI (i + 1))), (4, .int (acc2 (nI ((i + 1) * sF A)) (fun f t => fab (sB A (f * 8 + t) - fbg A (i + 1) f t)) (sT A) f)), (5, .int (nI f))]) hx hb dX1_bestPeriod_35 hl (by decide) rfl (fun ls hl => ?_)
          have lp37 : ∀ (n37 t : Nat), t + n37 = sT A → ∀ (M : Nat → Int32) (H : Heap) (locs : List Loc), va_P D vwCl (mw h cI cZ A M) H → va_S G s.heap H locs → ∀ (ls : Array Slot), lv_has ls 7 [(0, .ref (h 0)), (1, .int (nI (fbp (fpr A) (i - 1)))), (2, .int (if i = 0 then (-1) else fpr A (fbp (fpr A) (i - 1)))), (3, .int (nI (i + 1))), (4, .int (acc (acc2 (nI ((i + 1) * sF A)) (fun f t => fab (sB A (f * 8 + t) - fbg A (i + 1) f t)) (sT A) f) (fun t => fab (sB A (f * 8 + t) - fbg A (i + 1) f t)) t)), (5, .int (nI f)), (6, .int (nI t))] → W p l e rmX1_bestPeriod s m args below meth c H locs 0 0 Q (F0 m 37 ls []) := by
            intro n37
            induction n37 with
            | zero =>
              intro t hi37 M H locs hP hS ls hl
              obtain rfl : sT A = t := by omega
              have hD : va_D G (mw h cI cZ A M) := va_D.to hD rfl
              refine lv_iload hx hb dX1_bestPeriod_37 (lv_at hl 6 rfl) ?_
              refine lv_aload_n hx hb dX1_bestPeriod_39 rfl (lv_at hl 0 rfl) ?_
              refine va_get (D := D) (ci := 1) (v := .int (nI (sT A))) (C := RX1) (T := TX1) (N := 13) hx hb hts hin0 hown hK hP 0 rfl rfl 1 (by decide) (hts (.fieldLink RX1 40 "VoicePartsModel" "times" "I") (by decide +kernel)) (fun _ h9 => h9) rfl dX1_bestPeriod_40 ?_
              refine n_icmp_ge (tgt := 83) hx hb (by omega) (by omega) dX1_bestPeriod_43 (by decide) (fun c_43 => ?_) (fun c_43 => by exfalso; omega)
              refine lv_iinc (v := nI (f + 1)) (lv' := [(5, .int (nI (f + 1))), (0, .ref (h 0)), (1, .int (nI (fbp (fpr A) (i - 1)))), (2, .int (if i = 0 then (-1) else fpr A (fbp (fpr A) (i - 1)))), (3, .int (nI (i + 1))), (4, .int (acc (acc2 (nI ((i + 1) * sF A)) (fun f t => fab (sB A (f * 8 + t) - fbg A (i + 1) f t)) (sT A) f) (fun t => fab (sB A (f * 8 + t) - fbg A (i + 1) f t)) (sT A))), (6, .int (nI (sT A)))]) hx hb dX1_bestPeriod_83 hl (k := 5) rfl (nI_inc _) (by decide) rfl (fun ls hl => ?_)
              refine lv_goto (tgt := 25) hx hb dX1_bestPeriod_86 (by decide) ?_
              exact ih25 (f + 1) (by omega) M H locs (hP) hS ls (lv_sub hl [1, 2, 3, 4, 5, 0] rfl)
            | succ n37 ih37 =>
              intro t hi37 M H locs hP hS ls hl
              have hD : va_D G (mw h cI cZ A M) := va_D.to hD rfl
              refine lv_iload hx hb dX1_bestPeriod_37 (lv_at hl 6 rfl) ?_
              refine lv_aload_n hx hb dX1_bestPeriod_39 rfl (lv_at hl 0 rfl) ?_
              refine va_get (D := D) (ci := 1) (v := .int (nI (sT A))) (C := RX1) (T := TX1) (N := 13) hx hb hts hin0 hown hK hP 0 rfl rfl 1 (by decide) (hts (.fieldLink RX1 40 "VoicePartsModel" "times" "I") (by decide +kernel)) (fun _ h9 => h9) rfl dX1_bestPeriod_40 ?_
              refine n_icmp_ge (tgt := 83) hx hb (by omega) (by omega) dX1_bestPeriod_43 (by decide) (fun c_43 => by exfalso; omega) (fun c_43 => ?_)
              refine lv_iload hx hb dX1_bestPeriod_46 (lv_at hl 4 rfl) ?_
              refine lv_aload_n hx hb dX1_bestPeriod_48 rfl (lv_at hl 0 rfl) ?_
              refine va_get (D := D) (ci := 1) (v := .ref (h 1)) (C := RX1) (T := TX1) (N := 13) hx hb hts hin0 hown hK hP 0 rfl rfl 3 (by decide) (hts (.fieldLink RX1 7 "VoicePartsModel" "board" "[I") (by decide +kernel)) (fun _ h9 => h9) rfl dX1_bestPeriod_49 ?_
              refine lv_bipush (v := nI 8) hx hb dX1_bestPeriod_52 (by decide) ?_
              refine lv_iload hx hb dX1_bestPeriod_54 (lv_at hl 5 rfl) ?_
              refine n_imulc hx hb dX1_bestPeriod_56 ?_
              refine lv_iload hx hb dX1_bestPeriod_57 (lv_at hl 6 rfl) ?_
              refine n_iadd hx hb dX1_bestPeriod_59 ?_
              refine n_iald hx hb hK hP 1 0 rfl rfl (by omega) (by decide) dX1_bestPeriod_60 ?_
              refine lv_aload_n hx hb dX1_bestPeriod_61 rfl (lv_at hl 0 rfl) ?_
              refine lv_iload_n hx hb dX1_bestPeriod_62 rfl (lv_at hl 3 rfl) ?_
              refine lv_iload hx hb dX1_bestPeriod_63 (lv_at hl 5 rfl) ?_
              refine lv_iload hx hb dX1_bestPeriod_65 (lv_at hl 6 rfl) ?_
              refine mx_callV (As := [.int (nI (i + 1)), .int (nI f), .int (nI t)]) (rest := [.int (sB A (f * 8 + t)), .int (acc (acc2 (nI ((i + 1) * sF A)) (fun f t => fab (sB A (f * 8 + t) - fbg A (i + 1) f t)) (sT A) f) (fun t => fab (sB A (f * 8 + t) - fbg A (i + 1) f t)) t)]) ⟨hx, hb, hml, hown, hts⟩ (kX1_backgroundOf l D h cI cZ A M hI (i + 1) (f) (t) (by omega) (by omega) (by omega) (by omega)) (cwV 3 hts gX1_bestPeriod_X1_backgroundOf rfl rfl rfl (by decide +kernel) ⟨Nat.le_of_ble_eq_true rfl, Nat.le_of_ble_eq_true rfl⟩) hP hK hD hS (va_recv hK hP (ci := 1) (q0 := 0) rfl rfl) rfl hl.1 rfl (Nat.le_of_ble_eq_true rfl) dX1_bestPeriod_67 ⟨Nat.zero_le _, Nat.zero_le _⟩ (fun H locs M hP hS _ => ?_)
              have hP : va_P D vwCl (mw h cI cZ A M) H := hP
              have hD : va_D G (mw h cI cZ A M) := va_D.to hD rfl
              refine lv_isub hx hb dX1_bestPeriod_70 ?_
              refine ro_callS (As := [.int ((sB A (f * 8 + t)) - (fbg A (i + 1) f t))]) (rest := [.int (acc (acc2 (nI ((i + 1) * sF A)) (fun f t => fab (sB A (f * 8 + t) - fbg A (i + 1) f t)) (sT A) f) (fun t => fab (sB A (f * 8 + t) - fbg A (i + 1) f t)) t)]) ⟨hx, hb, hml, hown, hts⟩ (kX1_size l ((sB A (f * 8 + t)) - (fbg A (i + 1) f t))) (va_cwS 1 hts gX1_bestPeriod_X1_size rfl rfl rfl (by decide +kernel) ⟨Nat.le_of_ble_eq_true rfl, Nat.le_of_ble_eq_true rfl⟩) vT_bl vT_at rfl hl.1 rfl (Nat.le_of_ble_eq_true rfl) dX1_bestPeriod_71 ⟨Nat.zero_le _, Nat.zero_le _⟩ ?_
              refine lv_iadd hx hb dX1_bestPeriod_74 ?_
              refine lv_istore (lv' := [(4, .int ((acc (acc2 (nI ((i + 1) * sF A)) (fun f t => fab (sB A (f * 8 + t) - fbg A (i + 1) f t)) (sT A) f) (fun t => fab (sB A (f * 8 + t) - fbg A (i + 1) f t)) t) + (fab ((sB A (f * 8 + t)) - (fbg A (i + 1) f t))))), (0, .ref (h 0)), (1, .int (nI (fbp (fpr A) (i - 1)))), (2, .int (if i = 0 then (-1) else fpr A (fbp (fpr A) (i - 1)))), (3, .int (nI (i + 1))), (5, .int (nI f)), (6, .int (nI t))]) hx hb dX1_bestPeriod_75 hl (by decide) rfl (fun ls hl => ?_)
              refine lv_iinc (v := nI (t + 1)) (lv' := [(6, .int (nI (t + 1))), (4, .int ((acc (acc2 (nI ((i + 1) * sF A)) (fun f t => fab (sB A (f * 8 + t) - fbg A (i + 1) f t)) (sT A) f) (fun t => fab (sB A (f * 8 + t) - fbg A (i + 1) f t)) t) + (fab ((sB A (f * 8 + t)) - (fbg A (i + 1) f t))))), (0, .ref (h 0)), (1, .int (nI (fbp (fpr A) (i - 1)))), (2, .int (if i = 0 then (-1) else fpr A (fbp (fpr A) (i - 1)))), (3, .int (nI (i + 1))), (5, .int (nI f))]) hx hb dX1_bestPeriod_77 hl (k := 6) rfl (nI_inc _) (by decide) rfl (fun ls hl => ?_)
              refine lv_goto (tgt := 37) hx hb dX1_bestPeriod_80 (by decide) ?_
              exact ih37 (t + 1) (by omega) M H locs (hP) hS ls (lv_sub hl [2, 3, 4, 5, 1, 6, 0] rfl)
          exact lp37 (sT A) (0) (by omega) M H locs (hP) hS ls (lv_sub hl [1, 2, 3, 4, 5, 6, 0] rfl)
      exact lp25 (sF A) (0) (by omega) M H locs (hP) hS ls (lv_sub hl [2, 3, 4, 5, 1, 0] rfl)
  exact lp6 (sT A) (0) (by omega) M H locs (hP) hS ls (lv_sub hl [3, 2, 1, 0] rfl)
def rmX1_period : Room := { frames := 2, cells := 0, slots := 0, locals := 53 }
set_option maxHeartbeats 4000000 in
set_option maxRecDepth 100000 in
theorem kX1_period (l : Launch) (D : va_G) (h : Nat → Nat) (cI cZ : ClassId) (A : St) (M : Nat → Int32) (hI : Inv A) : MX l yX1_period wsX1_period rmX1_period [.ref (h 0)] D [(cI, .int), (cZ, .boolean)] (mw h cI cZ A M) (fun M => mw h cI cZ A M) (nI (fpe A)) := by
  refine mx_ofW (cc := cX1_period) (maxL := 1) (by decide) rfl (Nat.le_of_ble_eq_true rfl) ?_
  intro p e s m below meth c args Q G H locs hx hb hml hown hts hP hK hD hS hQ ls hl
  have hown : s.vm.findClass RX1 = some m.cls := hown
  have hin0 : ∀ w ∈ u_ws RX1 TX1 13, w ∈ wsX1_period := fun _ h => List.mem_cons_of_mem _ (List.mem_append_right _ h)
  have hl : lv_has ls 1 [(0, .ref (h 0))] := hl
  have hF := hI.F
  have hT := hI.T
  have hK3 := hI.K
  have hJ := hI.J
  have hZ := hI.Z
  refine lv_aload_n hx hb dX1_period_0 rfl (lv_at hl 0 rfl) ?_
  refine mx_callV (As := []) (rest := []) ⟨hx, hb, hml, hown, hts⟩ (kX1_bestPeriod l D h cI cZ A M hI) (cwV 0 hts gX1_period_X1_bestPeriod rfl rfl rfl (by decide +kernel) ⟨Nat.le_of_ble_eq_true rfl, Nat.le_of_ble_eq_true rfl⟩) hP hK hD hS (va_recv hK hP (ci := 1) (q0 := 0) rfl rfl) rfl hl.1 rfl (Nat.le_of_ble_eq_true rfl) dX1_period_1 ⟨Nat.zero_le _, Nat.zero_le _⟩ (fun H locs M hP hS _ => ?_)
  have hP : va_P D vwCl (mw h cI cZ A M) H := hP
  have hD : va_D G (mw h cI cZ A M) := va_D.to hD rfl
  exact hQ dX1_period_4 (rfl) (hP) hS
def rmX1_background : Room := { frames := 2, cells := 0, slots := 0, locals := 44 }
set_option maxHeartbeats 4000000 in
set_option maxRecDepth 100000 in
theorem kX1_background (l : Launch) (D : va_G) (h : Nat → Nat) (cI cZ : ClassId) (A : St) (M : Nat → Int32) (hI : Inv A) (q x y : Int32) : MX l yX1_background wsX1_background rmX1_background [.ref (h 0), .int q, .int x, .int y] D [(cI, .int), (cZ, .boolean)] (mw h cI cZ A M) (fun M => mw h cI cZ A M) (aBg A q x y) := by
  refine mx_ofW (cc := cX1_background) (maxL := 4) (by decide) rfl (Nat.le_of_ble_eq_true rfl) ?_
  intro p e s m below meth c args Q G H locs hx hb hml hown hts hP hK hD hS hQ ls hl
  have hown : s.vm.findClass RX1 = some m.cls := hown
  have hin0 : ∀ w ∈ u_ws RX1 TX1 13, w ∈ wsX1_background := fun _ h => List.mem_cons_of_mem _ (List.mem_append_right _ h)
  have hl : lv_has ls 4 [(0, .ref (h 0)), (1, .int q), (2, .int x), (3, .int y)] := hl
  have hF := hI.F
  have hT := hI.T
  have hK3 := hI.K
  have hJ := hI.J
  have hZ := hI.Z
  refine lv_iload_n hx hb dX1_background_0 rfl (lv_at hl 1 rfl) ?_
  refine lv_iconst (v := nI 1) hx hb dX1_background_1 (by decide) ?_
  refine lv_aload_n hx hb dX1_background_2 rfl (lv_at hl 0 rfl) ?_
  refine va_get (D := D) (ci := 1) (v := .int (nI (sT A))) (C := RX1) (T := TX1) (N := 13) hx hb hts hin0 hown hK hP 0 rfl rfl 1 (by decide) (hts (.fieldLink RX1 40 "VoicePartsModel" "times" "I") (by decide +kernel)) (fun _ h9 => h9) rfl dX1_background_3 ?_
  refine ro_callS (As := [.int q, .int (nI 1), .int (nI (sT A))]) (rest := []) ⟨hx, hb, hml, hown, hts⟩ (kX1_in l (q) (nI 1) (nI (sT A))) (va_cwS 3 hts gX1_background_X1_in rfl rfl rfl (by decide +kernel) ⟨Nat.le_of_ble_eq_true rfl, Nat.le_of_ble_eq_true rfl⟩) vT_bl vT_at rfl hl.1 rfl (Nat.le_of_ble_eq_true rfl) dX1_background_6 ⟨Nat.zero_le _, Nat.zero_le _⟩ ?_
  refine b_if_eq (tgt := 31) hx hb dX1_background_9 (by decide) (fun c_9 => ?_) (fun c_9 => ?_)
  · refine lv_iconst (v := (-1)) hx hb dX1_background_31 (by decide) ?_
    exact hQ dX1_background_32 (by unfold aBg; rw [if_neg (fun z => c_9 z.1)]) (hP) hS
  · refine lv_aload_n hx hb dX1_background_12 rfl (lv_at hl 0 rfl) ?_
    refine lv_iload_n hx hb dX1_background_13 rfl (lv_at hl 2 rfl) ?_
    refine lv_iload_n hx hb dX1_background_14 rfl (lv_at hl 3 rfl) ?_
    refine ro_callV (As := [.int x, .int y]) (rest := []) ⟨hx, hb, hml, hown, hts⟩ (kX1_isPlace l D h cI cZ A M  hI (x) (y)) (cwV 2 hts gX1_background_X1_isPlace rfl rfl rfl (by decide +kernel) ⟨Nat.le_of_ble_eq_true rfl, Nat.le_of_ble_eq_true rfl⟩) vB_bl (vB_at hP hK) (va_recv hK hP (ci := 1) (q0 := 0) rfl rfl) rfl hl.1 rfl (Nat.le_of_ble_eq_true rfl) dX1_background_15 ⟨Nat.zero_le _, Nat.zero_le _⟩ ?_
    refine b_if_eq (tgt := 31) hx hb dX1_background_18 (by decide) (fun c_18 => ?_) (fun c_18 => ?_)
    · refine lv_iconst (v := (-1)) hx hb dX1_background_31 (by decide) ?_
      exact hQ dX1_background_32 (by unfold aBg; rw [if_neg (fun z => c_18 z.2)]) (hP) hS
    · obtain ⟨g, hg, rfl⟩ := q1_of c_9 (by omega)
      obtain ⟨f, hf, rfl⟩ := iN_of (n := sF A) c_18.1 (by omega) (by omega)
      obtain ⟨t, ht, rfl⟩ := iN_of (n := sT A) c_18.2 (by omega) (by omega)
      refine lv_aload_n hx hb dX1_background_21 rfl (lv_at hl 0 rfl) ?_
      refine lv_iload_n hx hb dX1_background_22 rfl (lv_at hl 1 rfl) ?_
      refine lv_iload_n hx hb dX1_background_23 rfl (lv_at hl 2 rfl) ?_
      refine lv_iload_n hx hb dX1_background_24 rfl (lv_at hl 3 rfl) ?_
      refine mx_callV (As := [.int (nI g), .int (nI f), .int (nI t)]) (rest := []) ⟨hx, hb, hml, hown, hts⟩ (kX1_backgroundOf l D h cI cZ A M hI (g) (f) (t) (by omega) (by omega) (by omega) (by omega)) (cwV 3 hts gX1_background_X1_backgroundOf rfl rfl rfl (by decide +kernel) ⟨Nat.le_of_ble_eq_true rfl, Nat.le_of_ble_eq_true rfl⟩) hP hK hD hS (va_recv hK hP (ci := 1) (q0 := 0) rfl rfl) rfl hl.1 rfl (Nat.le_of_ble_eq_true rfl) dX1_background_25 ⟨Nat.zero_le _, Nat.zero_le _⟩ (fun H locs M hP hS _ => ?_)
      have hP : va_P D vwCl (mw h cI cZ A M) H := hP
      have hD : va_D G (mw h cI cZ A M) := va_D.to hD rfl
      refine lv_goto (tgt := 32) hx hb dX1_background_28 (by decide) ?_
      exact hQ dX1_background_32 (by unfold aBg; rw [if_pos ⟨c_9, c_18⟩, cl_nI (n := g) (by omega), cl_nI (n := f) (by omega), cl_nI (n := t) (by omega)]) (hP) hS
def rmX1_at : Room := { frames := 2, cells := 0, slots := 0, locals := 53 }
set_option maxHeartbeats 4000000 in
set_option maxRecDepth 100000 in
theorem kX1_at (l : Launch) (D : va_G) (h : Nat → Nat) (cI cZ : ClassId) (A : St) (M : Nat → Int32) (hI : Inv A) (x y u : Int32) : MX l yX1_at wsX1_at rmX1_at [.ref (h 0), .int x, .int y, .int u] D [(cI, .int), (cZ, .boolean)] (mw h cI cZ A M) (fun M => mw h cI cZ A M) (aAt A x y u) := by
  refine mx_ofW (cc := cX1_at) (maxL := 4) (by decide) rfl (Nat.le_of_ble_eq_true rfl) ?_
  intro p e s m below meth c args Q G H locs hx hb hml hown hts hP hK hD hS hQ ls hl
  have hown : s.vm.findClass RX1 = some m.cls := hown
  have hin0 : ∀ w ∈ u_ws RX1 TX1 13, w ∈ wsX1_at := fun _ h => List.mem_cons_of_mem _ (List.mem_append_right _ h)
  have hl : lv_has ls 4 [(0, .ref (h 0)), (1, .int x), (2, .int y), (3, .int u)] := hl
  have hF := hI.F
  have hT := hI.T
  have hK3 := hI.K
  have hJ := hI.J
  have hZ := hI.Z
  refine lv_aload_n hx hb dX1_at_0 rfl (lv_at hl 0 rfl) ?_
  refine lv_iload_n hx hb dX1_at_1 rfl (lv_at hl 1 rfl) ?_
  refine lv_iload_n hx hb dX1_at_2 rfl (lv_at hl 2 rfl) ?_
  refine ro_callV (As := [.int x, .int y]) (rest := []) ⟨hx, hb, hml, hown, hts⟩ (kX1_isPlace l D h cI cZ A M  hI (x) (y)) (cwV 2 hts gX1_at_X1_isPlace rfl rfl rfl (by decide +kernel) ⟨Nat.le_of_ble_eq_true rfl, Nat.le_of_ble_eq_true rfl⟩) vB_bl (vB_at hP hK) (va_recv hK hP (ci := 1) (q0 := 0) rfl rfl) rfl hl.1 rfl (Nat.le_of_ble_eq_true rfl) dX1_at_3 ⟨Nat.zero_le _, Nat.zero_le _⟩ ?_
  refine b_if_eq (tgt := 18) hx hb dX1_at_6 (by decide) (fun c_6 => ?_) (fun c_6 => ?_)
  · refine lv_iconst (v := (-1)) hx hb dX1_at_18 (by decide) ?_
    exact hQ dX1_at_19 (by unfold aAt; rw [if_neg (fun q => c_6 q.1)]) (hP) hS
  · refine lv_iload_n hx hb dX1_at_9 rfl (lv_at hl 3 rfl) ?_
    refine lv_iconst (v := nI 0) hx hb dX1_at_10 (by decide) ?_
    refine lv_iconst (v := nI 2) hx hb dX1_at_11 (by decide) ?_
    refine ro_callS (As := [.int u, .int (nI 0), .int (nI 2)]) (rest := []) ⟨hx, hb, hml, hown, hts⟩ (kX1_in l (u) (nI 0) (nI 2)) (va_cwS 3 hts gX1_at_X1_in rfl rfl rfl (by decide +kernel) ⟨Nat.le_of_ble_eq_true rfl, Nat.le_of_ble_eq_true rfl⟩) vT_bl vT_at rfl hl.1 rfl (Nat.le_of_ble_eq_true rfl) dX1_at_12 ⟨Nat.zero_le _, Nat.zero_le _⟩ ?_
    refine b_if_ne (tgt := 20) hx hb dX1_at_15 (by decide) (fun c_15 => ?_) (fun c_15 => ?_)
    · obtain ⟨f, hf, rfl⟩ := iN_of (n := sF A) c_6.1 (by omega) (by omega)
      obtain ⟨t, ht, rfl⟩ := iN_of (n := sT A) c_6.2 (by omega) (by omega)
      obtain ⟨g, hg, rfl⟩ := iN_of (n := 3) c_15 (by decide) (by decide)
      refine lv_iload_n hx hb dX1_at_20 rfl (lv_at hl 3 rfl) ?_
      refine n_if_ne (tgt := 38) hx hb (by omega) dX1_at_21 (by decide) (fun c_21 => ?_) (fun c_21 => ?_)
      · refine lv_iload_n hx hb dX1_at_38 rfl (lv_at hl 3 rfl) ?_
        refine lv_iconst (v := nI 1) hx hb dX1_at_39 (by decide) ?_
        refine n_icmp_ne (tgt := 52) hx hb (by omega) (by omega) dX1_at_40 (by decide) (fun c_40 => ?_) (fun c_40 => ?_)
        · refine lv_aload_n hx hb dX1_at_52 rfl (lv_at hl 0 rfl) ?_
          refine lv_aload_n hx hb dX1_at_53 rfl (lv_at hl 0 rfl) ?_
          refine mx_callV (As := []) (rest := [.ref (h 0)]) ⟨hx, hb, hml, hown, hts⟩ (kX1_bestPeriod l D h cI cZ A M hI) (cwV 0 hts gX1_at_X1_bestPeriod rfl rfl rfl (by decide +kernel) ⟨Nat.le_of_ble_eq_true rfl, Nat.le_of_ble_eq_true rfl⟩) hP hK hD hS (va_recv hK hP (ci := 1) (q0 := 0) rfl rfl) rfl hl.1 rfl (Nat.le_of_ble_eq_true rfl) dX1_at_54 ⟨Nat.zero_le _, Nat.zero_le _⟩ (fun H locs M hP hS _ => ?_)
          have hP : va_P D vwCl (mw h cI cZ A M) H := hP
          have hD : va_D G (mw h cI cZ A M) := va_D.to hD rfl
          have hpe : 1 ≤ fpe A ∧ fpe A ≤ sT A - 1 + 1 := fbp_in (fpr A) (sT A - 1)
          refine lv_iload_n hx hb dX1_at_57 rfl (lv_at hl 1 rfl) ?_
          refine lv_iload_n hx hb dX1_at_58 rfl (lv_at hl 2 rfl) ?_
          refine mx_callV (As := [.int (nI (fpe A)), .int (nI f), .int (nI t)]) (rest := []) ⟨hx, hb, hml, hown, hts⟩ (kX1_backgroundOf l D h cI cZ A M hI (fpe A) (f) (t) (by omega) (by omega) (by omega) (by omega)) (cwV 3 hts gX1_at_X1_backgroundOf rfl rfl rfl (by decide +kernel) ⟨Nat.le_of_ble_eq_true rfl, Nat.le_of_ble_eq_true rfl⟩) hP hK hD hS (va_recv hK hP (ci := 1) (q0 := 0) rfl rfl) rfl hl.1 rfl (Nat.le_of_ble_eq_true rfl) dX1_at_59 ⟨Nat.zero_le _, Nat.zero_le _⟩ (fun H locs M hP hS _ => ?_)
          have hP : va_P D vwCl (mw h cI cZ A M) H := hP
          have hD : va_D G (mw h cI cZ A M) := va_D.to hD rfl
          exact hQ dX1_at_62 (by unfold aAt; rw [if_pos ⟨c_6, c_15⟩, cl_nI (n := f) (by omega), cl_nI (n := t) (by omega), cl_nI (n := g) (by omega)]; unfold fAt; rw [if_neg c_21, if_neg c_40]) (hP) hS
        · refine lv_aload_n hx hb dX1_at_43 rfl (lv_at hl 0 rfl) ?_
          refine lv_iload_n hx hb dX1_at_44 rfl (lv_at hl 1 rfl) ?_
          refine lv_iload_n hx hb dX1_at_45 rfl (lv_at hl 2 rfl) ?_
          refine ro_callV (As := [.int (nI f), .int (nI t)]) (rest := []) ⟨hx, hb, hml, hown, hts⟩ (kX1_sumAt l D h cI cZ A M  hI (f) (t) (by omega) (by omega)) (cwV 2 hts gX1_at_X1_sumAt rfl rfl rfl (by decide +kernel) ⟨Nat.le_of_ble_eq_true rfl, Nat.le_of_ble_eq_true rfl⟩) vB_bl (vB_at hP hK) (va_recv hK hP (ci := 1) (q0 := 0) rfl rfl) rfl hl.1 rfl (Nat.le_of_ble_eq_true rfl) dX1_at_46 ⟨Nat.zero_le _, Nat.zero_le _⟩ ?_
          refine lv_goto (tgt := 62) hx hb dX1_at_49 (by decide) ?_
          exact hQ dX1_at_62 (by unfold aAt; rw [if_pos ⟨c_6, c_15⟩, cl_nI (n := f) (by omega), cl_nI (n := t) (by omega), cl_nI (n := g) (by omega)]; unfold fAt; rw [if_neg c_21, if_pos c_40]) (hP) hS
      · refine lv_aload_n hx hb dX1_at_24 rfl (lv_at hl 0 rfl) ?_
        refine va_get (D := D) (ci := 1) (v := .ref (h 1)) (C := RX1) (T := TX1) (N := 13) hx hb hts hin0 hown hK hP 0 rfl rfl 3 (by decide) (hts (.fieldLink RX1 7 "VoicePartsModel" "board" "[I") (by decide +kernel)) (fun _ h9 => h9) rfl dX1_at_25 ?_
        refine lv_bipush (v := nI 8) hx hb dX1_at_28 (by decide) ?_
        refine lv_iload_n hx hb dX1_at_30 rfl (lv_at hl 1 rfl) ?_
        refine n_imulc hx hb dX1_at_31 ?_
        refine lv_iload_n hx hb dX1_at_32 rfl (lv_at hl 2 rfl) ?_
        refine n_iadd hx hb dX1_at_33 ?_
        refine n_iald hx hb hK hP 1 0 rfl rfl (by omega) (by decide) dX1_at_34 ?_
        refine lv_goto (tgt := 62) hx hb dX1_at_35 (by decide) ?_
        exact hQ dX1_at_62 (by unfold aAt; rw [if_pos ⟨c_6, c_15⟩, cl_nI (n := f) (by omega), cl_nI (n := t) (by omega), cl_nI (n := g) (by omega)]; unfold fAt; rw [if_pos c_21]) (hP) hS
    · refine lv_iconst (v := (-1)) hx hb dX1_at_18 (by decide) ?_
      exact hQ dX1_at_19 (by unfold aAt; rw [if_neg (fun q => c_15 q.2)]) (hP) hS
