theorem ins_at {g M M1 : Nat → Int32} {n a : Nat} {v : Int32} (e : M1 = upd M a v) (hp : pos g v n = a) (hlo : ∀ i, i < a → M i = g i) (hhi : ∀ i, a < i → i ≤ n → M i = g (i - 1)) : ∀ i, i < n + 1 → M1 i = ins g n v i := by
  intro i hi
  rw [e]
  unfold upd ins
  rw [hp]
  by_cases z : i = a
  · rw [if_pos z, if_neg (by omega), if_pos z]
  · rw [if_neg z]
    by_cases y : i < a
    · rw [if_pos y]; exact hlo i y
    · rw [if_neg y, if_neg z]; exact hhi i (by omega) (by omega)
theorem sh_at {g M M1 : Nat → Int32} {n a : Nat} (e : M1 = upd M (a + 1) (g a)) (hhi : ∀ i, a + 1 < i → i ≤ n → M i = g (i - 1)) : ∀ i, a < i → i ≤ n → M1 i = g (i - 1) := by
  intro i h1 h2
  rw [e]
  unfold upd
  by_cases z : i = a + 1
  · rw [if_pos z, z]; rfl
  · rw [if_neg z]; exact hhi i (by omega) h2
def rmX1_backgroundOf : Room := { frames := 0, cells := 0, slots := 0, locals := 0 }
set_option maxHeartbeats 4000000 in
set_option maxRecDepth 100000 in
theorem kX1_backgroundOf (l : Launch) (D : va_G) (h : Nat → Nat) (cI cZ : ClassId) (A : St) (M : Nat → Int32) (hI : Inv A) (q f t : Nat) (hq : 0 < q) (hq9 : q < 9) (hf : f < 6) (ht : t < sT A) : MX l yX1_backgroundOf wsX1_backgroundOf rmX1_backgroundOf [.ref (h 0), .int (nI q), .int (nI f), .int (nI t)] D [(cI, .int), (cZ, .boolean)] (mw h cI cZ A M) (fun M => mw h cI cZ A M) (fbg A q f t) := by
  refine mx_ofW (cc := cX1_backgroundOf) (maxL := 8) (by decide) rfl (Nat.le_of_ble_eq_true rfl) ?_
  intro p e s m below meth c args Q G H locs hx hb hml hown hts hP hK hD hS hQ ls hl
  have hown : s.vm.findClass RX1 = some m.cls := hown
  have hin0 : ∀ w ∈ u_ws RX1 TX1 13, w ∈ wsX1_backgroundOf := fun _ h => List.mem_cons_of_mem _ (List.mem_append_right _ h)
  have hl : lv_has ls 8 [(0, .ref (h 0)), (1, .int (nI q)), (2, .int (nI f)), (3, .int (nI t))] := hl
  have hT := hI.T
  have lpO : ∀ (fu o n : Nat) (g M : Nat → Int32) (H : Heap) (locs : List Loc), sT A ≤ o + fu → o < 32 → o % q = t % q → sg A q f t (min o (sT A)) = (n, g) → (∀ i, i < n → M i = g i) → va_P D vwCl (mw h cI cZ A M) H → va_S G s.heap H locs → ∀ (ls : Array Slot), lv_has ls 8 [(0, .ref (h 0)), (1, .int (nI q)), (2, .int (nI f)), (3, .int (nI t)), (4, .int (nI n)), (5, .int (nI o))] → W p l e rmX1_backgroundOf s m args below meth c H locs 0 0 Q (F0 m 8 ls []) := by
    intro fu
    induction fu with
    | zero =>
      intro o n g M H locs hfu ho32 hom hsg hM hP hS ls hl
      have hD : va_D G (mw h cI cZ A M) := va_D.to hD rfl
      have e1 : sg A q f t (sT A) = (n, g) := by rw [min_T (by omega)] at hsg; exact hsg
      have e2 : n = cnt (fis q t) (sT A) := by have z := (sg_all A q f t (sT A)).1; rw [e1] at z; exact z
      have hn1 : 1 ≤ n := by rw [e2]; exact cnt_pos (j := t) (show _ = true from decide_eq_true rfl) ht
      have hn8 : n ≤ 8 := by have z := cnt_le (fis q t) (sT A); omega
      refine lv_iload hx hb dX1_backgroundOf_8 (lv_at hl 5 rfl) ?_
      refine lv_aload_n hx hb dX1_backgroundOf_10 rfl (lv_at hl 0 rfl) ?_
      refine va_get (D := D) (ci := 1) (v := .int (nI (sT A))) (C := RX1) (T := TX1) (N := 13) hx hb hts hin0 hown hK hP 0 rfl rfl 1 (by decide) (hts (.fieldLink RX1 40 "VoicePartsModel" "times" "I") (by decide +kernel)) (fun _ h9 => h9) rfl dX1_backgroundOf_11 ?_
      refine n_icmp_ge (tgt := 97) hx hb (by omega) (by omega) dX1_backgroundOf_14 (by decide) (fun c_14 => ?_) (fun c_14 => by exfalso; omega)
      refine lv_aload_n hx hb dX1_backgroundOf_97 rfl (lv_at hl 0 rfl) ?_
      refine va_get (D := D) (ci := 1) (v := .ref (h 7)) (C := RX1) (T := TX1) (N := 13) hx hb hts hin0 hown hK hP 0 rfl rfl 12 (by decide) (hts (.fieldLink RX1 29 "VoicePartsModel" "middle" "[I") (by decide +kernel)) (fun _ h9 => h9) rfl dX1_backgroundOf_98 ?_
      refine lv_iload hx hb dX1_backgroundOf_101 (lv_at hl 4 rfl) ?_
      refine lv_iconst (v := nI 1) hx hb dX1_backgroundOf_103 (by decide) ?_
      refine n_isub hx hb (hn1) dX1_backgroundOf_104 ?_
      refine lv_iconst (v := nI 2) hx hb dX1_backgroundOf_105 (by decide) ?_
      refine lv_idiv hx hb dX1_backgroundOf_106 (by decide) ?_
      refine n_top (y := nI ((n - 1) / 2)) (pk_div (by omega) (by decide) (by decide)) ?_
      refine n_iald hx hb hK hP 7 0 rfl rfl (by omega) (by decide) dX1_backgroundOf_107 ?_
      exact hQ dX1_backgroundOf_108 (by rw [hM _ (by omega), ← med_eq ht]; show g ((n - 1) / 2) = (sg A q f t (sT A)).2 ((cnt (fis q t) (sT A) - 1) / 2); rw [e1, ← e2]) (hP) hS
    | succ fu ih =>
      intro o n g M H locs hfu ho32 hom hsg hM hP hS ls hl
      have hD : va_D G (mw h cI cZ A M) := va_D.to hD rfl
      by_cases hoT : o < sT A
      · have e1 : sg A q f t o = (n, g) := by rw [min_o hoT] at hsg; exact hsg
        have hn8 : n < 8 := by have z := (sg_all A q f t o).1; rw [e1] at z; have y := cnt_le (fis q t) o; have z : n = cnt (fis q t) o := z; omega
        have hex : ∀ (a : Nat) (M : Nat → Int32) (H : Heap) (locs : List Loc) (ls : Array Slot), a ≤ n → pos g (sB A (f * 8 + o)) n = a → (∀ i, i < a → M i = g i) → (∀ i, a < i → i ≤ n → M i = g (i - 1)) → va_P D vwCl (mw h cI cZ A M) H → va_S G s.heap H locs → lv_has ls 8 [(0, .ref (h 0)), (1, .int (nI q)), (2, .int (nI f)), (3, .int (nI t)), (4, .int (nI n)), (5, .int (nI o)), (6, .int (sB A (f * 8 + o))), (7, .int (nI a))] → W p l e rmX1_backgroundOf s m args below meth c H locs 0 0 Q (F0 m 76 ls []) := by
          intro a M H locs ls ha hp hlo hhi hP hS hl
          have hD : va_D G (mw h cI cZ A M) := va_D.to hD rfl
          refine lv_aload_n hx hb dX1_backgroundOf_76 rfl (lv_at hl 0 rfl) ?_
          refine va_get (D := D) (ci := 1) (v := .ref (h 7)) (C := RX1) (T := TX1) (N := 13) hx hb hts hin0 hown hK hP 0 rfl rfl 12 (by decide) (hts (.fieldLink RX1 29 "VoicePartsModel" "middle" "[I") (by decide +kernel)) (fun _ h9 => h9) rfl dX1_backgroundOf_77 ?_
          refine lv_iload hx hb dX1_backgroundOf_80 (lv_at hl 7 rfl) ?_
          refine lv_iload hx hb dX1_backgroundOf_82 (lv_at hl 6 rfl) ?_
          refine n_iast hx hb hK hP hD hS 7 0 rfl rfl (by omega) (by decide) dX1_backgroundOf_84 (fun H locs hP hD hS => ?_)
          obtain ⟨M1, eM1⟩ : ∃ z : Nat → Int32, z = upd M (a) (sB A (f * 8 + o)) := ⟨_, rfl⟩
          have hP : va_P D vwCl (mw h cI cZ A M1) H := by rw [eM1]; exact hP
          have hD : va_D G (mw h cI cZ A M1) := va_D.to hD rfl
          refine lv_iinc (v := nI (n + 1)) (lv' := [(4, .int (nI (n + 1))), (0, .ref (h 0)), (1, .int (nI q)), (2, .int (nI f)), (3, .int (nI t)), (5, .int (nI o)), (6, .int (sB A (f * 8 + o))), (7, .int (nI a))]) hx hb dX1_backgroundOf_85 hl (k := 4) rfl (nI_inc _) (by decide) rfl (fun ls hl => ?_)
          refine lv_iload hx hb dX1_backgroundOf_88 (lv_at hl 5 rfl) ?_
          refine lv_iload_n hx hb dX1_backgroundOf_90 rfl (lv_at hl 2 rfl) ?_
          refine n_iadd hx hb dX1_backgroundOf_91 ?_
          refine lv_istore (lv' := [(5, .int (nI (o + q))), (4, .int (nI (n + 1))), (0, .ref (h 0)), (1, .int (nI q)), (2, .int (nI f)), (3, .int (nI t)), (6, .int (sB A (f * 8 + o))), (7, .int (nI a))]) hx hb dX1_backgroundOf_92 hl (by decide) rfl (fun ls hl => ?_)
          refine lv_goto (tgt := 8) hx hb dX1_backgroundOf_94 (by decide) ?_
          exact ih (o + q) (n + 1) (ins g n (sB A (f * 8 + o))) M1 H locs (by omega) (by omega) (by rw [Nat.add_mod_right]; exact hom) (by rw [sg_step hq hom hoT, e1]) (ins_at (a := a) (by rw [eM1]) hp hlo hhi) hP hS ls (lv_sub hl [2, 3, 4, 5, 1, 0] rfl)
        have hin : ∀ (a : Nat) (M : Nat → Int32) (H : Heap) (locs : List Loc) (ls : Array Slot), a ≤ n → pos g (sB A (f * 8 + o)) n = pos g (sB A (f * 8 + o)) a → (∀ i, i < a → M i = g i) → (∀ i, a < i → i ≤ n → M i = g (i - 1)) → va_P D vwCl (mw h cI cZ A M) H → va_S G s.heap H locs → lv_has ls 8 [(0, .ref (h 0)), (1, .int (nI q)), (2, .int (nI f)), (3, .int (nI t)), (4, .int (nI n)), (5, .int (nI o)), (6, .int (sB A (f * 8 + o))), (7, .int (nI a))] → W p l e rmX1_backgroundOf s m args below meth c H locs 0 0 Q (F0 m 35 ls []) := by
          intro a
          induction a with
          | zero =>
            intro M H locs ls ha hp hlo hhi hP hS hl
            refine lv_iload hx hb dX1_backgroundOf_35 (lv_at hl 7 rfl) ?_
            refine n_if_le (tgt := 76) hx hb (by omega) dX1_backgroundOf_37 (by decide) (fun c_37 => ?_) (fun c_37 => by exfalso; omega)
            exact hex 0 M H locs ls ha hp hlo hhi hP hS (lv_sub hl [0, 1, 2, 3, 4, 5, 6, 7] rfl)
          | succ a iha =>
            intro M H locs ls ha hp hlo hhi hP hS hl
            have hD : va_D G (mw h cI cZ A M) := va_D.to hD rfl
            refine lv_iload hx hb dX1_backgroundOf_35 (lv_at hl 7 rfl) ?_
            refine n_if_le (tgt := 76) hx hb (by omega) dX1_backgroundOf_37 (by decide) (fun c_37 => by exfalso; omega) (fun c_37 => ?_)
            refine lv_aload_n hx hb dX1_backgroundOf_40 rfl (lv_at hl 0 rfl) ?_
            refine va_get (D := D) (ci := 1) (v := .ref (h 7)) (C := RX1) (T := TX1) (N := 13) hx hb hts hin0 hown hK hP 0 rfl rfl 12 (by decide) (hts (.fieldLink RX1 29 "VoicePartsModel" "middle" "[I") (by decide +kernel)) (fun _ h9 => h9) rfl dX1_backgroundOf_41 ?_
            refine lv_iload hx hb dX1_backgroundOf_44 (lv_at hl 7 rfl) ?_
            refine lv_iconst (v := nI 1) hx hb dX1_backgroundOf_46 (by decide) ?_
            refine n_isub hx hb (by omega) dX1_backgroundOf_47 ?_
            refine n_top (y := nI a) (rfl) ?_
            refine n_iald hx hb hK hP 7 0 rfl rfl (by omega) (by decide) dX1_backgroundOf_48 ?_
            refine n_top (y := g a) (hlo a (by omega)) ?_
            refine lv_iload hx hb dX1_backgroundOf_49 (lv_at hl 6 rfl) ?_
            refine lv_icmp_le (tgt := 76) hx hb dX1_backgroundOf_51 (by decide) (fun c_51 => ?_) (fun c_51 => ?_)
            · exact hex (a + 1) M H locs ls ha (hp.trans (show pos g (sB A (f * 8 + o)) (a + 1) = a + 1 from if_neg (Int32.not_lt.mpr c_51))) hlo hhi hP hS (lv_sub hl [0, 1, 2, 3, 4, 5, 6, 7] rfl)
            · refine lv_aload_n hx hb dX1_backgroundOf_54 rfl (lv_at hl 0 rfl) ?_
              refine va_get (D := D) (ci := 1) (v := .ref (h 7)) (C := RX1) (T := TX1) (N := 13) hx hb hts hin0 hown hK hP 0 rfl rfl 12 (by decide) (hts (.fieldLink RX1 29 "VoicePartsModel" "middle" "[I") (by decide +kernel)) (fun _ h9 => h9) rfl dX1_backgroundOf_55 ?_
              refine lv_iload hx hb dX1_backgroundOf_58 (lv_at hl 7 rfl) ?_
              refine lv_aload_n hx hb dX1_backgroundOf_60 rfl (lv_at hl 0 rfl) ?_
              refine va_get (D := D) (ci := 1) (v := .ref (h 7)) (C := RX1) (T := TX1) (N := 13) hx hb hts hin0 hown hK hP 0 rfl rfl 12 (by decide) (hts (.fieldLink RX1 29 "VoicePartsModel" "middle" "[I") (by decide +kernel)) (fun _ h9 => h9) rfl dX1_backgroundOf_61 ?_
              refine lv_iload hx hb dX1_backgroundOf_64 (lv_at hl 7 rfl) ?_
              refine lv_iconst (v := nI 1) hx hb dX1_backgroundOf_66 (by decide) ?_
              refine n_isub hx hb (by omega) dX1_backgroundOf_67 ?_
              refine n_top (y := nI a) (rfl) ?_
              refine n_iald hx hb hK hP 7 0 rfl rfl (by omega) (by decide) dX1_backgroundOf_68 ?_
              refine n_top (y := g a) (hlo a (by omega)) ?_
              refine n_iast hx hb hK hP hD hS 7 0 rfl rfl (by omega) (by decide) dX1_backgroundOf_69 (fun H locs hP hD hS => ?_)
              obtain ⟨M2, eM2⟩ : ∃ z : Nat → Int32, z = upd M (a + 1) (g a) := ⟨_, rfl⟩
              have hP : va_P D vwCl (mw h cI cZ A M2) H := by rw [eM2]; exact hP
              have hD : va_D G (mw h cI cZ A M2) := va_D.to hD rfl
              refine lv_iinc (v := nI a) (lv' := [(7, .int (nI a)), (0, .ref (h 0)), (1, .int (nI q)), (2, .int (nI f)), (3, .int (nI t)), (4, .int (nI n)), (5, .int (nI o)), (6, .int (sB A (f * 8 + o)))]) hx hb dX1_backgroundOf_70 hl (k := 7) rfl (pk_m1 a) (by decide) rfl (fun ls hl => ?_)
              refine lv_goto (tgt := 35) hx hb dX1_backgroundOf_73 (by decide) ?_
              exact iha M2 H locs ls (by omega) (hp.trans (show pos g (sB A (f * 8 + o)) (a + 1) = pos g (sB A (f * 8 + o)) a from if_pos (Int32.not_le.mp c_51))) (fun i hi => by rw [eM2]; unfold upd; rw [if_neg (by omega)]; exact hlo i (by omega)) (sh_at (a := a) (by rw [eM2]) hhi) hP hS (lv_sub hl [1, 2, 3, 4, 5, 6, 7, 0] rfl)
        refine lv_iload hx hb dX1_backgroundOf_8 (lv_at hl 5 rfl) ?_
        refine lv_aload_n hx hb dX1_backgroundOf_10 rfl (lv_at hl 0 rfl) ?_
        refine va_get (D := D) (ci := 1) (v := .int (nI (sT A))) (C := RX1) (T := TX1) (N := 13) hx hb hts hin0 hown hK hP 0 rfl rfl 1 (by decide) (hts (.fieldLink RX1 40 "VoicePartsModel" "times" "I") (by decide +kernel)) (fun _ h9 => h9) rfl dX1_backgroundOf_11 ?_
        refine n_icmp_ge (tgt := 97) hx hb (by omega) (by omega) dX1_backgroundOf_14 (by decide) (fun c_14 => by exfalso; omega) (fun c_14 => ?_)
        refine lv_aload_n hx hb dX1_backgroundOf_17 rfl (lv_at hl 0 rfl) ?_
        refine va_get (D := D) (ci := 1) (v := .ref (h 1)) (C := RX1) (T := TX1) (N := 13) hx hb hts hin0 hown hK hP 0 rfl rfl 3 (by decide) (hts (.fieldLink RX1 7 "VoicePartsModel" "board" "[I") (by decide +kernel)) (fun _ h9 => h9) rfl dX1_backgroundOf_18 ?_
        refine lv_bipush (v := nI 8) hx hb dX1_backgroundOf_21 (by decide) ?_
        refine lv_iload_n hx hb dX1_backgroundOf_23 rfl (lv_at hl 2 rfl) ?_
        refine n_imulc hx hb dX1_backgroundOf_24 ?_
        refine lv_iload hx hb dX1_backgroundOf_25 (lv_at hl 5 rfl) ?_
        refine n_iadd hx hb dX1_backgroundOf_27 ?_
        refine n_iald hx hb hK hP 1 0 rfl rfl (by omega) (by decide) dX1_backgroundOf_28 ?_
        refine lv_istore (lv' := [(6, .int (sB A (f * 8 + o))), (0, .ref (h 0)), (1, .int (nI q)), (2, .int (nI f)), (3, .int (nI t)), (4, .int (nI n)), (5, .int (nI o))]) hx hb dX1_backgroundOf_29 hl (by decide) rfl (fun ls hl => ?_)
        refine lv_iload hx hb dX1_backgroundOf_31 (lv_at hl 5 rfl) ?_
        refine lv_istore (lv' := [(7, .int (nI n)), (6, .int (sB A (f * 8 + o))), (0, .ref (h 0)), (1, .int (nI q)), (2, .int (nI f)), (3, .int (nI t)), (4, .int (nI n)), (5, .int (nI o))]) hx hb dX1_backgroundOf_33 hl (by decide) rfl (fun ls hl => ?_)
        exact hin n M H locs ls (Nat.le_refl n) rfl hM (fun i h1 h2 => absurd h1 (by omega)) hP hS (lv_sub hl [2, 3, 4, 5, 6, 7, 1, 0] rfl)
      · have e1 : sg A q f t (sT A) = (n, g) := by rw [min_T (by omega)] at hsg; exact hsg
        have e2 : n = cnt (fis q t) (sT A) := by have z := (sg_all A q f t (sT A)).1; rw [e1] at z; exact z
        have hn1 : 1 ≤ n := by rw [e2]; exact cnt_pos (j := t) (show _ = true from decide_eq_true rfl) ht
        have hn8 : n ≤ 8 := by have z := cnt_le (fis q t) (sT A); omega
        refine lv_iload hx hb dX1_backgroundOf_8 (lv_at hl 5 rfl) ?_
        refine lv_aload_n hx hb dX1_backgroundOf_10 rfl (lv_at hl 0 rfl) ?_
        refine va_get (D := D) (ci := 1) (v := .int (nI (sT A))) (C := RX1) (T := TX1) (N := 13) hx hb hts hin0 hown hK hP 0 rfl rfl 1 (by decide) (hts (.fieldLink RX1 40 "VoicePartsModel" "times" "I") (by decide +kernel)) (fun _ h9 => h9) rfl dX1_backgroundOf_11 ?_
        refine n_icmp_ge (tgt := 97) hx hb (by omega) (by omega) dX1_backgroundOf_14 (by decide) (fun c_14 => ?_) (fun c_14 => by exfalso; omega)
        refine lv_aload_n hx hb dX1_backgroundOf_97 rfl (lv_at hl 0 rfl) ?_
        refine va_get (D := D) (ci := 1) (v := .ref (h 7)) (C := RX1) (T := TX1) (N := 13) hx hb hts hin0 hown hK hP 0 rfl rfl 12 (by decide) (hts (.fieldLink RX1 29 "VoicePartsModel" "middle" "[I") (by decide +kernel)) (fun _ h9 => h9) rfl dX1_backgroundOf_98 ?_
        refine lv_iload hx hb dX1_backgroundOf_101 (lv_at hl 4 rfl) ?_
        refine lv_iconst (v := nI 1) hx hb dX1_backgroundOf_103 (by decide) ?_
        refine n_isub hx hb (hn1) dX1_backgroundOf_104 ?_
        refine lv_iconst (v := nI 2) hx hb dX1_backgroundOf_105 (by decide) ?_
        refine lv_idiv hx hb dX1_backgroundOf_106 (by decide) ?_
        refine n_top (y := nI ((n - 1) / 2)) (pk_div (by omega) (by decide) (by decide)) ?_
        refine n_iald hx hb hK hP 7 0 rfl rfl (by omega) (by decide) dX1_backgroundOf_107 ?_
        exact hQ dX1_backgroundOf_108 (by rw [hM _ (by omega), ← med_eq ht]; show g ((n - 1) / 2) = (sg A q f t (sT A)).2 ((cnt (fis q t) (sT A) - 1) / 2); rw [e1, ← e2]) (hP) hS
  refine lv_iconst (v := nI 0) hx hb dX1_backgroundOf_0 (by decide) ?_
  refine lv_istore (lv' := [(4, .int (nI 0)), (0, .ref (h 0)), (1, .int (nI q)), (2, .int (nI f)), (3, .int (nI t))]) hx hb dX1_backgroundOf_1 hl (by decide) rfl (fun ls hl => ?_)
  refine lv_iload_n hx hb dX1_backgroundOf_3 rfl (lv_at hl 4 rfl) ?_
  refine lv_iload_n hx hb dX1_backgroundOf_4 rfl (lv_at hl 2 rfl) ?_
  refine lv_irem hx hb dX1_backgroundOf_5 (fun z => by have z2 := (nI_eq (a := q) (b := 0) (by omega) (by decide)).mp z; omega) ?_
  refine n_top (y := nI (t % q)) (pk_rem (by omega) hq (by omega)) ?_
  refine lv_istore (lv' := [(5, .int (nI (t % q))), (4, .int (nI 0)), (0, .ref (h 0)), (1, .int (nI q)), (2, .int (nI f)), (3, .int (nI t))]) hx hb dX1_backgroundOf_6 hl (by decide) rfl (fun ls hl => ?_)
  exact lpO (sT A) (t % q) 0 (fun _ => 0) M H locs (by omega) (by have z := Nat.mod_le t q; omega) (Nat.mod_mod t q) (by rw [min_o (by have z := Nat.mod_le t q; omega), sg_none hq _ (Nat.le_refl _)]) (fun i hi => absurd hi (Nat.not_lt_zero i)) hP hS ls (lv_sub hl [2, 3, 4, 5, 1, 0] rfl)
