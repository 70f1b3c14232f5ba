set_option maxHeartbeats 4000000 in
set_option maxRecDepth 100000 in
theorem lc_later {p : Program} {l : Launch} {e : Env} {s : State} {m : MethodId} {below : List Frame} {meth : Method} {c : Code} {b L : Nat} {xs : Nat → Int32} {t : Nat → Nat} {D : va_G} {h : Nat → Nat} {cI : ClassId} {g : Nat → Nat} {cJ cZ : ClassId} {Q : State → Prop} {H : Heap} {locs : List Loc} {A : St} {M : Nat → Int32} {ls : Array Slot} {i : Nat} (C : LwC p s m c b L xs t D h cI g cJ cZ) (S : LwS s D h cI g cJ cZ A M H locs) (hi : i + 5 ≤ L) (hl : lv_has ls 4 [(0, .ref b), (1, .ref (h 0)), (2, .ref (g 0)), (3, .int (nI i))]) (k : ∀ (A : St) (M : Nat → Int32) (H : Heap) (locs : List Loc), LwS s D h cI g cJ cZ A M H locs → W p l e room_1 s m #[Value.ref b] below meth c H locs 14 591 Q (F0 m 823 ls [])) : W p l e room_1 s m #[Value.ref b] below meth c H locs 14 591 Q (F0 m 651 ls []) := by
  obtain ⟨hx, hb, hml, hown, hts, hX, hbl, hST, hK, hK2, hap, hL⟩ := C
  obtain ⟨hI, hP, hD, hP2, hD2, hS⟩ := S
  have hbA : ¬ (fun q : Nat => s.heap.size ≤ q) b := Nat.not_le.mpr hbl
  refine lv_aload_n hx hb dL_law_651 rfl (lv_at hl 1 rfl) ?_
  refine ro_callV (As := []) (rest := []) ⟨hx, hb, hml, hown, hts⟩ (kX0_later l D h cI A hI) (cwV 0 hts gL_law_X0_later rfl rfl rfl (by decide +kernel) ⟨Nat.le_of_ble_eq_true rfl, Nat.le_of_ble_eq_true rfl⟩) vB_bl (vB_at hP hK) (va_recv hK hP (ci := 0) (q0 := 0) rfl rfl) rfl hl.1 rfl (Nat.le_of_ble_eq_true rfl) dL_law_652 ⟨Nat.le_of_ble_eq_true rfl, Nat.le_of_ble_eq_true rfl⟩ ?_
  refine lv_aload_n hx hb dL_law_655 rfl (lv_at hl 2 rfl) ?_
  refine ro_callV (As := []) (rest := [.int (aLa A)]) ⟨hx, hb, hml, hown, hts⟩ (kX1_later l D g cJ cZ A M hI) (cwV 0 hts gL_law_X1_later rfl rfl rfl (by decide +kernel) ⟨Nat.le_of_ble_eq_true rfl, Nat.le_of_ble_eq_true rfl⟩) vB_bl (vB_at hP2 hK2) (va_recv hK2 hP2 (ci := 1) (q0 := 0) rfl rfl) rfl hl.1 rfl (Nat.le_of_ble_eq_true rfl) dL_law_656 ⟨Nat.le_of_ble_eq_true rfl, Nat.le_of_ble_eq_true rfl⟩ ?_
  exact lv_icmp_eq (tgt := 823) hx hb dL_law_659 (by decide) (fun _ => k A M H locs ⟨hI, hP, hD, hP2, hD2.to rfl, hS⟩) (fun q => absurd (later_same A).symm q)
set_option maxHeartbeats 4000000 in
set_option maxRecDepth 100000 in
theorem lc_turned {p : Program} {l : Launch} {e : Env} {s : State} {m : MethodId} {below : List Frame} {meth : Method} {c : Code} {b L : Nat} {xs : Nat → Int32} {t : Nat → Nat} {D : va_G} {h : Nat → Nat} {cI : ClassId} {g : Nat → Nat} {cJ cZ : ClassId} {Q : State → Prop} {H : Heap} {locs : List Loc} {A : St} {M : Nat → Int32} {ls : Array Slot} {i : Nat} (C : LwC p s m c b L xs t D h cI g cJ cZ) (S : LwS s D h cI g cJ cZ A M H locs) (hi : i + 5 ≤ L) (hl : lv_has ls 4 [(0, .ref b), (1, .ref (h 0)), (2, .ref (g 0)), (3, .int (nI i))]) (k : ∀ (A : St) (M : Nat → Int32) (H : Heap) (locs : List Loc), LwS s D h cI g cJ cZ A M H locs → W p l e room_1 s m #[Value.ref b] below meth c H locs 14 591 Q (F0 m 823 ls [])) : W p l e room_1 s m #[Value.ref b] below meth c H locs 14 591 Q (F0 m 664 ls []) := by
  obtain ⟨hx, hb, hml, hown, hts, hX, hbl, hST, hK, hK2, hap, hL⟩ := C
  obtain ⟨hI, hP, hD, hP2, hD2, hS⟩ := S
  have hbA : ¬ (fun q : Nat => s.heap.size ≤ q) b := Nat.not_le.mpr hbl
  refine lv_aload_n hx hb dL_law_664 rfl (lv_at hl 1 rfl) ?_
  refine n_arg hx hb hX hbl hbA hS 1 (lv_at hl 0 rfl) (lv_at hl 3 rfl) (by omega) (by omega) dL_law_665 dL_law_666 dL_law_667 (by decide) dL_law_668 dL_law_669 ?_
  refine n_arg hx hb hX hbl hbA hS 2 (lv_at hl 0 rfl) (lv_at hl 3 rfl) (by omega) (by omega) dL_law_670 dL_law_671 dL_law_672 (by decide) dL_law_673 dL_law_674 ?_
  refine ro_callV (As := [.int (xs (i + 1)), .int (xs (i + 2))]) (rest := []) ⟨hx, hb, hml, hown, hts⟩ (kX0_turned l D h cI A hI (xs (i + 1)) (xs (i + 2))) (cwV 2 hts gL_law_X0_turned rfl rfl rfl (by decide +kernel) ⟨Nat.le_of_ble_eq_true rfl, Nat.le_of_ble_eq_true rfl⟩) vB_bl (vB_at hP hK) (va_recv hK hP (ci := 0) (q0 := 0) rfl rfl) rfl hl.1 rfl (Nat.le_of_ble_eq_true rfl) dL_law_675 ⟨Nat.le_of_ble_eq_true rfl, Nat.le_of_ble_eq_true rfl⟩ ?_
  refine lv_aload_n hx hb dL_law_678 rfl (lv_at hl 2 rfl) ?_
  refine n_arg hx hb hX hbl hbA hS 1 (lv_at hl 0 rfl) (lv_at hl 3 rfl) (by omega) (by omega) dL_law_679 dL_law_680 dL_law_681 (by decide) dL_law_682 dL_law_683 ?_
  refine n_arg hx hb hX hbl hbA hS 2 (lv_at hl 0 rfl) (lv_at hl 3 rfl) (by omega) (by omega) dL_law_684 dL_law_685 dL_law_686 (by decide) dL_law_687 dL_law_688 ?_
  refine ro_callV (As := [.int (xs (i + 1)), .int (xs (i + 2))]) (rest := [.int (aTu A (xs (i + 1)) (xs (i + 2)))]) ⟨hx, hb, hml, hown, hts⟩ (kX1_turned l D g cJ cZ A M hI (xs (i + 1)) (xs (i + 2))) (cwV 2 hts gL_law_X1_turned rfl rfl rfl (by decide +kernel) ⟨Nat.le_of_ble_eq_true rfl, Nat.le_of_ble_eq_true rfl⟩) vB_bl (vB_at hP2 hK2) (va_recv hK2 hP2 (ci := 1) (q0 := 0) rfl rfl) rfl hl.1 rfl (Nat.le_of_ble_eq_true rfl) dL_law_689 ⟨Nat.le_of_ble_eq_true rfl, Nat.le_of_ble_eq_true rfl⟩ ?_
  exact lv_icmp_eq (tgt := 823) hx hb dL_law_692 (by decide) (fun _ => k A M H locs ⟨hI, hP, hD, hP2, hD2.to rfl, hS⟩) (fun q => absurd (turned_same hI _ _).symm q)
set_option maxHeartbeats 4000000 in
set_option maxRecDepth 100000 in
theorem lc_truth {p : Program} {l : Launch} {e : Env} {s : State} {m : MethodId} {below : List Frame} {meth : Method} {c : Code} {b L : Nat} {xs : Nat → Int32} {t : Nat → Nat} {D : va_G} {h : Nat → Nat} {cI : ClassId} {g : Nat → Nat} {cJ cZ : ClassId} {Q : State → Prop} {H : Heap} {locs : List Loc} {A : St} {M : Nat → Int32} {ls : Array Slot} {i : Nat} (C : LwC p s m c b L xs t D h cI g cJ cZ) (S : LwS s D h cI g cJ cZ A M H locs) (hi : i + 5 ≤ L) (hl : lv_has ls 4 [(0, .ref b), (1, .ref (h 0)), (2, .ref (g 0)), (3, .int (nI i))]) (k : ∀ (A : St) (M : Nat → Int32) (H : Heap) (locs : List Loc), LwS s D h cI g cJ cZ A M H locs → W p l e room_1 s m #[Value.ref b] below meth c H locs 14 591 Q (F0 m 823 ls [])) : W p l e room_1 s m #[Value.ref b] below meth c H locs 14 591 Q (F0 m 697 ls []) := by
  obtain ⟨hx, hb, hml, hown, hts, hX, hbl, hST, hK, hK2, hap, hL⟩ := C
  obtain ⟨hI, hP, hD, hP2, hD2, hS⟩ := S
  have hbA : ¬ (fun q : Nat => s.heap.size ≤ q) b := Nat.not_le.mpr hbl
  refine lv_aload_n hx hb dL_law_697 rfl (lv_at hl 1 rfl) ?_
  refine n_arg hx hb hX hbl hbA hS 1 (lv_at hl 0 rfl) (lv_at hl 3 rfl) (by omega) (by omega) dL_law_698 dL_law_699 dL_law_700 (by decide) dL_law_701 dL_law_702 ?_
  refine n_arg hx hb hX hbl hbA hS 2 (lv_at hl 0 rfl) (lv_at hl 3 rfl) (by omega) (by omega) dL_law_703 dL_law_704 dL_law_705 (by decide) dL_law_706 dL_law_707 ?_
  refine n_arg hx hb hX hbl hbA hS 3 (lv_at hl 0 rfl) (lv_at hl 3 rfl) (by omega) (by omega) dL_law_708 dL_law_709 dL_law_710 (by decide) dL_law_711 dL_law_712 ?_
  refine n_arg hx hb hX hbl hbA hS 4 (lv_at hl 0 rfl) (lv_at hl 3 rfl) (by omega) (by omega) dL_law_713 dL_law_714 dL_law_715 (by decide) dL_law_716 dL_law_717 ?_
  refine mu_callV (As := [.int (xs (i + 1)), .int (xs (i + 2)), .int (xs (i + 3)), .int (xs (i + 4))]) (rest := []) ⟨hx, hb, hml, hown, hts⟩ (kX0_truth l D h cI A hI (xs (i + 1)) (xs (i + 2)) (xs (i + 3)) (xs (i + 4))) (cwV 4 hts gL_law_X0_truth rfl rfl rfl (by decide +kernel) ⟨Nat.le_of_ble_eq_true rfl, Nat.le_of_ble_eq_true rfl⟩) hP hK hD hS (va_recv hK hP (ci := 0) (q0 := 0) rfl rfl) rfl hl.1 rfl (Nat.le_of_ble_eq_true rfl) dL_law_718 ⟨Nat.le_of_ble_eq_true rfl, Nat.le_of_ble_eq_true rfl⟩ (fun H locs hQ hS hk => ?_)
  have hP2 := hP2.off (fun q h1 h2 => hap q h2 h1) hk
  have hP := hQ
  show W _ _ _ _ _ _ _ _ _ _ _ _ _ _ _ (F0 m 721 ls [.int (aTr A (xs (i + 1)) (xs (i + 2)) (xs (i + 3)) (xs (i + 4)))])
  refine lv_aload_n hx hb dL_law_721 rfl (lv_at hl 2 rfl) ?_
  refine n_arg hx hb hX hbl hbA hS 1 (lv_at hl 0 rfl) (lv_at hl 3 rfl) (by omega) (by omega) dL_law_722 dL_law_723 dL_law_724 (by decide) dL_law_725 dL_law_726 ?_
  refine n_arg hx hb hX hbl hbA hS 2 (lv_at hl 0 rfl) (lv_at hl 3 rfl) (by omega) (by omega) dL_law_727 dL_law_728 dL_law_729 (by decide) dL_law_730 dL_law_731 ?_
  refine n_arg hx hb hX hbl hbA hS 3 (lv_at hl 0 rfl) (lv_at hl 3 rfl) (by omega) (by omega) dL_law_732 dL_law_733 dL_law_734 (by decide) dL_law_735 dL_law_736 ?_
  refine n_arg hx hb hX hbl hbA hS 4 (lv_at hl 0 rfl) (lv_at hl 3 rfl) (by omega) (by omega) dL_law_737 dL_law_738 dL_law_739 (by decide) dL_law_740 dL_law_741 ?_
  refine mu_callV (As := [.int (xs (i + 1)), .int (xs (i + 2)), .int (xs (i + 3)), .int (xs (i + 4))]) (rest := [.int (aTr A (xs (i + 1)) (xs (i + 2)) (xs (i + 3)) (xs (i + 4)))]) ⟨hx, hb, hml, hown, hts⟩ (kX1_truth l D g cJ cZ A M hI (xs (i + 1)) (xs (i + 2)) (xs (i + 3)) (xs (i + 4))) (cwV 4 hts gL_law_X1_truth rfl rfl rfl (by decide +kernel) ⟨Nat.le_of_ble_eq_true rfl, Nat.le_of_ble_eq_true rfl⟩) hP2 hK2 hD2 hS (va_recv hK2 hP2 (ci := 1) (q0 := 0) rfl rfl) rfl hl.1 rfl (Nat.le_of_ble_eq_true rfl) dL_law_742 ⟨Nat.le_of_ble_eq_true rfl, Nat.le_of_ble_eq_true rfl⟩ (fun H locs hQ hS hk => ?_)
  have hP := hP.off (fun q h1 h2 => hap q h1 h2) hk
  have hP2 := hQ
  show W _ _ _ _ _ _ _ _ _ _ _ _ _ _ _ (F0 m 745 ls [.int (aTr A (xs (i + 1)) (xs (i + 2)) (xs (i + 3)) (xs (i + 4))), .int (aTr A (xs (i + 1)) (xs (i + 2)) (xs (i + 3)) (xs (i + 4)))])
  exact lv_icmp_eq (tgt := 823) hx hb dL_law_745 (by decide) (fun _ => k (nTr A (xs (i + 1)) (xs (i + 2)) (xs (i + 3)) (xs (i + 4))) M H locs ⟨iv_Tr hI _ _ _ _, hP, hD.to rfl, hP2, hD2.to rfl, hS⟩) (fun q => absurd rfl q)
set_option maxHeartbeats 4000000 in
set_option maxRecDepth 100000 in
theorem lc_apart {p : Program} {l : Launch} {e : Env} {s : State} {m : MethodId} {below : List Frame} {meth : Method} {c : Code} {b L : Nat} {xs : Nat → Int32} {t : Nat → Nat} {D : va_G} {h : Nat → Nat} {cI : ClassId} {g : Nat → Nat} {cJ cZ : ClassId} {Q : State → Prop} {H : Heap} {locs : List Loc} {A : St} {M : Nat → Int32} {ls : Array Slot} {i : Nat} (C : LwC p s m c b L xs t D h cI g cJ cZ) (S : LwS s D h cI g cJ cZ A M H locs) (hi : i + 5 ≤ L) (hl : lv_has ls 4 [(0, .ref b), (1, .ref (h 0)), (2, .ref (g 0)), (3, .int (nI i))]) (k : ∀ (A : St) (M : Nat → Int32) (H : Heap) (locs : List Loc), LwS s D h cI g cJ cZ A M H locs → W p l e room_1 s m #[Value.ref b] below meth c H locs 14 591 Q (F0 m 823 ls [])) : W p l e room_1 s m #[Value.ref b] below meth c H locs 14 591 Q (F0 m 750 ls []) := by
  obtain ⟨hx, hb, hml, hown, hts, hX, hbl, hST, hK, hK2, hap, hL⟩ := C
  obtain ⟨hI, hP, hD, hP2, hD2, hS⟩ := S
  have hbA : ¬ (fun q : Nat => s.heap.size ≤ q) b := Nat.not_le.mpr hbl
  refine lv_aload_n hx hb dL_law_750 rfl (lv_at hl 1 rfl) ?_
  refine n_arg hx hb hX hbl hbA hS 1 (lv_at hl 0 rfl) (lv_at hl 3 rfl) (by omega) (by omega) dL_law_751 dL_law_752 dL_law_753 (by decide) dL_law_754 dL_law_755 ?_
  refine ro_callV (As := [.int (xs (i + 1))]) (rest := []) ⟨hx, hb, hml, hown, hts⟩ (kX0_apart l D h cI A t hI (xs (i + 1))) (cwV 1 hts gL_law_X0_apart rfl rfl rfl (by decide +kernel) ⟨Nat.le_of_ble_eq_true rfl, Nat.le_of_ble_eq_true rfl⟩) vB2_bl (vB2_at hP hK (LwS.st hST hS)) (va_recv hK hP (ci := 0) (q0 := 0) rfl rfl) rfl hl.1 rfl (Nat.le_of_ble_eq_true rfl) dL_law_756 ⟨Nat.le_of_ble_eq_true rfl, Nat.le_of_ble_eq_true rfl⟩ ?_
  refine lv_aload_n hx hb dL_law_759 rfl (lv_at hl 2 rfl) ?_
  refine n_arg hx hb hX hbl hbA hS 1 (lv_at hl 0 rfl) (lv_at hl 3 rfl) (by omega) (by omega) dL_law_760 dL_law_761 dL_law_762 (by decide) dL_law_763 dL_law_764 ?_
  refine ro_callV (As := [.int (xs (i + 1))]) (rest := [.int (aAp A (xs (i + 1)))]) ⟨hx, hb, hml, hown, hts⟩ (kX1_apart l D g cJ cZ A M hI (xs (i + 1))) (cwV 1 hts gL_law_X1_apart rfl rfl rfl (by decide +kernel) ⟨Nat.le_of_ble_eq_true rfl, Nat.le_of_ble_eq_true rfl⟩) vB_bl (vB_at hP2 hK2) (va_recv hK2 hP2 (ci := 1) (q0 := 0) rfl rfl) rfl hl.1 rfl (Nat.le_of_ble_eq_true rfl) dL_law_765 ⟨Nat.le_of_ble_eq_true rfl, Nat.le_of_ble_eq_true rfl⟩ ?_
  exact lv_icmp_eq (tgt := 823) hx hb dL_law_768 (by decide) (fun _ => k A M H locs ⟨hI, hP, hD, hP2, hD2.to rfl, hS⟩) (fun q => absurd rfl q)
set_option maxHeartbeats 4000000 in
set_option maxRecDepth 100000 in
theorem lc_order {p : Program} {l : Launch} {e : Env} {s : State} {m : MethodId} {below : List Frame} {meth : Method} {c : Code} {b L : Nat} {xs : Nat → Int32} {t : Nat → Nat} {D : va_G} {h : Nat → Nat} {cI : ClassId} {g : Nat → Nat} {cJ cZ : ClassId} {Q : State → Prop} {H : Heap} {locs : List Loc} {A : St} {M : Nat → Int32} {ls : Array Slot} {i : Nat} (C : LwC p s m c b L xs t D h cI g cJ cZ) (S : LwS s D h cI g cJ cZ A M H locs) (hi : i + 5 ≤ L) (hl : lv_has ls 4 [(0, .ref b), (1, .ref (h 0)), (2, .ref (g 0)), (3, .int (nI i))]) (k : ∀ (A : St) (M : Nat → Int32) (H : Heap) (locs : List Loc), LwS s D h cI g cJ cZ A M H locs → W p l e room_1 s m #[Value.ref b] below meth c H locs 14 591 Q (F0 m 823 ls [])) : W p l e room_1 s m #[Value.ref b] below meth c H locs 14 591 Q (F0 m 773 ls []) := by
  obtain ⟨hx, hb, hml, hown, hts, hX, hbl, hST, hK, hK2, hap, hL⟩ := C
  obtain ⟨hI, hP, hD, hP2, hD2, hS⟩ := S
  have hbA : ¬ (fun q : Nat => s.heap.size ≤ q) b := Nat.not_le.mpr hbl
  refine lv_aload_n hx hb dL_law_773 rfl (lv_at hl 1 rfl) ?_
  refine ro_callV (As := []) (rest := []) ⟨hx, hb, hml, hown, hts⟩ (kX0_order l D h cI A t hI) (cwV 0 hts gL_law_X0_order rfl rfl rfl (by decide +kernel) ⟨Nat.le_of_ble_eq_true rfl, Nat.le_of_ble_eq_true rfl⟩) vB2_bl (vB2_at hP hK (LwS.st hST hS)) (va_recv hK hP (ci := 0) (q0 := 0) rfl rfl) rfl hl.1 rfl (Nat.le_of_ble_eq_true rfl) dL_law_774 ⟨Nat.le_of_ble_eq_true rfl, Nat.le_of_ble_eq_true rfl⟩ ?_
  refine lv_aload_n hx hb dL_law_777 rfl (lv_at hl 2 rfl) ?_
  refine ro_callV (As := []) (rest := [.int (aOr A)]) ⟨hx, hb, hml, hown, hts⟩ (kX1_order l D g cJ cZ A M hI) (cwV 0 hts gL_law_X1_order rfl rfl rfl (by decide +kernel) ⟨Nat.le_of_ble_eq_true rfl, Nat.le_of_ble_eq_true rfl⟩) vB_bl (vB_at hP2 hK2) (va_recv hK2 hP2 (ci := 1) (q0 := 0) rfl rfl) rfl hl.1 rfl (Nat.le_of_ble_eq_true rfl) dL_law_778 ⟨Nat.le_of_ble_eq_true rfl, Nat.le_of_ble_eq_true rfl⟩ ?_
  exact lv_icmp_eq (tgt := 823) hx hb dL_law_781 (by decide) (fun _ => k A M H locs ⟨hI, hP, hD, hP2, hD2.to rfl, hS⟩) (fun q => absurd rfl q)
set_option maxHeartbeats 4000000 in
set_option maxRecDepth 100000 in
theorem lc_count {p : Program} {l : Launch} {e : Env} {s : State} {m : MethodId} {below : List Frame} {meth : Method} {c : Code} {b L : Nat} {xs : Nat → Int32} {t : Nat → Nat} {D : va_G} {h : Nat → Nat} {cI : ClassId} {g : Nat → Nat} {cJ cZ : ClassId} {Q : State → Prop} {H : Heap} {locs : List Loc} {A : St} {M : Nat → Int32} {ls : Array Slot} {i : Nat} (C : LwC p s m c b L xs t D h cI g cJ cZ) (S : LwS s D h cI g cJ cZ A M H locs) (hi : i + 5 ≤ L) (hl : lv_has ls 4 [(0, .ref b), (1, .ref (h 0)), (2, .ref (g 0)), (3, .int (nI i))]) (k : ∀ (A : St) (M : Nat → Int32) (H : Heap) (locs : List Loc), LwS s D h cI g cJ cZ A M H locs → W p l e room_1 s m #[Value.ref b] below meth c H locs 14 591 Q (F0 m 823 ls [])) : W p l e room_1 s m #[Value.ref b] below meth c H locs 14 591 Q (F0 m 786 ls []) := by
  obtain ⟨hx, hb, hml, hown, hts, hX, hbl, hST, hK, hK2, hap, hL⟩ := C
  obtain ⟨hI, hP, hD, hP2, hD2, hS⟩ := S
  have hbA : ¬ (fun q : Nat => s.heap.size ≤ q) b := Nat.not_le.mpr hbl
  refine lv_aload_n hx hb dL_law_786 rfl (lv_at hl 1 rfl) ?_
  refine n_arg hx hb hX hbl hbA hS 1 (lv_at hl 0 rfl) (lv_at hl 3 rfl) (by omega) (by omega) dL_law_787 dL_law_788 dL_law_789 (by decide) dL_law_790 dL_law_791 ?_
  refine ro_callV (As := [.int (xs (i + 1))]) (rest := []) ⟨hx, hb, hml, hown, hts⟩ (kX0_count l D h cI A hI (xs (i + 1))) (cwV 1 hts gL_law_X0_count rfl rfl rfl (by decide +kernel) ⟨Nat.le_of_ble_eq_true rfl, Nat.le_of_ble_eq_true rfl⟩) vB_bl (vB_at hP hK) (va_recv hK hP (ci := 0) (q0 := 0) rfl rfl) rfl hl.1 rfl (Nat.le_of_ble_eq_true rfl) dL_law_792 ⟨Nat.le_of_ble_eq_true rfl, Nat.le_of_ble_eq_true rfl⟩ ?_
  refine lv_aload_n hx hb dL_law_795 rfl (lv_at hl 2 rfl) ?_
  refine n_arg hx hb hX hbl hbA hS 1 (lv_at hl 0 rfl) (lv_at hl 3 rfl) (by omega) (by omega) dL_law_796 dL_law_797 dL_law_798 (by decide) dL_law_799 dL_law_800 ?_
  refine ro_callV (As := [.int (xs (i + 1))]) (rest := [.int (aCo A (xs (i + 1)))]) ⟨hx, hb, hml, hown, hts⟩ (kX1_count l D g cJ cZ A M hI (xs (i + 1))) (cwV 1 hts gL_law_X1_count rfl rfl rfl (by decide +kernel) ⟨Nat.le_of_ble_eq_true rfl, Nat.le_of_ble_eq_true rfl⟩) vB_bl (vB_at hP2 hK2) (va_recv hK2 hP2 (ci := 1) (q0 := 0) rfl rfl) rfl hl.1 rfl (Nat.le_of_ble_eq_true rfl) dL_law_801 ⟨Nat.le_of_ble_eq_true rfl, Nat.le_of_ble_eq_true rfl⟩ ?_
  exact lv_icmp_eq (tgt := 823) hx hb dL_law_804 (by decide) (fun _ => k A M H locs ⟨hI, hP, hD, hP2, hD2.to rfl, hS⟩) (fun q => absurd rfl q)
set_option maxHeartbeats 4000000 in
set_option maxRecDepth 100000 in
theorem lc_trace {p : Program} {l : Launch} {e : Env} {s : State} {m : MethodId} {below : List Frame} {meth : Method} {c : Code} {b L : Nat} {xs : Nat → Int32} {t : Nat → Nat} {D : va_G} {h : Nat → Nat} {cI : ClassId} {g : Nat → Nat} {cJ cZ : ClassId} {Q : State → Prop} {H : Heap} {locs : List Loc} {A : St} {M : Nat → Int32} {ls : Array Slot} {i : Nat} (C : LwC p s m c b L xs t D h cI g cJ cZ) (S : LwS s D h cI g cJ cZ A M H locs) (hi : i + 5 ≤ L) (hl : lv_has ls 4 [(0, .ref b), (1, .ref (h 0)), (2, .ref (g 0)), (3, .int (nI i))]) (k : ∀ (A : St) (M : Nat → Int32) (H : Heap) (locs : List Loc), LwS s D h cI g cJ cZ A M H locs → W p l e room_1 s m #[Value.ref b] below meth c H locs 14 591 Q (F0 m 823 ls [])) : W p l e room_1 s m #[Value.ref b] below meth c H locs 14 591 Q (F0 m 809 ls []) := by
  obtain ⟨hx, hb, hml, hown, hts, hX, hbl, hST, hK, hK2, hap, hL⟩ := C
  obtain ⟨hI, hP, hD, hP2, hD2, hS⟩ := S
  have hbA : ¬ (fun q : Nat => s.heap.size ≤ q) b := Nat.not_le.mpr hbl
  refine lv_aload_n hx hb dL_law_809 rfl (lv_at hl 1 rfl) ?_
  refine ro_callVl (As := []) (rest := []) ⟨hx, hb, hml, hown, hts⟩ (kX0_trace l D h cI A) (cwV 0 hts gL_law_X0_trace rfl rfl rfl (by decide +kernel) ⟨Nat.le_of_ble_eq_true rfl, Nat.le_of_ble_eq_true rfl⟩) vB_bl (vB_at hP hK) (va_recv hK hP (ci := 0) (q0 := 0) rfl rfl) rfl hl.1 rfl (Nat.le_of_ble_eq_true rfl) dL_law_810 ⟨Nat.le_of_ble_eq_true rfl, Nat.le_of_ble_eq_true rfl⟩ ?_
  refine lv_aload_n hx hb dL_law_813 rfl (lv_at hl 2 rfl) ?_
  refine ro_callVl (As := []) (rest := [.long (sC A)]) ⟨hx, hb, hml, hown, hts⟩ (kX1_trace l D g cJ cZ A M) (cwV 0 hts gL_law_X1_trace rfl rfl rfl (by decide +kernel) ⟨Nat.le_of_ble_eq_true rfl, Nat.le_of_ble_eq_true rfl⟩) vB_bl (vB_at hP2 hK2) (va_recv hK2 hP2 (ci := 1) (q0 := 0) rfl rfl) rfl hl.1 rfl (Nat.le_of_ble_eq_true rfl) dL_law_814 ⟨Nat.le_of_ble_eq_true rfl, Nat.le_of_ble_eq_true rfl⟩ ?_
  refine W.lcmp hx hb dL_law_817 ?_
  exact lv_if_eq (tgt := 823) hx hb dL_law_818 (by decide) (fun _ => k A M H locs ⟨hI, hP, hD, hP2, hD2.to rfl, hS⟩) (fun q => absurd (lcmp_self _) q)
