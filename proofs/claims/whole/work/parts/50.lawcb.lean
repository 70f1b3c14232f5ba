set_option maxHeartbeats 4000000 in
set_option maxRecDepth 100000 in
theorem lc_miss {p : Program} {l : Launch} {e : Env} {s : State} {m : MethodId} {below : List Frame} {meth : Method} {c : Code} {b L : Nat} {xs : Nat → Int32} {t : Nat → Nat} {D : va_G} {h : Nat → Nat} {cI : ClassId} {g : Nat → Nat} {cJ cZ : ClassId} {Q : State → Prop} {H : Heap} {locs : List Loc} {A : St} {M : Nat → Int32} {ls : Array Slot} {i : Nat} (C : LwC p s m c b L xs t D h cI g cJ cZ) (S : LwS s D h cI g cJ cZ A M H locs) (hi : i + 5 ≤ L) (hl : lv_has ls 4 [(0, .ref b), (1, .ref (h 0)), (2, .ref (g 0)), (3, .int (nI i))]) (k : ∀ (A : St) (M : Nat → Int32) (H : Heap) (locs : List Loc), LwS s D h cI g cJ cZ A M H locs → W p l e room_1 s m #[Value.ref b] below meth c H locs 14 591 Q (F0 m 823 ls [])) : W p l e room_1 s m #[Value.ref b] below meth c H locs 14 591 Q (F0 m 460 ls []) := by
  obtain ⟨hx, hb, hml, hown, hts, hX, hbl, hST, hK, hK2, hap, hL⟩ := C
  obtain ⟨hI, hP, hD, hP2, hD2, hS⟩ := S
  have hbA : ¬ (fun q : Nat => s.heap.size ≤ q) b := Nat.not_le.mpr hbl
  refine lv_aload_n hx hb dL_law_460 rfl (lv_at hl 1 rfl) ?_
  refine ro_callV (As := []) (rest := []) ⟨hx, hb, hml, hown, hts⟩ (kX0_miss l D h cI A hI) (cwV 0 hts gL_law_X0_miss rfl rfl rfl (by decide +kernel) ⟨Nat.le_of_ble_eq_true rfl, Nat.le_of_ble_eq_true rfl⟩) vB_bl (vB_at hP hK) (va_recv hK hP (ci := 0) (q0 := 0) rfl rfl) rfl hl.1 rfl (Nat.le_of_ble_eq_true rfl) dL_law_461 ⟨Nat.le_of_ble_eq_true rfl, Nat.le_of_ble_eq_true rfl⟩ ?_
  refine lv_aload_n hx hb dL_law_464 rfl (lv_at hl 2 rfl) ?_
  refine ro_callV (As := []) (rest := [.int (fm A)]) ⟨hx, hb, hml, hown, hts⟩ (kX1_miss l D g cJ cZ A M hI) (cwV 0 hts gL_law_X1_miss rfl rfl rfl (by decide +kernel) ⟨Nat.le_of_ble_eq_true rfl, Nat.le_of_ble_eq_true rfl⟩) vB_bl (vB_at hP2 hK2) (va_recv hK2 hP2 (ci := 1) (q0 := 0) rfl rfl) rfl hl.1 rfl (Nat.le_of_ble_eq_true rfl) dL_law_465 ⟨Nat.le_of_ble_eq_true rfl, Nat.le_of_ble_eq_true rfl⟩ ?_
  exact lv_icmp_eq (tgt := 823) hx hb dL_law_468 (by decide) (fun _ => k A M H locs ⟨hI, hP, hD, hP2, hD2.to rfl, hS⟩) (fun q => absurd rfl q)
set_option maxHeartbeats 4000000 in
set_option maxRecDepth 100000 in
theorem lc_rounds {p : Program} {l : Launch} {e : Env} {s : State} {m : MethodId} {below : List Frame} {meth : Method} {c : Code} {b L : Nat} {xs : Nat → Int32} {t : Nat → Nat} {D : va_G} {h : Nat → Nat} {cI : ClassId} {g : Nat → Nat} {cJ cZ : ClassId} {Q : State → Prop} {H : Heap} {locs : List Loc} {A : St} {M : Nat → Int32} {ls : Array Slot} {i : Nat} (C : LwC p s m c b L xs t D h cI g cJ cZ) (S : LwS s D h cI g cJ cZ A M H locs) (hi : i + 5 ≤ L) (hl : lv_has ls 4 [(0, .ref b), (1, .ref (h 0)), (2, .ref (g 0)), (3, .int (nI i))]) (k : ∀ (A : St) (M : Nat → Int32) (H : Heap) (locs : List Loc), LwS s D h cI g cJ cZ A M H locs → W p l e room_1 s m #[Value.ref b] below meth c H locs 14 591 Q (F0 m 823 ls [])) : W p l e room_1 s m #[Value.ref b] below meth c H locs 14 591 Q (F0 m 473 ls []) := by
  obtain ⟨hx, hb, hml, hown, hts, hX, hbl, hST, hK, hK2, hap, hL⟩ := C
  obtain ⟨hI, hP, hD, hP2, hD2, hS⟩ := S
  have hbA : ¬ (fun q : Nat => s.heap.size ≤ q) b := Nat.not_le.mpr hbl
  refine lv_aload_n hx hb dL_law_473 rfl (lv_at hl 1 rfl) ?_
  refine n_arg hx hb hX hbl hbA hS 1 (lv_at hl 0 rfl) (lv_at hl 3 rfl) (by omega) (by omega) dL_law_474 dL_law_475 dL_law_476 (by decide) dL_law_477 dL_law_478 ?_
  refine mu_callV (As := [.int (xs (i + 1))]) (rest := []) ⟨hx, hb, hml, hown, hts⟩ (kX0_rounds l D h cI A hI (xs (i + 1))) (cwV 1 hts gL_law_X0_rounds rfl rfl rfl (by decide +kernel) ⟨Nat.le_of_ble_eq_true rfl, Nat.le_of_ble_eq_true rfl⟩) hP hK hD hS (va_recv hK hP (ci := 0) (q0 := 0) rfl rfl) rfl hl.1 rfl (Nat.le_of_ble_eq_true rfl) dL_law_479 ⟨Nat.le_of_ble_eq_true rfl, Nat.le_of_ble_eq_true rfl⟩ (fun H locs hQ hS hk => ?_)
  have hP2 := hP2.off (fun q h1 h2 => hap q h2 h1) hk
  have hP := hQ
  show W _ _ _ _ _ _ _ _ _ _ _ _ _ _ _ (F0 m 482 ls [.int (aRn A (xs (i + 1)))])
  refine lv_aload_n hx hb dL_law_482 rfl (lv_at hl 2 rfl) ?_
  refine n_arg hx hb hX hbl hbA hS 1 (lv_at hl 0 rfl) (lv_at hl 3 rfl) (by omega) (by omega) dL_law_483 dL_law_484 dL_law_485 (by decide) dL_law_486 dL_law_487 ?_
  refine mu_callV (As := [.int (xs (i + 1))]) (rest := [.int (aRn A (xs (i + 1)))]) ⟨hx, hb, hml, hown, hts⟩ (kX1_rounds l D g cJ cZ A M hI (xs (i + 1))) (cwV 1 hts gL_law_X1_rounds rfl rfl rfl (by decide +kernel) ⟨Nat.le_of_ble_eq_true rfl, Nat.le_of_ble_eq_true rfl⟩) hP2 hK2 hD2 hS (va_recv hK2 hP2 (ci := 1) (q0 := 0) rfl rfl) rfl hl.1 rfl (Nat.le_of_ble_eq_true rfl) dL_law_488 ⟨Nat.le_of_ble_eq_true rfl, Nat.le_of_ble_eq_true rfl⟩ (fun H locs hQ hS hk => ?_)
  have hP := hP.off (fun q h1 h2 => hap q h1 h2) hk
  have hP2 := hQ
  rw [nRn_same hI] at hP2
  show W _ _ _ _ _ _ _ _ _ _ _ _ _ _ _ (F0 m 491 ls [.int (aRm A (xs (i + 1))), .int (aRn A (xs (i + 1)))])
  exact lv_icmp_eq (tgt := 823) hx hb dL_law_491 (by decide) (fun _ => k (nRn A (xs (i + 1))) M H locs ⟨iv_Rn hI _, hP, hD.to rfl, hP2, hD2.to rfl, hS⟩) (fun q => absurd (aRn_same hI _).symm q)
set_option maxHeartbeats 4000000 in
set_option maxRecDepth 100000 in
theorem lc_share {p : Program} {l : Launch} {e : Env} {s : State} {m : MethodId} {below : List Frame} {meth : Method} {c : Code} {b L : Nat} {xs : Nat → Int32} {t : Nat → Nat} {D : va_G} {h : Nat → Nat} {cI : ClassId} {g : Nat → Nat} {cJ cZ : ClassId} {Q : State → Prop} {H : Heap} {locs : List Loc} {A : St} {M : Nat → Int32} {ls : Array Slot} {i : Nat} (C : LwC p s m c b L xs t D h cI g cJ cZ) (S : LwS s D h cI g cJ cZ A M H locs) (hi : i + 5 ≤ L) (hl : lv_has ls 4 [(0, .ref b), (1, .ref (h 0)), (2, .ref (g 0)), (3, .int (nI i))]) (k : ∀ (A : St) (M : Nat → Int32) (H : Heap) (locs : List Loc), LwS s D h cI g cJ cZ A M H locs → W p l e room_1 s m #[Value.ref b] below meth c H locs 14 591 Q (F0 m 823 ls [])) : W p l e room_1 s m #[Value.ref b] below meth c H locs 14 591 Q (F0 m 496 ls []) := by
  obtain ⟨hx, hb, hml, hown, hts, hX, hbl, hST, hK, hK2, hap, hL⟩ := C
  obtain ⟨hI, hP, hD, hP2, hD2, hS⟩ := S
  have hbA : ¬ (fun q : Nat => s.heap.size ≤ q) b := Nat.not_le.mpr hbl
  refine lv_aload_n hx hb dL_law_496 rfl (lv_at hl 1 rfl) ?_
  refine n_arg hx hb hX hbl hbA hS 1 (lv_at hl 0 rfl) (lv_at hl 3 rfl) (by omega) (by omega) dL_law_497 dL_law_498 dL_law_499 (by decide) dL_law_500 dL_law_501 ?_
  refine n_arg hx hb hX hbl hbA hS 2 (lv_at hl 0 rfl) (lv_at hl 3 rfl) (by omega) (by omega) dL_law_502 dL_law_503 dL_law_504 (by decide) dL_law_505 dL_law_506 ?_
  refine n_arg hx hb hX hbl hbA hS 3 (lv_at hl 0 rfl) (lv_at hl 3 rfl) (by omega) (by omega) dL_law_507 dL_law_508 dL_law_509 (by decide) dL_law_510 dL_law_511 ?_
  refine ro_callV (As := [.int (xs (i + 1)), .int (xs (i + 2)), .int (xs (i + 3))]) (rest := []) ⟨hx, hb, hml, hown, hts⟩ (kX0_share l D h cI A hI (xs (i + 1)) (xs (i + 2)) (xs (i + 3))) (cwV 3 hts gL_law_X0_share rfl rfl rfl (by decide +kernel) ⟨Nat.le_of_ble_eq_true rfl, Nat.le_of_ble_eq_true rfl⟩) vB_bl (vB_at hP hK) (va_recv hK hP (ci := 0) (q0 := 0) rfl rfl) rfl hl.1 rfl (Nat.le_of_ble_eq_true rfl) dL_law_512 ⟨Nat.le_of_ble_eq_true rfl, Nat.le_of_ble_eq_true rfl⟩ ?_
  refine lv_aload_n hx hb dL_law_515 rfl (lv_at hl 2 rfl) ?_
  refine n_arg hx hb hX hbl hbA hS 1 (lv_at hl 0 rfl) (lv_at hl 3 rfl) (by omega) (by omega) dL_law_516 dL_law_517 dL_law_518 (by decide) dL_law_519 dL_law_520 ?_
  refine n_arg hx hb hX hbl hbA hS 2 (lv_at hl 0 rfl) (lv_at hl 3 rfl) (by omega) (by omega) dL_law_521 dL_law_522 dL_law_523 (by decide) dL_law_524 dL_law_525 ?_
  refine n_arg hx hb hX hbl hbA hS 3 (lv_at hl 0 rfl) (lv_at hl 3 rfl) (by omega) (by omega) dL_law_526 dL_law_527 dL_law_528 (by decide) dL_law_529 dL_law_530 ?_
  refine ro_callV (As := [.int (xs (i + 1)), .int (xs (i + 2)), .int (xs (i + 3))]) (rest := [.int (aSh A (xs (i + 1)) (xs (i + 2)) (xs (i + 3)))]) ⟨hx, hb, hml, hown, hts⟩ (kX1_share l D g cJ cZ A M hI (xs (i + 1)) (xs (i + 2)) (xs (i + 3))) (cwV 3 hts gL_law_X1_share rfl rfl rfl (by decide +kernel) ⟨Nat.le_of_ble_eq_true rfl, Nat.le_of_ble_eq_true rfl⟩) vB_bl (vB_at hP2 hK2) (va_recv hK2 hP2 (ci := 1) (q0 := 0) rfl rfl) rfl hl.1 rfl (Nat.le_of_ble_eq_true rfl) dL_law_531 ⟨Nat.le_of_ble_eq_true rfl, Nat.le_of_ble_eq_true rfl⟩ ?_
  exact lv_icmp_eq (tgt := 823) hx hb dL_law_534 (by decide) (fun _ => k A M H locs ⟨hI, hP, hD, hP2, hD2.to rfl, hS⟩) (fun q => absurd rfl q)
set_option maxHeartbeats 4000000 in
set_option maxRecDepth 100000 in
theorem lc_background {p : Program} {l : Launch} {e : Env} {s : State} {m : MethodId} {below : List Frame} {meth : Method} {c : Code} {b L : Nat} {xs : Nat → Int32} {t : Nat → Nat} {D : va_G} {h : Nat → Nat} {cI : ClassId} {g : Nat → Nat} {cJ cZ : ClassId} {Q : State → Prop} {H : Heap} {locs : List Loc} {A : St} {M : Nat → Int32} {ls : Array Slot} {i : Nat} (C : LwC p s m c b L xs t D h cI g cJ cZ) (S : LwS s D h cI g cJ cZ A M H locs) (hi : i + 5 ≤ L) (hl : lv_has ls 4 [(0, .ref b), (1, .ref (h 0)), (2, .ref (g 0)), (3, .int (nI i))]) (k : ∀ (A : St) (M : Nat → Int32) (H : Heap) (locs : List Loc), LwS s D h cI g cJ cZ A M H locs → W p l e room_1 s m #[Value.ref b] below meth c H locs 14 591 Q (F0 m 823 ls [])) : W p l e room_1 s m #[Value.ref b] below meth c H locs 14 591 Q (F0 m 539 ls []) := by
  obtain ⟨hx, hb, hml, hown, hts, hX, hbl, hST, hK, hK2, hap, hL⟩ := C
  obtain ⟨hI, hP, hD, hP2, hD2, hS⟩ := S
  have hbA : ¬ (fun q : Nat => s.heap.size ≤ q) b := Nat.not_le.mpr hbl
  refine lv_aload_n hx hb dL_law_539 rfl (lv_at hl 1 rfl) ?_
  refine n_arg hx hb hX hbl hbA hS 1 (lv_at hl 0 rfl) (lv_at hl 3 rfl) (by omega) (by omega) dL_law_540 dL_law_541 dL_law_542 (by decide) dL_law_543 dL_law_544 ?_
  refine n_arg hx hb hX hbl hbA hS 2 (lv_at hl 0 rfl) (lv_at hl 3 rfl) (by omega) (by omega) dL_law_545 dL_law_546 dL_law_547 (by decide) dL_law_548 dL_law_549 ?_
  refine n_arg hx hb hX hbl hbA hS 3 (lv_at hl 0 rfl) (lv_at hl 3 rfl) (by omega) (by omega) dL_law_550 dL_law_551 dL_law_552 (by decide) dL_law_553 dL_law_554 ?_
  refine ro_callV (As := [.int (xs (i + 1)), .int (xs (i + 2)), .int (xs (i + 3))]) (rest := []) ⟨hx, hb, hml, hown, hts⟩ (kX0_background l D h cI A hI (xs (i + 1)) (xs (i + 2)) (xs (i + 3))) (cwV 3 hts gL_law_X0_background rfl rfl rfl (by decide +kernel) ⟨Nat.le_of_ble_eq_true rfl, Nat.le_of_ble_eq_true rfl⟩) vB_bl (vB_at hP hK) (va_recv hK hP (ci := 0) (q0 := 0) rfl rfl) rfl hl.1 rfl (Nat.le_of_ble_eq_true rfl) dL_law_555 ⟨Nat.le_of_ble_eq_true rfl, Nat.le_of_ble_eq_true rfl⟩ ?_
  refine lv_aload_n hx hb dL_law_558 rfl (lv_at hl 2 rfl) ?_
  refine n_arg hx hb hX hbl hbA hS 1 (lv_at hl 0 rfl) (lv_at hl 3 rfl) (by omega) (by omega) dL_law_559 dL_law_560 dL_law_561 (by decide) dL_law_562 dL_law_563 ?_
  refine n_arg hx hb hX hbl hbA hS 2 (lv_at hl 0 rfl) (lv_at hl 3 rfl) (by omega) (by omega) dL_law_564 dL_law_565 dL_law_566 (by decide) dL_law_567 dL_law_568 ?_
  refine n_arg hx hb hX hbl hbA hS 3 (lv_at hl 0 rfl) (lv_at hl 3 rfl) (by omega) (by omega) dL_law_569 dL_law_570 dL_law_571 (by decide) dL_law_572 dL_law_573 ?_
  refine mx_callV (As := [.int (xs (i + 1)), .int (xs (i + 2)), .int (xs (i + 3))]) (rest := [.int (aBg A (xs (i + 1)) (xs (i + 2)) (xs (i + 3)))]) ⟨hx, hb, hml, hown, hts⟩ (kX1_background l D g cJ cZ A M hI (xs (i + 1)) (xs (i + 2)) (xs (i + 3))) (cwV 3 hts gL_law_X1_background rfl rfl rfl (by decide +kernel) ⟨Nat.le_of_ble_eq_true rfl, Nat.le_of_ble_eq_true rfl⟩) hP2 hK2 hD2 hS (va_recv hK2 hP2 (ci := 1) (q0 := 0) rfl rfl) rfl hl.1 rfl (Nat.le_of_ble_eq_true rfl) dL_law_574 ⟨Nat.le_of_ble_eq_true rfl, Nat.le_of_ble_eq_true rfl⟩ (fun H locs M hQ hS hk => ?_)
  have hP := hP.off (fun q h1 h2 => hap q h1 h2) hk
  have hP2 := hQ
  exact lv_icmp_eq (tgt := 823) hx hb dL_law_577 (by decide) (fun _ => k A M H locs ⟨hI, hP, hD, hP2, hD2.to rfl, hS⟩) (fun q => absurd rfl q)
set_option maxHeartbeats 4000000 in
set_option maxRecDepth 100000 in
theorem lc_period {p : Program} {l : Launch} {e : Env} {s : State} {m : MethodId} {below : List Frame} {meth : Method} {c : Code} {b L : Nat} {xs : Nat → Int32} {t : Nat → Nat} {D : va_G} {h : Nat → Nat} {cI : ClassId} {g : Nat → Nat} {cJ cZ : ClassId} {Q : State → Prop} {H : Heap} {locs : List Loc} {A : St} {M : Nat → Int32} {ls : Array Slot} {i : Nat} (C : LwC p s m c b L xs t D h cI g cJ cZ) (S : LwS s D h cI g cJ cZ A M H locs) (hi : i + 5 ≤ L) (hl : lv_has ls 4 [(0, .ref b), (1, .ref (h 0)), (2, .ref (g 0)), (3, .int (nI i))]) (k : ∀ (A : St) (M : Nat → Int32) (H : Heap) (locs : List Loc), LwS s D h cI g cJ cZ A M H locs → W p l e room_1 s m #[Value.ref b] below meth c H locs 14 591 Q (F0 m 823 ls [])) : W p l e room_1 s m #[Value.ref b] below meth c H locs 14 591 Q (F0 m 582 ls []) := by
  obtain ⟨hx, hb, hml, hown, hts, hX, hbl, hST, hK, hK2, hap, hL⟩ := C
  obtain ⟨hI, hP, hD, hP2, hD2, hS⟩ := S
  have hbA : ¬ (fun q : Nat => s.heap.size ≤ q) b := Nat.not_le.mpr hbl
  refine lv_aload_n hx hb dL_law_582 rfl (lv_at hl 1 rfl) ?_
  refine ro_callV (As := []) (rest := []) ⟨hx, hb, hml, hown, hts⟩ (kX0_period l D h cI A hI) (cwV 0 hts gL_law_X0_period rfl rfl rfl (by decide +kernel) ⟨Nat.le_of_ble_eq_true rfl, Nat.le_of_ble_eq_true rfl⟩) vB_bl (vB_at hP hK) (va_recv hK hP (ci := 0) (q0 := 0) rfl rfl) rfl hl.1 rfl (Nat.le_of_ble_eq_true rfl) dL_law_583 ⟨Nat.le_of_ble_eq_true rfl, Nat.le_of_ble_eq_true rfl⟩ ?_
  refine lv_aload_n hx hb dL_law_586 rfl (lv_at hl 2 rfl) ?_
  refine mx_callV (As := []) (rest := [.int (nI (fpe A))]) ⟨hx, hb, hml, hown, hts⟩ (kX1_period l D g cJ cZ A M hI) (cwV 0 hts gL_law_X1_period rfl rfl rfl (by decide +kernel) ⟨Nat.le_of_ble_eq_true rfl, Nat.le_of_ble_eq_true rfl⟩) hP2 hK2 hD2 hS (va_recv hK2 hP2 (ci := 1) (q0 := 0) rfl rfl) rfl hl.1 rfl (Nat.le_of_ble_eq_true rfl) dL_law_587 ⟨Nat.le_of_ble_eq_true rfl, Nat.le_of_ble_eq_true rfl⟩ (fun H locs M hQ hS hk => ?_)
  have hP := hP.off (fun q h1 h2 => hap q h1 h2) hk
  have hP2 := hQ
  exact lv_icmp_eq (tgt := 823) hx hb dL_law_590 (by decide) (fun _ => k A M H locs ⟨hI, hP, hD, hP2, hD2.to rfl, hS⟩) (fun q => absurd rfl q)
set_option maxHeartbeats 4000000 in
set_option maxRecDepth 100000 in
theorem lc_hear {p : Program} {l : Launch} {e : Env} {s : State} {m : MethodId} {below : List Frame} {meth : Method} {c : Code} {b L : Nat} {xs : Nat → Int32} {t : Nat → Nat} {D : va_G} {h : Nat → Nat} {cI : ClassId} {g : Nat → Nat} {cJ cZ : ClassId} {Q : State → Prop} {H : Heap} {locs : List Loc} {A : St} {M : Nat → Int32} {ls : Array Slot} {i : Nat} (C : LwC p s m c b L xs t D h cI g cJ cZ) (S : LwS s D h cI g cJ cZ A M H locs) (hi : i + 5 ≤ L) (hl : lv_has ls 4 [(0, .ref b), (1, .ref (h 0)), (2, .ref (g 0)), (3, .int (nI i))]) (k : ∀ (A : St) (M : Nat → Int32) (H : Heap) (locs : List Loc), LwS s D h cI g cJ cZ A M H locs → W p l e room_1 s m #[Value.ref b] below meth c H locs 14 591 Q (F0 m 823 ls [])) : W p l e room_1 s m #[Value.ref b] below meth c H locs 14 591 Q (F0 m 595 ls []) := by
  obtain ⟨hx, hb, hml, hown, hts, hX, hbl, hST, hK, hK2, hap, hL⟩ := C
  obtain ⟨hI, hP, hD, hP2, hD2, hS⟩ := S
  have hbA : ¬ (fun q : Nat => s.heap.size ≤ q) b := Nat.not_le.mpr hbl
  refine lv_aload_n hx hb dL_law_595 rfl (lv_at hl 1 rfl) ?_
  refine n_arg hx hb hX hbl hbA hS 1 (lv_at hl 0 rfl) (lv_at hl 3 rfl) (by omega) (by omega) dL_law_596 dL_law_597 dL_law_598 (by decide) dL_law_599 dL_law_600 ?_
  refine n_arg hx hb hX hbl hbA hS 2 (lv_at hl 0 rfl) (lv_at hl 3 rfl) (by omega) (by omega) dL_law_601 dL_law_602 dL_law_603 (by decide) dL_law_604 dL_law_605 ?_
  refine mu_callV (As := [.int (xs (i + 1)), .int (xs (i + 2))]) (rest := []) ⟨hx, hb, hml, hown, hts⟩ (kX0_hear l D h cI A hI (xs (i + 1)) (xs (i + 2))) (cwV 2 hts gL_law_X0_hear rfl rfl rfl (by decide +kernel) ⟨Nat.le_of_ble_eq_true rfl, Nat.le_of_ble_eq_true rfl⟩) hP hK hD hS (va_recv hK hP (ci := 0) (q0 := 0) rfl rfl) rfl hl.1 rfl (Nat.le_of_ble_eq_true rfl) dL_law_606 ⟨Nat.le_of_ble_eq_true rfl, Nat.le_of_ble_eq_true rfl⟩ (fun H locs hQ hS hk => ?_)
  have hP2 := hP2.off (fun q h1 h2 => hap q h2 h1) hk
  have hP := hQ
  show W _ _ _ _ _ _ _ _ _ _ _ _ _ _ _ (F0 m 609 ls [.int (aHe A (xs (i + 1)) (xs (i + 2)))])
  refine lv_aload_n hx hb dL_law_609 rfl (lv_at hl 2 rfl) ?_
  refine n_arg hx hb hX hbl hbA hS 1 (lv_at hl 0 rfl) (lv_at hl 3 rfl) (by omega) (by omega) dL_law_610 dL_law_611 dL_law_612 (by decide) dL_law_613 dL_law_614 ?_
  refine n_arg hx hb hX hbl hbA hS 2 (lv_at hl 0 rfl) (lv_at hl 3 rfl) (by omega) (by omega) dL_law_615 dL_law_616 dL_law_617 (by decide) dL_law_618 dL_law_619 ?_
  refine mu_callV (As := [.int (xs (i + 1)), .int (xs (i + 2))]) (rest := [.int (aHe A (xs (i + 1)) (xs (i + 2)))]) ⟨hx, hb, hml, hown, hts⟩ (kX1_hear l D g cJ cZ A M hI (xs (i + 1)) (xs (i + 2))) (cwV 2 hts gL_law_X1_hear rfl rfl rfl (by decide +kernel) ⟨Nat.le_of_ble_eq_true rfl, Nat.le_of_ble_eq_true rfl⟩) hP2 hK2 hD2 hS (va_recv hK2 hP2 (ci := 1) (q0 := 0) rfl rfl) rfl hl.1 rfl (Nat.le_of_ble_eq_true rfl) dL_law_620 ⟨Nat.le_of_ble_eq_true rfl, Nat.le_of_ble_eq_true rfl⟩ (fun H locs hQ hS hk => ?_)
  have hP := hP.off (fun q h1 h2 => hap q h1 h2) hk
  have hP2 := hQ
  show W _ _ _ _ _ _ _ _ _ _ _ _ _ _ _ (F0 m 623 ls [.int (aHe A (xs (i + 1)) (xs (i + 2))), .int (aHe A (xs (i + 1)) (xs (i + 2)))])
  exact lv_icmp_eq (tgt := 823) hx hb dL_law_623 (by decide) (fun _ => k (nHe A (xs (i + 1)) (xs (i + 2))) M H locs ⟨iv_He hI _ _, hP, hD.to rfl, hP2, hD2.to rfl, hS⟩) (fun q => absurd rfl q)
set_option maxHeartbeats 4000000 in
set_option maxRecDepth 100000 in
theorem lc_clear {p : Program} {l : Launch} {e : Env} {s : State} {m : MethodId} {below : List Frame} {meth : Method} {c : Code} {b L : Nat} {xs : Nat → Int32} {t : Nat → Nat} {D : va_G} {h : Nat → Nat} {cI : ClassId} {g : Nat → Nat} {cJ cZ : ClassId} {Q : State → Prop} {H : Heap} {locs : List Loc} {A : St} {M : Nat → Int32} {ls : Array Slot} {i : Nat} (C : LwC p s m c b L xs t D h cI g cJ cZ) (S : LwS s D h cI g cJ cZ A M H locs) (hi : i + 5 ≤ L) (hl : lv_has ls 4 [(0, .ref b), (1, .ref (h 0)), (2, .ref (g 0)), (3, .int (nI i))]) (k : ∀ (A : St) (M : Nat → Int32) (H : Heap) (locs : List Loc), LwS s D h cI g cJ cZ A M H locs → W p l e room_1 s m #[Value.ref b] below meth c H locs 14 591 Q (F0 m 823 ls [])) : W p l e room_1 s m #[Value.ref b] below meth c H locs 14 591 Q (F0 m 628 ls []) := by
  obtain ⟨hx, hb, hml, hown, hts, hX, hbl, hST, hK, hK2, hap, hL⟩ := C
  obtain ⟨hI, hP, hD, hP2, hD2, hS⟩ := S
  have hbA : ¬ (fun q : Nat => s.heap.size ≤ q) b := Nat.not_le.mpr hbl
  refine lv_aload_n hx hb dL_law_628 rfl (lv_at hl 1 rfl) ?_
  refine n_arg hx hb hX hbl hbA hS 1 (lv_at hl 0 rfl) (lv_at hl 3 rfl) (by omega) (by omega) dL_law_629 dL_law_630 dL_law_631 (by decide) dL_law_632 dL_law_633 ?_
  refine mu_callV (As := [.int (xs (i + 1))]) (rest := []) ⟨hx, hb, hml, hown, hts⟩ (kX0_clear l D h cI A hI (xs (i + 1))) (cwV 1 hts gL_law_X0_clear rfl rfl rfl (by decide +kernel) ⟨Nat.le_of_ble_eq_true rfl, Nat.le_of_ble_eq_true rfl⟩) hP hK hD hS (va_recv hK hP (ci := 0) (q0 := 0) rfl rfl) rfl hl.1 rfl (Nat.le_of_ble_eq_true rfl) dL_law_634 ⟨Nat.le_of_ble_eq_true rfl, Nat.le_of_ble_eq_true rfl⟩ (fun H locs hQ hS hk => ?_)
  have hP2 := hP2.off (fun q h1 h2 => hap q h2 h1) hk
  have hP := hQ
  show W _ _ _ _ _ _ _ _ _ _ _ _ _ _ _ (F0 m 637 ls [.int (aCl A (xs (i + 1)))])
  refine lv_aload_n hx hb dL_law_637 rfl (lv_at hl 2 rfl) ?_
  refine n_arg hx hb hX hbl hbA hS 1 (lv_at hl 0 rfl) (lv_at hl 3 rfl) (by omega) (by omega) dL_law_638 dL_law_639 dL_law_640 (by decide) dL_law_641 dL_law_642 ?_
  refine mu_callV (As := [.int (xs (i + 1))]) (rest := [.int (aCl A (xs (i + 1)))]) ⟨hx, hb, hml, hown, hts⟩ (kX1_clear l D g cJ cZ A M hI (xs (i + 1))) (cwV 1 hts gL_law_X1_clear rfl rfl rfl (by decide +kernel) ⟨Nat.le_of_ble_eq_true rfl, Nat.le_of_ble_eq_true rfl⟩) hP2 hK2 hD2 hS (va_recv hK2 hP2 (ci := 1) (q0 := 0) rfl rfl) rfl hl.1 rfl (Nat.le_of_ble_eq_true rfl) dL_law_643 ⟨Nat.le_of_ble_eq_true rfl, Nat.le_of_ble_eq_true rfl⟩ (fun H locs hQ hS hk => ?_)
  have hP := hP.off (fun q h1 h2 => hap q h1 h2) hk
  have hP2 := hQ
  show W _ _ _ _ _ _ _ _ _ _ _ _ _ _ _ (F0 m 646 ls [.int (aCl A (xs (i + 1))), .int (aCl A (xs (i + 1)))])
  exact lv_icmp_eq (tgt := 823) hx hb dL_law_646 (by decide) (fun _ => k (nCl A (xs (i + 1))) M H locs ⟨iv_Cl hI _, hP, hD.to rfl, hP2, hD2.to rfl, hS⟩) (fun q => absurd rfl q)
