set_option maxHeartbeats 8000000 in
set_option maxRecDepth 100000 in
theorem odds_5 {p : Program} {l : Launch} {e : Env} {s : State} {m : MethodId} {args : Array Value} {below : List Frame} {meth : Method} {c : Code} {Q : State → Prop} (hlt : l.stackTraces = false) {D : va_G} {cyI cyZ : ClassId} {ad : Nat → Nat} {A : Nat → Prop} (hx : p.tables.exec = Jvm.exec) (hb : c.code = cL_odds) (hml : c.maxLocals = 1) (hown : s.vm.findClass RL = some m.cls) (hts : ∀ w ∈ wsL_odds, w.before args s = true) (hG : gP D cyI cyZ s) (hz : zqA A s s.heap) (hn : zn s) (hA : ∀ q : Nat, s.heap.size ≤ q → A q)
    (KK : ∀ (H : Heap) (locs : List Loc) (ls : Array Slot), va_P D vwCl (wZ cyI cyZ ad oT7 oT13 oT17 oT18 (fun _ => 0) (fun _ => 0) oL19 1) H → va_D A (wZ cyI cyZ ad oT7 oT13 oT17 oT18 (fun _ => 0) (fun _ => 0) oL19 1) → va_S A s.heap H locs → lv_has ls 1 [(0, .ref (ad 0))] → W p l e (headSpec wsL_odds ({ frames := 11, cells := 843, slots := 7480, locals := 231 } : Room)).room s m args below meth c H locs 357 4564 Q (F0 m 481 ls [])) : ∀ (H : Heap) (locs : List Loc) (ls : Array Slot), va_P D vwCl (wZ cyI cyZ ad oT7 oT13 oT15 t00 (fun _ => 0) (fun _ => 0) l00 0) H → va_D A (wZ cyI cyZ ad oT7 oT13 oT15 t00 (fun _ => 0) (fun _ => 0) l00 0) → va_S A s.heap H locs → lv_has ls 1 [(0, .ref (ad 0))] → W p l e (headSpec wsL_odds ({ frames := 11, cells := 843, slots := 7480, locals := 231 } : Room)).room s m args below meth c H locs 357 4564 Q (F0 m 387 ls []) := by
  intro H locs ls hP hD hS hl
  refine lv_aload_n hx hb dL_odds_387 rfl (lv_at hl 0 rfl) ?_
  refine lv_iconst (v := 2) hx hb dL_odds_388 (by decide) ?_
  refine lv_bipush (v := 6) hx hb dL_odds_389 (by decide) ?_
  refine mo_i (va_runV (As := [.int 2, .int 6]) (rest := []) ⟨hx, hb, hml, hown, hts⟩ (k_X2_removeRow l D cyI cyZ ad oT7 oT13 oT15 t00 (fun _ => 0) (fun _ => 0) l00 0 2 6 _ _ rfl ov37x) (cwV 2 hts gL_odds_X2_removeRow rfl rfl rfl (by decide +kernel) ⟨Nat.le_of_ble_eq_true rfl, Nat.le_of_ble_eq_true rfl⟩) (pmV hG hP hD (ci := 2) rfl rfl rfl) rfl rfl hl.1 rfl (lv_room (Nat.le_of_ble_eq_true rfl)) dL_odds_391 ⟨Nat.le_of_ble_eq_true rfl, Nat.le_of_ble_eq_true rfl⟩) hD hS hA (ov37v) (wE_z ov37b ov37o ov37t tE.rf aE.rf aE.rf lE.rf ov37f) (fun H locs hP hD hS => ?_)
  refine lv_iconst (v := 1) hx hb dL_odds_394 (by decide) ?_
  refine lv_icmp_ne (tgt := 589) hx hb dL_odds_395 (by decide) (fun c9 => absurd (by decide) c9) (fun _ => ?_)
  refine lv_aload_n hx hb dL_odds_398 rfl (lv_at hl 0 rfl) ?_
  refine lv_iconst (v := 2) hx hb dL_odds_399 (by decide) ?_
  refine lv_iconst (v := 1) hx hb dL_odds_400 (by decide) ?_
  refine lv_bipush (v := 21) hx hb dL_odds_401 (by decide) ?_
  refine mo_i (va_runV (As := [.int 2, .int 1, .int 21]) (rest := []) ⟨hx, hb, hml, hown, hts⟩ (k_X2_rename l D cyI cyZ ad oT7 oT13 oT16 t00 (fun _ => 0) (fun _ => 0) l00 0 2 1 21 _ _ rfl ov38x) (cwV 3 hts gL_odds_X2_rename rfl rfl rfl (by decide +kernel) ⟨Nat.le_of_ble_eq_true rfl, Nat.le_of_ble_eq_true rfl⟩) (pmV hG hP hD (ci := 2) rfl rfl rfl) rfl rfl hl.1 rfl (lv_room (Nat.le_of_ble_eq_true rfl)) dL_odds_403 ⟨Nat.le_of_ble_eq_true rfl, Nat.le_of_ble_eq_true rfl⟩) hD hS hA (ov38v) (wE_z ov38b ov38o ov38t tE.rf aE.rf aE.rf lE.rf ov38f) (fun H locs hP hD hS => ?_)
  refine lv_bipush (v := 11) hx hb dL_odds_406 (by decide) ?_
  refine lv_icmp_ne (tgt := 589) hx hb dL_odds_408 (by decide) (fun c9 => absurd (by decide) c9) (fun _ => ?_)
  refine lv_aload_n hx hb dL_odds_411 rfl (lv_at hl 0 rfl) ?_
  refine lv_iconst (v := 2) hx hb dL_odds_412 (by decide) ?_
  refine po_i (va_runV (As := [.int 2]) (rest := []) ⟨hx, hb, hml, hown, hts⟩ (k_X2_changes l D cyI cyZ ad oT7 oT13 oT17 t00 (fun _ => 0) (fun _ => 0) l00 0 2 ov39x) (cwV 1 hts gL_odds_X2_changes rfl rfl rfl (by decide +kernel) ⟨Nat.le_of_ble_eq_true rfl, Nat.le_of_ble_eq_true rfl⟩) (prV hG hP (ci := 2) rfl rfl rfl) rfl rfl hl.1 rfl (lv_room (Nat.le_of_ble_eq_true rfl)) dL_odds_413 ⟨Nat.le_of_ble_eq_true rfl, Nat.le_of_ble_eq_true rfl⟩) hS hP (ov39v) (fun H locs hP hS => ?_)
  refine lv_iconst (v := 4) hx hb dL_odds_416 (by decide) ?_
  refine lv_icmp_ne (tgt := 589) hx hb dL_odds_417 (by decide) (fun c9 => absurd (by decide) c9) (fun _ => ?_)
  refine lv_aload_n hx hb dL_odds_420 rfl (lv_at hl 0 rfl) ?_
  refine mo_i (va_runV (As := []) (rest := []) ⟨hx, hb, hml, hown, hts⟩ (k_X2_merge l D cyI cyZ ad oT7 oT13 oT17 t00 (fun _ => 0) (fun _ => 0) l00 0 _ _ rfl) (cwV 0 hts gL_odds_X2_merge rfl rfl rfl (by decide +kernel) ⟨Nat.le_of_ble_eq_true rfl, Nat.le_of_ble_eq_true rfl⟩) (pmV hG hP hD (ci := 2) rfl rfl rfl) rfl rfl hl.1 rfl (lv_room (Nat.le_of_ble_eq_true rfl)) dL_odds_421 ⟨Nat.le_of_ble_eq_true rfl, Nat.le_of_ble_eq_true rfl⟩) hD hS hA (ov40v) (wE_z tE.rf tE.rf tE.rf ov40q.2.1 aE.rf aE.rf ov40l ov40q.2.2.2) (fun H locs hP hD hS => ?_)
  refine lv_iconst (v := 4) hx hb dL_odds_424 (by decide) ?_
  refine lv_icmp_ne (tgt := 589) hx hb dL_odds_425 (by decide) (fun c9 => absurd (by decide) c9) (fun _ => ?_)
  refine lv_aload_n hx hb dL_odds_428 rfl (lv_at hl 0 rfl) ?_
  refine po_i (va_runV (As := []) (rest := []) ⟨hx, hb, hml, hown, hts⟩ (k_X2_open l D cyI cyZ ad oT7 oT13 oT17 oT18 (fun _ => 0) (fun _ => 0) oL19 1) (cwV 0 hts gL_odds_X2_open rfl rfl rfl (by decide +kernel) ⟨Nat.le_of_ble_eq_true rfl, Nat.le_of_ble_eq_true rfl⟩) (prV hG hP (ci := 2) rfl rfl rfl) rfl rfl hl.1 rfl (lv_room (Nat.le_of_ble_eq_true rfl)) dL_odds_429 ⟨Nat.le_of_ble_eq_true rfl, Nat.le_of_ble_eq_true rfl⟩) hS hP (ov41v) (fun H locs hP hS => ?_)
  refine lv_iconst (v := 4) hx hb dL_odds_432 (by decide) ?_
  refine lv_icmp_ne (tgt := 589) hx hb dL_odds_433 (by decide) (fun c9 => absurd (by decide) c9) (fun _ => ?_)
  refine lv_aload_n hx hb dL_odds_436 rfl (lv_at hl 0 rfl) ?_
  refine lv_iconst (v := 0) hx hb dL_odds_437 (by decide) ?_
  refine lv_iconst (v := 4) hx hb dL_odds_438 (by decide) ?_
  refine lv_iconst (v := (-1)) hx hb dL_odds_439 (by decide) ?_
  refine lv_iconst (v := 1) hx hb dL_odds_440 (by decide) ?_
  refine po_i (va_runS (As := [.ref (ad 0), .int 0, .int 4, .int (-1), .int 1]) (rest := []) ⟨hx, hb, hml, hown, hts⟩ (k_L_is l D cyI cyZ ad oT7 oT13 oT17 oT18 (fun _ => 0) (fun _ => 0) oL19 1 0 4 (-1) 1 ov42x ov42k ov42y ov42c) (va_cwS 5 hts gL_odds_L_is rfl rfl rfl (by decide +kernel) ⟨Nat.le_of_ble_eq_true rfl, Nat.le_of_ble_eq_true rfl⟩) (prS hG hP) rfl rfl hl.1 rfl (lv_room (Nat.le_of_ble_eq_true rfl)) dL_odds_441 ⟨Nat.le_of_ble_eq_true rfl, Nat.le_of_ble_eq_true rfl⟩) hS hP rfl (fun H locs hP hS => ?_)
  refine lv_if_eq (tgt := 589) hx hb dL_odds_444 (by decide) (fun c9 => absurd c9 (by decide)) (fun _ => ?_)
  refine lv_aload_n hx hb dL_odds_447 rfl (lv_at hl 0 rfl) ?_
  refine lv_iconst (v := 1) hx hb dL_odds_448 (by decide) ?_
  refine lv_iconst (v := 3) hx hb dL_odds_449 (by decide) ?_
  refine lv_iconst (v := (-1)) hx hb dL_odds_450 (by decide) ?_
  refine lv_iconst (v := 2) hx hb dL_odds_451 (by decide) ?_
  refine po_i (va_runS (As := [.ref (ad 0), .int 1, .int 3, .int (-1), .int 2]) (rest := []) ⟨hx, hb, hml, hown, hts⟩ (k_L_is l D cyI cyZ ad oT7 oT13 oT17 oT18 (fun _ => 0) (fun _ => 0) oL19 1 1 3 (-1) 2 ov43x ov43k ov43y ov43c) (va_cwS 5 hts gL_odds_L_is rfl rfl rfl (by decide +kernel) ⟨Nat.le_of_ble_eq_true rfl, Nat.le_of_ble_eq_true rfl⟩) (prS hG hP) rfl rfl hl.1 rfl (lv_room (Nat.le_of_ble_eq_true rfl)) dL_odds_452 ⟨Nat.le_of_ble_eq_true rfl, Nat.le_of_ble_eq_true rfl⟩) hS hP rfl (fun H locs hP hS => ?_)
  refine lv_if_eq (tgt := 589) hx hb dL_odds_455 (by decide) (fun c9 => absurd c9 (by decide)) (fun _ => ?_)
  refine lv_aload_n hx hb dL_odds_458 rfl (lv_at hl 0 rfl) ?_
  refine lv_iconst (v := 2) hx hb dL_odds_459 (by decide) ?_
  refine lv_iconst (v := 2) hx hb dL_odds_460 (by decide) ?_
  refine lv_bipush (v := 6) hx hb dL_odds_461 (by decide) ?_
  refine lv_iconst (v := (-1)) hx hb dL_odds_463 (by decide) ?_
  refine po_i (va_runS (As := [.ref (ad 0), .int 2, .int 2, .int 6, .int (-1)]) (rest := []) ⟨hx, hb, hml, hown, hts⟩ (k_L_is l D cyI cyZ ad oT7 oT13 oT17 oT18 (fun _ => 0) (fun _ => 0) oL19 1 2 2 6 (-1) ov44x ov44k ov44y ov44c) (va_cwS 5 hts gL_odds_L_is rfl rfl rfl (by decide +kernel) ⟨Nat.le_of_ble_eq_true rfl, Nat.le_of_ble_eq_true rfl⟩) (prS hG hP) rfl rfl hl.1 rfl (lv_room (Nat.le_of_ble_eq_true rfl)) dL_odds_464 ⟨Nat.le_of_ble_eq_true rfl, Nat.le_of_ble_eq_true rfl⟩) hS hP rfl (fun H locs hP hS => ?_)
  refine lv_if_eq (tgt := 589) hx hb dL_odds_467 (by decide) (fun c9 => absurd c9 (by decide)) (fun _ => ?_)
  refine lv_aload_n hx hb dL_odds_470 rfl (lv_at hl 0 rfl) ?_
  refine lv_iconst (v := 3) hx hb dL_odds_471 (by decide) ?_
  refine lv_iconst (v := 1) hx hb dL_odds_472 (by decide) ?_
  refine lv_iconst (v := 5) hx hb dL_odds_473 (by decide) ?_
  refine lv_iconst (v := 0) hx hb dL_odds_474 (by decide) ?_
  refine po_i (va_runS (As := [.ref (ad 0), .int 3, .int 1, .int 5, .int 0]) (rest := []) ⟨hx, hb, hml, hown, hts⟩ (k_L_is l D cyI cyZ ad oT7 oT13 oT17 oT18 (fun _ => 0) (fun _ => 0) oL19 1 3 1 5 0 ov45x ov45k ov45y ov45c) (va_cwS 5 hts gL_odds_L_is rfl rfl rfl (by decide +kernel) ⟨Nat.le_of_ble_eq_true rfl, Nat.le_of_ble_eq_true rfl⟩) (prS hG hP) rfl rfl hl.1 rfl (lv_room (Nat.le_of_ble_eq_true rfl)) dL_odds_475 ⟨Nat.le_of_ble_eq_true rfl, Nat.le_of_ble_eq_true rfl⟩) hS hP rfl (fun H locs hP hS => ?_)
  refine lv_if_eq (tgt := 589) hx hb dL_odds_478 (by decide) (fun c9 => absurd c9 (by decide)) (fun _ => ?_)
  exact KK H locs ls hP hD hS hl
set_option maxHeartbeats 8000000 in
set_option maxRecDepth 100000 in
theorem odds_6 {p : Program} {l : Launch} {e : Env} {s : State} {m : MethodId} {args : Array Value} {below : List Frame} {meth : Method} {c : Code} {Q : State → Prop} (hlt : l.stackTraces = false) {D : va_G} {cyI cyZ : ClassId} {ad : Nat → Nat} {A : Nat → Prop} (hx : p.tables.exec = Jvm.exec) (hb : c.code = cL_odds) (hml : c.maxLocals = 1) (hown : s.vm.findClass RL = some m.cls) (hts : ∀ w ∈ wsL_odds, w.before args s = true) (hG : gP D cyI cyZ s) (hz : zqA A s s.heap) (hn : zn s) (hA : ∀ q : Nat, s.heap.size ≤ q → A q)
    (KK : ∀ (H : Heap) (locs : List Loc) (ls : Array Slot), va_P D vwCl (wZ cyI cyZ ad oT7 oT13 oT17 oT18 (fun _ => 0) (fun _ => 0) oL19 1) H → va_D A (wZ cyI cyZ ad oT7 oT13 oT17 oT18 (fun _ => 0) (fun _ => 0) oL19 1) → va_S A s.heap H locs → lv_has ls 1 [(0, .ref (ad 0))] → W p l e (headSpec wsL_odds ({ frames := 11, cells := 843, slots := 7480, locals := 231 } : Room)).room s m args below meth c H locs 549 5716 Q (F0 m 579 ls [])) : ∀ (H : Heap) (locs : List Loc) (ls : Array Slot), va_P D vwCl (wZ cyI cyZ ad oT7 oT13 oT17 oT18 (fun _ => 0) (fun _ => 0) oL19 1) H → va_D A (wZ cyI cyZ ad oT7 oT13 oT17 oT18 (fun _ => 0) (fun _ => 0) oL19 1) → va_S A s.heap H locs → lv_has ls 1 [(0, .ref (ad 0))] → W p l e (headSpec wsL_odds ({ frames := 11, cells := 843, slots := 7480, locals := 231 } : Room)).room s m args below meth c H locs 357 4564 Q (F0 m 481 ls []) := by
  intro H locs ls hP hD hS hl
  refine lv_aload_n hx hb dL_odds_481 rfl (lv_at hl 0 rfl) ?_
  refine lv_iconst (v := 3) hx hb dL_odds_482 (by decide) ?_
  refine po_i (va_runV (As := [.int 3]) (rest := []) ⟨hx, hb, hml, hown, hts⟩ (k_X2_columns l D cyI cyZ ad oT7 oT13 oT17 oT18 (fun _ => 0) (fun _ => 0) oL19 1 3 ov46x) (cwV 1 hts gL_odds_X2_columns rfl rfl rfl (by decide +kernel) ⟨Nat.le_of_ble_eq_true rfl, Nat.le_of_ble_eq_true rfl⟩) (prV hG hP (ci := 2) rfl rfl rfl) rfl rfl hl.1 rfl (lv_room (Nat.le_of_ble_eq_true rfl)) dL_odds_483 ⟨Nat.le_of_ble_eq_true rfl, Nat.le_of_ble_eq_true rfl⟩) hS hP (ov46v) (fun H locs hP hS => ?_)
  refine lv_bipush (v := 7) hx hb dL_odds_486 (by decide) ?_
  refine lv_icmp_ne (tgt := 589) hx hb dL_odds_488 (by decide) (fun c9 => absurd (by decide) c9) (fun _ => ?_)
  refine lv_aload_n hx hb dL_odds_491 rfl (lv_at hl 0 rfl) ?_
  refine lv_iconst (v := 3) hx hb dL_odds_492 (by decide) ?_
  refine po_i (va_runV (As := [.int 3]) (rest := []) ⟨hx, hb, hml, hown, hts⟩ (k_X2_rows l D cyI cyZ ad oT7 oT13 oT17 oT18 (fun _ => 0) (fun _ => 0) oL19 1 3 ov47x) (cwV 1 hts gL_odds_X2_rows rfl rfl rfl (by decide +kernel) ⟨Nat.le_of_ble_eq_true rfl, Nat.le_of_ble_eq_true rfl⟩) (prV hG hP (ci := 2) rfl rfl rfl) rfl rfl hl.1 rfl (lv_room (Nat.le_of_ble_eq_true rfl)) dL_odds_493 ⟨Nat.le_of_ble_eq_true rfl, Nat.le_of_ble_eq_true rfl⟩) hS hP (ov47v) (fun H locs hP hS => ?_)
  refine lv_sipush (v := 224) hx hb dL_odds_496 (by decide) ?_
  refine lv_icmp_ne (tgt := 589) hx hb dL_odds_499 (by decide) (fun c9 => absurd (by decide) c9) (fun _ => ?_)
  refine lv_aload_n hx hb dL_odds_502 rfl (lv_at hl 0 rfl) ?_
  refine lv_iconst (v := 3) hx hb dL_odds_503 (by decide) ?_
  refine lv_iconst (v := 1) hx hb dL_odds_504 (by decide) ?_
  refine po_i (va_runV (As := [.int 3, .int 1]) (rest := []) ⟨hx, hb, hml, hown, hts⟩ (k_X2_name l D cyI cyZ ad oT7 oT13 oT17 oT18 (fun _ => 0) (fun _ => 0) oL19 1 3 1 ov48x) (cwV 2 hts gL_odds_X2_name rfl rfl rfl (by decide +kernel) ⟨Nat.le_of_ble_eq_true rfl, Nat.le_of_ble_eq_true rfl⟩) (prV hG hP (ci := 2) rfl rfl rfl) rfl rfl hl.1 rfl (lv_room (Nat.le_of_ble_eq_true rfl)) dL_odds_505 ⟨Nat.le_of_ble_eq_true rfl, Nat.le_of_ble_eq_true rfl⟩) hS hP (ov48v) (fun H locs hP hS => ?_)
  refine lv_bipush (v := 20) hx hb dL_odds_508 (by decide) ?_
  refine lv_icmp_ne (tgt := 589) hx hb dL_odds_510 (by decide) (fun c9 => absurd (by decide) c9) (fun _ => ?_)
  refine lv_aload_n hx hb dL_odds_513 rfl (lv_at hl 0 rfl) ?_
  refine lv_iconst (v := 3) hx hb dL_odds_514 (by decide) ?_
  refine lv_iconst (v := 5) hx hb dL_odds_515 (by decide) ?_
  refine lv_iconst (v := 0) hx hb dL_odds_516 (by decide) ?_
  refine po_i (va_runV (As := [.int 3, .int 5, .int 0]) (rest := []) ⟨hx, hb, hml, hown, hts⟩ (k_X2_get l D cyI cyZ ad oT7 oT13 oT17 oT18 (fun _ => 0) (fun _ => 0) oL19 1 3 5 0 ov49x) (cwV 3 hts gL_odds_X2_get rfl rfl rfl (by decide +kernel) ⟨Nat.le_of_ble_eq_true rfl, Nat.le_of_ble_eq_true rfl⟩) (prV hG hP (ci := 2) rfl rfl rfl) rfl rfl hl.1 rfl (lv_room (Nat.le_of_ble_eq_true rfl)) dL_odds_517 ⟨Nat.le_of_ble_eq_true rfl, Nat.le_of_ble_eq_true rfl⟩) hS hP (ov49v) (fun H locs hP hS => ?_)
  refine lv_bipush (v := 101) hx hb dL_odds_520 (by decide) ?_
  refine lv_icmp_ne (tgt := 589) hx hb dL_odds_522 (by decide) (fun c9 => absurd (by decide) c9) (fun _ => ?_)
  refine lv_aload_n hx hb dL_odds_525 rfl (lv_at hl 0 rfl) ?_
  refine lv_iconst (v := 3) hx hb dL_odds_526 (by decide) ?_
  refine lv_iconst (v := 5) hx hb dL_odds_527 (by decide) ?_
  refine lv_iconst (v := 2) hx hb dL_odds_528 (by decide) ?_
  refine po_i (va_runV (As := [.int 3, .int 5, .int 2]) (rest := []) ⟨hx, hb, hml, hown, hts⟩ (k_X2_get l D cyI cyZ ad oT7 oT13 oT17 oT18 (fun _ => 0) (fun _ => 0) oL19 1 3 5 2 ov50x) (cwV 3 hts gL_odds_X2_get rfl rfl rfl (by decide +kernel) ⟨Nat.le_of_ble_eq_true rfl, Nat.le_of_ble_eq_true rfl⟩) (prV hG hP (ci := 2) rfl rfl rfl) rfl rfl hl.1 rfl (lv_room (Nat.le_of_ble_eq_true rfl)) dL_odds_529 ⟨Nat.le_of_ble_eq_true rfl, Nat.le_of_ble_eq_true rfl⟩) hS hP (ov50v) (fun H locs hP hS => ?_)
  refine lv_iconst (v := 3) hx hb dL_odds_532 (by decide) ?_
  refine lv_icmp_ne (tgt := 589) hx hb dL_odds_533 (by decide) (fun c9 => absurd (by decide) c9) (fun _ => ?_)
  refine lv_aload_n hx hb dL_odds_536 rfl (lv_at hl 0 rfl) ?_
  refine lv_iconst (v := 3) hx hb dL_odds_537 (by decide) ?_
  refine lv_bipush (v := 6) hx hb dL_odds_538 (by decide) ?_
  refine lv_iconst (v := 1) hx hb dL_odds_540 (by decide) ?_
  refine po_i (va_runV (As := [.int 3, .int 6, .int 1]) (rest := []) ⟨hx, hb, hml, hown, hts⟩ (k_X2_get l D cyI cyZ ad oT7 oT13 oT17 oT18 (fun _ => 0) (fun _ => 0) oL19 1 3 6 1 ov51x) (cwV 3 hts gL_odds_X2_get rfl rfl rfl (by decide +kernel) ⟨Nat.le_of_ble_eq_true rfl, Nat.le_of_ble_eq_true rfl⟩) (prV hG hP (ci := 2) rfl rfl rfl) rfl rfl hl.1 rfl (lv_room (Nat.le_of_ble_eq_true rfl)) dL_odds_541 ⟨Nat.le_of_ble_eq_true rfl, Nat.le_of_ble_eq_true rfl⟩) hS hP (ov51v) (fun H locs hP hS => ?_)
  refine lv_bipush (v := 8) hx hb dL_odds_544 (by decide) ?_
  refine lv_icmp_ne (tgt := 589) hx hb dL_odds_546 (by decide) (fun c9 => absurd (by decide) c9) (fun _ => ?_)
  refine lv_aload_n hx hb dL_odds_549 rfl (lv_at hl 0 rfl) ?_
  refine lv_iconst (v := 3) hx hb dL_odds_550 (by decide) ?_
  refine lv_bipush (v := 6) hx hb dL_odds_551 (by decide) ?_
  refine lv_iconst (v := 2) hx hb dL_odds_553 (by decide) ?_
  refine po_i (va_runV (As := [.int 3, .int 6, .int 2]) (rest := []) ⟨hx, hb, hml, hown, hts⟩ (k_X2_get l D cyI cyZ ad oT7 oT13 oT17 oT18 (fun _ => 0) (fun _ => 0) oL19 1 3 6 2 ov52x) (cwV 3 hts gL_odds_X2_get rfl rfl rfl (by decide +kernel) ⟨Nat.le_of_ble_eq_true rfl, Nat.le_of_ble_eq_true rfl⟩) (prV hG hP (ci := 2) rfl rfl rfl) rfl rfl hl.1 rfl (lv_room (Nat.le_of_ble_eq_true rfl)) dL_odds_554 ⟨Nat.le_of_ble_eq_true rfl, Nat.le_of_ble_eq_true rfl⟩) hS hP (ov52v) (fun H locs hP hS => ?_)
  refine lv_if_ne (tgt := 589) hx hb dL_odds_557 (by decide) (fun c9 => absurd (by decide) c9) (fun _ => ?_)
  refine lv_aload_n hx hb dL_odds_560 rfl (lv_at hl 0 rfl) ?_
  refine lv_iconst (v := 3) hx hb dL_odds_561 (by decide) ?_
  refine lv_bipush (v := 7) hx hb dL_odds_562 (by decide) ?_
  refine lv_iconst (v := 0) hx hb dL_odds_564 (by decide) ?_
  refine po_i (va_runV (As := [.int 3, .int 7, .int 0]) (rest := []) ⟨hx, hb, hml, hown, hts⟩ (k_X2_get l D cyI cyZ ad oT7 oT13 oT17 oT18 (fun _ => 0) (fun _ => 0) oL19 1 3 7 0 ov53x) (cwV 3 hts gL_odds_X2_get rfl rfl rfl (by decide +kernel) ⟨Nat.le_of_ble_eq_true rfl, Nat.le_of_ble_eq_true rfl⟩) (prV hG hP (ci := 2) rfl rfl rfl) rfl rfl hl.1 rfl (lv_room (Nat.le_of_ble_eq_true rfl)) dL_odds_565 ⟨Nat.le_of_ble_eq_true rfl, Nat.le_of_ble_eq_true rfl⟩) hS hP (ov53v) (fun H locs hP hS => ?_)
  refine lv_iconst (v := 1) hx hb dL_odds_568 (by decide) ?_
  refine lv_icmp_ne (tgt := 589) hx hb dL_odds_569 (by decide) (fun c9 => absurd (by decide) c9) (fun _ => ?_)
  refine lv_aload_n hx hb dL_odds_572 rfl (lv_at hl 0 rfl) ?_
  refine mo_i (va_runS (As := [.ref (ad 0)]) (rest := []) ⟨hx, hb, hml, hown, hts⟩ (k_L_agrees l hlt D cyI cyZ ad oT7 oT13 oT17 oT18 (fun _ => 0) (fun _ => 0) oL19 1 _ _ rfl tI_oT7 tI_oT13 tI_oT17 ov40m.w ov54n) (va_cwS 1 hts gL_odds_L_agrees rfl rfl rfl (by decide +kernel) ⟨Nat.le_of_ble_eq_true rfl, Nat.le_of_ble_eq_true rfl⟩) (poS hG hz hn hP hD hS hA) rfl rfl hl.1 rfl (lv_room (Nat.le_of_ble_eq_true rfl)) dL_odds_573 ⟨Nat.le_of_ble_eq_true rfl, Nat.le_of_ble_eq_true rfl⟩) hD hS hA rfl wE.rf (fun H locs hP hD hS => ?_)
  refine W.widen (k := 549) (n := 5716) (Nat.le_of_ble_eq_true rfl) (Nat.le_of_ble_eq_true rfl) ?_
  refine lv_if_eq (tgt := 589) hx hb dL_odds_576 (by decide) (fun c9 => absurd c9 (by decide)) (fun _ => ?_)
  exact KK H locs ls hP hD hS hl
set_option maxHeartbeats 8000000 in
set_option maxRecDepth 100000 in
theorem odds_7 {p : Program} {l : Launch} {e : Env} {s : State} {m : MethodId} {args : Array Value} {below : List Frame} {meth : Method} {c : Code} {Q : State → Prop} (hlt : l.stackTraces = false) {D : va_G} {cyI cyZ : ClassId} {ad : Nat → Nat} {A : Nat → Prop} (hx : p.tables.exec = Jvm.exec) (hb : c.code = cL_odds) (hml : c.maxLocals = 1) (hown : s.vm.findClass RL = some m.cls) (hts : ∀ w ∈ wsL_odds, w.before args s = true) (hG : gP D cyI cyZ s) (hz : zqA A s s.heap) (hn : zn s) (hA : ∀ q : Nat, s.heap.size ≤ q → A q)
    (KK : ∀ (H : Heap) (locs : List Loc) (ls : Array Slot), va_P D vwCl (wZ cyI cyZ ad oT7 oT13 oT17 oT24 (fun _ => 0) (fun _ => 0) oL25 1) H → va_D A (wZ cyI cyZ ad oT7 oT13 oT17 oT24 (fun _ => 0) (fun _ => 0) oL25 1) → va_S A s.heap H locs → lv_has ls 1 [(0, .ref (ad 0))] → W p l e (headSpec wsL_odds ({ frames := 11, cells := 843, slots := 7480, locals := 231 } : Room)).room s m args below meth c H locs 695 6592 Q (F0 m 685 ls [])) : ∀ (H : Heap) (locs : List Loc) (ls : Array Slot), va_P D vwCl (wZ cyI cyZ ad oT7 oT13 oT17 oT18 (fun _ => 0) (fun _ => 0) oL19 1) H → va_D A (wZ cyI cyZ ad oT7 oT13 oT17 oT18 (fun _ => 0) (fun _ => 0) oL19 1) → va_S A s.heap H locs → lv_has ls 1 [(0, .ref (ad 0))] → W p l e (headSpec wsL_odds ({ frames := 11, cells := 843, slots := 7480, locals := 231 } : Room)).room s m args below meth c H locs 549 5716 Q (F0 m 579 ls []) := by
  intro H locs ls hP hD hS hl
  refine lv_aload_n hx hb dL_odds_579 rfl (lv_at hl 0 rfl) ?_
  refine lv_bipush (v := 7) hx hb dL_odds_580 (by decide) ?_
  refine lv_iconst (v := 1) hx hb dL_odds_582 (by decide) ?_
  refine mo_i (va_runS (As := [.ref (ad 0), .int 7, .int 1]) (rest := []) ⟨hx, hb, hml, hown, hts⟩ (k_L_refuses l hlt D cyI cyZ ad oT7 oT13 oT17 oT18 (fun _ => 0) (fun _ => 0) oL19 1 7 1 _ _ rfl ov55r ov55c) (va_cwS 3 hts gL_odds_L_refuses rfl rfl rfl (by decide +kernel) ⟨Nat.le_of_ble_eq_true rfl, Nat.le_of_ble_eq_true rfl⟩) (poS hG hz hn hP hD hS hA) rfl rfl hl.1 rfl (lv_room (Nat.le_of_ble_eq_true rfl)) dL_odds_583 ⟨Nat.le_of_ble_eq_true rfl, Nat.le_of_ble_eq_true rfl⟩) hD hS hA rfl wE.rf (fun H locs hP hD hS => ?_)
  refine W.widen (k := 693) (n := 6580) (Nat.le_of_ble_eq_true rfl) (Nat.le_of_ble_eq_true rfl) ?_
  refine lv_if_ne (tgt := 591) hx hb dL_odds_586 (by decide) (fun _ => ?_) (fun c9 => absurd c9 (by decide))
  refine lv_aload_n hx hb dL_odds_591 rfl (lv_at hl 0 rfl) ?_
  refine lv_bipush (v := 13) hx hb dL_odds_592 (by decide) ?_
  refine lv_iconst (v := 0) hx hb dL_odds_594 (by decide) ?_
  refine lv_iconst (v := 0) hx hb dL_odds_595 (by decide) ?_
  refine lv_iconst (v := 0) hx hb dL_odds_596 (by decide) ?_
  refine lv_iconst (v := 0) hx hb dL_odds_597 (by decide) ?_
  refine mo_i (vx_runSW (As := [.ref (ad 0), .int 13, .int 0, .int 0, .int 0, .int 0]) (rest := []) ⟨hx, hb, hml, hown, hts⟩ (t_A13_3 l hlt D cyI cyZ ad oT7 oT13 oT17 oT18 (fun _ => 0) (fun _ => 0) oL19 1 0 0 0 0 _ _ rfl ov56x) (vx_cwSW 6 hts gL_odds_L_act rfl rfl rfl (by decide +kernel) ⟨Nat.le_of_ble_eq_true rfl, Nat.le_of_ble_eq_true rfl⟩) (poS hG hz hn hP hD hS hA) rfl rfl hl.1 rfl (lv_room (Nat.le_of_ble_eq_true rfl)) dL_odds_598 ⟨Nat.le_of_ble_eq_true rfl, Nat.le_of_ble_eq_true rfl⟩) hD hS hA (rfl) (wE.rf) (fun H locs hP hD hS => ?_)
  refine W.widen (k := 694) (n := 6586) (Nat.le_of_ble_eq_true rfl) (Nat.le_of_ble_eq_true rfl) ?_
  refine lv_sipush (v := (-20003)) hx hb dL_odds_601 (by decide) ?_
  refine lv_icmp_ne (tgt := 809) hx hb dL_odds_604 (by decide) (fun c9 => absurd (by decide) c9) (fun _ => ?_)
  refine lv_aload_n hx hb dL_odds_607 rfl (lv_at hl 0 rfl) ?_
  refine lv_iconst (v := 3) hx hb dL_odds_608 (by decide) ?_
  refine lv_iconst (v := 2) hx hb dL_odds_609 (by decide) ?_
  refine mo_i (va_runV (As := [.int 3, .int 2]) (rest := []) ⟨hx, hb, hml, hown, hts⟩ (k_X2_settle l D cyI cyZ ad oT7 oT13 oT17 oT18 (fun _ => 0) (fun _ => 0) oL19 1 3 2 _ _ rfl ov57x) (cwV 2 hts gL_odds_X2_settle rfl rfl rfl (by decide +kernel) ⟨Nat.le_of_ble_eq_true rfl, Nat.le_of_ble_eq_true rfl⟩) (pmV hG hP hD (ci := 2) rfl rfl rfl) rfl rfl hl.1 rfl (lv_room (Nat.le_of_ble_eq_true rfl)) dL_odds_610 ⟨Nat.le_of_ble_eq_true rfl, Nat.le_of_ble_eq_true rfl⟩) hD hS hA (ov57v) (wE_z tE.rf tE.rf tE.rf ov57m aE.rf aE.rf ov57l rfl) (fun H locs hP hD hS => ?_)
  refine lv_iconst (v := 3) hx hb dL_odds_613 (by decide) ?_
  refine lv_icmp_ne (tgt := 809) hx hb dL_odds_614 (by decide) (fun c9 => absurd (by decide) c9) (fun _ => ?_)
  refine lv_aload_n hx hb dL_odds_617 rfl (lv_at hl 0 rfl) ?_
  refine lv_iconst (v := 3) hx hb dL_odds_618 (by decide) ?_
  refine lv_iconst (v := 5) hx hb dL_odds_619 (by decide) ?_
  refine lv_iconst (v := 0) hx hb dL_odds_620 (by decide) ?_
  refine po_i (va_runV (As := [.int 3, .int 5, .int 0]) (rest := []) ⟨hx, hb, hml, hown, hts⟩ (k_X2_get l D cyI cyZ ad oT7 oT13 oT17 oT20 (fun _ => 0) (fun _ => 0) oL21 1 3 5 0 ov58x) (cwV 3 hts gL_odds_X2_get rfl rfl rfl (by decide +kernel) ⟨Nat.le_of_ble_eq_true rfl, Nat.le_of_ble_eq_true rfl⟩) (prV hG hP (ci := 2) rfl rfl rfl) rfl rfl hl.1 rfl (lv_room (Nat.le_of_ble_eq_true rfl)) dL_odds_621 ⟨Nat.le_of_ble_eq_true rfl, Nat.le_of_ble_eq_true rfl⟩) hS hP (ov58v) (fun H locs hP hS => ?_)
  refine lv_bipush (v := 102) hx hb dL_odds_624 (by decide) ?_
  refine lv_icmp_ne (tgt := 809) hx hb dL_odds_626 (by decide) (fun c9 => absurd (by decide) c9) (fun _ => ?_)
  refine lv_aload_n hx hb dL_odds_629 rfl (lv_at hl 0 rfl) ?_
  refine lv_iconst (v := 0) hx hb dL_odds_630 (by decide) ?_
  refine lv_iconst (v := 2) hx hb dL_odds_631 (by decide) ?_
  refine mo_i (va_runV (As := [.int 0, .int 2]) (rest := []) ⟨hx, hb, hml, hown, hts⟩ (k_X2_settle l D cyI cyZ ad oT7 oT13 oT17 oT20 (fun _ => 0) (fun _ => 0) oL21 1 0 2 _ _ rfl ov59x) (cwV 2 hts gL_odds_X2_settle rfl rfl rfl (by decide +kernel) ⟨Nat.le_of_ble_eq_true rfl, Nat.le_of_ble_eq_true rfl⟩) (pmV hG hP hD (ci := 2) rfl rfl rfl) rfl rfl hl.1 rfl (lv_room (Nat.le_of_ble_eq_true rfl)) dL_odds_632 ⟨Nat.le_of_ble_eq_true rfl, Nat.le_of_ble_eq_true rfl⟩) hD hS hA (ov59v) (wE_z tE.rf tE.rf tE.rf ov59m aE.rf aE.rf ov59l rfl) (fun H locs hP hD hS => ?_)
  refine lv_iconst (v := 2) hx hb dL_odds_635 (by decide) ?_
  refine lv_icmp_ne (tgt := 809) hx hb dL_odds_636 (by decide) (fun c9 => absurd (by decide) c9) (fun _ => ?_)
  refine lv_aload_n hx hb dL_odds_639 rfl (lv_at hl 0 rfl) ?_
  refine lv_iconst (v := 3) hx hb dL_odds_640 (by decide) ?_
  refine lv_iconst (v := 1) hx hb dL_odds_641 (by decide) ?_
  refine po_i (va_runV (As := [.int 3, .int 1]) (rest := []) ⟨hx, hb, hml, hown, hts⟩ (k_X2_name l D cyI cyZ ad oT7 oT13 oT17 oT22 (fun _ => 0) (fun _ => 0) oL23 1 3 1 ov60x) (cwV 2 hts gL_odds_X2_name rfl rfl rfl (by decide +kernel) ⟨Nat.le_of_ble_eq_true rfl, Nat.le_of_ble_eq_true rfl⟩) (prV hG hP (ci := 2) rfl rfl rfl) rfl rfl hl.1 rfl (lv_room (Nat.le_of_ble_eq_true rfl)) dL_odds_642 ⟨Nat.le_of_ble_eq_true rfl, Nat.le_of_ble_eq_true rfl⟩) hS hP (ov60v) (fun H locs hP hS => ?_)
  refine lv_bipush (v := 21) hx hb dL_odds_645 (by decide) ?_
  refine lv_icmp_ne (tgt := 809) hx hb dL_odds_647 (by decide) (fun c9 => absurd (by decide) c9) (fun _ => ?_)
  refine lv_aload_n hx hb dL_odds_650 rfl (lv_at hl 0 rfl) ?_
  refine lv_iconst (v := 1) hx hb dL_odds_651 (by decide) ?_
  refine lv_iconst (v := 1) hx hb dL_odds_652 (by decide) ?_
  refine mo_i (va_runV (As := [.int 1, .int 1]) (rest := []) ⟨hx, hb, hml, hown, hts⟩ (k_X2_settle l D cyI cyZ ad oT7 oT13 oT17 oT22 (fun _ => 0) (fun _ => 0) oL23 1 1 1 _ _ rfl ov61x) (cwV 2 hts gL_odds_X2_settle rfl rfl rfl (by decide +kernel) ⟨Nat.le_of_ble_eq_true rfl, Nat.le_of_ble_eq_true rfl⟩) (pmV hG hP hD (ci := 2) rfl rfl rfl) rfl rfl hl.1 rfl (lv_room (Nat.le_of_ble_eq_true rfl)) dL_odds_653 ⟨Nat.le_of_ble_eq_true rfl, Nat.le_of_ble_eq_true rfl⟩) hD hS hA (ov61v) (wE_z tE.rf tE.rf tE.rf ov61m aE.rf aE.rf ov61l rfl) (fun H locs hP hD hS => ?_)
  refine lv_iconst (v := 1) hx hb dL_odds_656 (by decide) ?_
  refine lv_icmp_ne (tgt := 809) hx hb dL_odds_657 (by decide) (fun c9 => absurd (by decide) c9) (fun _ => ?_)
  refine lv_aload_n hx hb dL_odds_660 rfl (lv_at hl 0 rfl) ?_
  refine lv_iconst (v := 3) hx hb dL_odds_661 (by decide) ?_
  refine po_i (va_runV (As := [.int 3]) (rest := []) ⟨hx, hb, hml, hown, hts⟩ (k_X2_columns l D cyI cyZ ad oT7 oT13 oT17 oT24 (fun _ => 0) (fun _ => 0) oL25 1 3 ov62x) (cwV 1 hts gL_odds_X2_columns rfl rfl rfl (by decide +kernel) ⟨Nat.le_of_ble_eq_true rfl, Nat.le_of_ble_eq_true rfl⟩) (prV hG hP (ci := 2) rfl rfl rfl) rfl rfl hl.1 rfl (lv_room (Nat.le_of_ble_eq_true rfl)) dL_odds_662 ⟨Nat.le_of_ble_eq_true rfl, Nat.le_of_ble_eq_true rfl⟩) hS hP (ov62v) (fun H locs hP hS => ?_)
  refine lv_iconst (v := 3) hx hb dL_odds_665 (by decide) ?_
  refine lv_icmp_ne (tgt := 809) hx hb dL_odds_666 (by decide) (fun c9 => absurd (by decide) c9) (fun _ => ?_)
  refine lv_aload_n hx hb dL_odds_669 rfl (lv_at hl 0 rfl) ?_
  refine lv_bipush (v := 11) hx hb dL_odds_670 (by decide) ?_
  refine lv_iconst (v := 3) hx hb dL_odds_672 (by decide) ?_
  refine lv_iconst (v := 5) hx hb dL_odds_673 (by decide) ?_
  refine lv_iconst (v := 2) hx hb dL_odds_674 (by decide) ?_
  refine lv_iconst (v := 0) hx hb dL_odds_675 (by decide) ?_
  refine mo_i (vx_runSW (As := [.ref (ad 0), .int 11, .int 3, .int 5, .int 2, .int 0]) (rest := []) ⟨hx, hb, hml, hown, hts⟩ (t_A11_1 l hlt D cyI cyZ ad oT7 oT13 oT17 oT24 (fun _ => 0) (fun _ => 0) oL25 1 3 5 2 0 _ _ rfl ov63x) (vx_cwSW 6 hts gL_odds_L_act rfl rfl rfl (by decide +kernel) ⟨Nat.le_of_ble_eq_true rfl, Nat.le_of_ble_eq_true rfl⟩) (poS hG hz hn hP hD hS hA) rfl rfl hl.1 rfl (lv_room (Nat.le_of_ble_eq_true rfl)) dL_odds_676 ⟨Nat.le_of_ble_eq_true rfl, Nat.le_of_ble_eq_true rfl⟩) hD hS hA (rfl) (wE.rf) (fun H locs hP hD hS => ?_)
  refine W.widen (k := 695) (n := 6592) (Nat.le_of_ble_eq_true rfl) (Nat.le_of_ble_eq_true rfl) ?_
  refine lv_sipush (v := (-20001)) hx hb dL_odds_679 (by decide) ?_
  refine lv_icmp_ne (tgt := 809) hx hb dL_odds_682 (by decide) (fun c9 => absurd (by decide) c9) (fun _ => ?_)
  exact KK H locs ls hP hD hS hl
set_option maxHeartbeats 8000000 in
set_option maxRecDepth 100000 in
theorem odds_8 {p : Program} {l : Launch} {e : Env} {s : State} {m : MethodId} {args : Array Value} {below : List Frame} {meth : Method} {c : Code} {Q : State → Prop} (hlt : l.stackTraces = false) {D : va_G} {cyI cyZ : ClassId} {ad : Nat → Nat} {A : Nat → Prop} (hx : p.tables.exec = Jvm.exec) (hb : c.code = cL_odds) (hml : c.maxLocals = 1) (hown : s.vm.findClass RL = some m.cls) (hts : ∀ w ∈ wsL_odds, w.before args s = true) (hG : gP D cyI cyZ s) (hz : zqA A s s.heap) (hn : zn s) (hA : ∀ q : Nat, s.heap.size ≤ q → A q)
    (KK : ∀ (H : Heap) (locs : List Loc) (ls : Array Slot), va_P D vwCl (wZ cyI cyZ ad oT24 oT24 oT24 t00 (fun _ => 0) (fun _ => 0) oL27 0) H → va_D A (wZ cyI cyZ ad oT24 oT24 oT24 t00 (fun _ => 0) (fun _ => 0) oL27 0) → va_S A s.heap H locs → lv_has ls 1 [(0, .ref (ad 0))] → W p l e (headSpec wsL_odds ({ frames := 11, cells := 843, slots := 7480, locals := 231 } : Room)).room s m args below meth c H locs 696 6598 Q (F0 m 783 ls [])) : ∀ (H : Heap) (locs : List Loc) (ls : Array Slot), va_P D vwCl (wZ cyI cyZ ad oT7 oT13 oT17 oT24 (fun _ => 0) (fun _ => 0) oL25 1) H → va_D A (wZ cyI cyZ ad oT7 oT13 oT17 oT24 (fun _ => 0) (fun _ => 0) oL25 1) → va_S A s.heap H locs → lv_has ls 1 [(0, .ref (ad 0))] → W p l e (headSpec wsL_odds ({ frames := 11, cells := 843, slots := 7480, locals := 231 } : Room)).room s m args below meth c H locs 695 6592 Q (F0 m 685 ls []) := by
  intro H locs ls hP hD hS hl
  refine lv_aload_n hx hb dL_odds_685 rfl (lv_at hl 0 rfl) ?_
  refine lv_iconst (v := 2) hx hb dL_odds_686 (by decide) ?_
  refine lv_iconst (v := 1) hx hb dL_odds_687 (by decide) ?_
  refine mo_i (va_runV (As := [.int 2, .int 1]) (rest := []) ⟨hx, hb, hml, hown, hts⟩ (k_X2_settle l D cyI cyZ ad oT7 oT13 oT17 oT24 (fun _ => 0) (fun _ => 0) oL25 1 2 1 _ _ rfl ov64x) (cwV 2 hts gL_odds_X2_settle rfl rfl rfl (by decide +kernel) ⟨Nat.le_of_ble_eq_true rfl, Nat.le_of_ble_eq_true rfl⟩) (pmV hG hP hD (ci := 2) rfl rfl rfl) rfl rfl hl.1 rfl (lv_room (Nat.le_of_ble_eq_true rfl)) dL_odds_688 ⟨Nat.le_of_ble_eq_true rfl, Nat.le_of_ble_eq_true rfl⟩) hD hS hA (ov64v) (wE_z tE.rf tE.rf tE.rf ov64m aE.rf aE.rf ov64l rfl) (fun H locs hP hD hS => ?_)
  refine lv_if_ne (tgt := 809) hx hb dL_odds_691 (by decide) (fun c9 => absurd (by decide) c9) (fun _ => ?_)
  refine lv_aload_n hx hb dL_odds_694 rfl (lv_at hl 0 rfl) ?_
  refine lv_iconst (v := 3) hx hb dL_odds_695 (by decide) ?_
  refine po_i (va_runV (As := [.int 3]) (rest := []) ⟨hx, hb, hml, hown, hts⟩ (k_X2_rows l D cyI cyZ ad oT7 oT13 oT17 oT24 (fun _ => 0) (fun _ => 0) oL26 1 3 ov65x) (cwV 1 hts gL_odds_X2_rows rfl rfl rfl (by decide +kernel) ⟨Nat.le_of_ble_eq_true rfl, Nat.le_of_ble_eq_true rfl⟩) (prV hG hP (ci := 2) rfl rfl rfl) rfl rfl hl.1 rfl (lv_room (Nat.le_of_ble_eq_true rfl)) dL_odds_696 ⟨Nat.le_of_ble_eq_true rfl, Nat.le_of_ble_eq_true rfl⟩) hS hP (ov65v) (fun H locs hP hS => ?_)
  refine lv_sipush (v := 224) hx hb dL_odds_699 (by decide) ?_
  refine lv_icmp_ne (tgt := 809) hx hb dL_odds_702 (by decide) (fun c9 => absurd (by decide) c9) (fun _ => ?_)
  refine lv_aload_n hx hb dL_odds_705 rfl (lv_at hl 0 rfl) ?_
  refine lv_bipush (v := 18) hx hb dL_odds_706 (by decide) ?_
  refine lv_iconst (v := 2) hx hb dL_odds_708 (by decide) ?_
  refine lv_iconst (v := 1) hx hb dL_odds_709 (by decide) ?_
  refine lv_iconst (v := 0) hx hb dL_odds_710 (by decide) ?_
  refine lv_iconst (v := 0) hx hb dL_odds_711 (by decide) ?_
  refine mo_i (vx_runSW (As := [.ref (ad 0), .int 18, .int 2, .int 1, .int 0, .int 0]) (rest := []) ⟨hx, hb, hml, hown, hts⟩ (t_A18_3 l hlt D cyI cyZ ad oT7 oT13 oT17 oT24 (fun _ => 0) (fun _ => 0) oL26 1 2 1 0 0 _ _ rfl ov66x) (vx_cwSW 6 hts gL_odds_L_act rfl rfl rfl (by decide +kernel) ⟨Nat.le_of_ble_eq_true rfl, Nat.le_of_ble_eq_true rfl⟩) (poS hG hz hn hP hD hS hA) rfl rfl hl.1 rfl (lv_room (Nat.le_of_ble_eq_true rfl)) dL_odds_712 ⟨Nat.le_of_ble_eq_true rfl, Nat.le_of_ble_eq_true rfl⟩) hD hS hA (rfl) (wE.rf) (fun H locs hP hD hS => ?_)
  refine W.widen (k := 696) (n := 6598) (Nat.le_of_ble_eq_true rfl) (Nat.le_of_ble_eq_true rfl) ?_
  refine lv_sipush (v := (-20003)) hx hb dL_odds_715 (by decide) ?_
  refine lv_icmp_ne (tgt := 809) hx hb dL_odds_718 (by decide) (fun c9 => absurd (by decide) c9) (fun _ => ?_)
  refine lv_aload_n hx hb dL_odds_721 rfl (lv_at hl 0 rfl) ?_
  refine po_i (va_runV (As := []) (rest := []) ⟨hx, hb, hml, hown, hts⟩ (k_X2_conflicts l D cyI cyZ ad oT7 oT13 oT17 oT24 (fun _ => 0) (fun _ => 0) oL26 1) (cwV 0 hts gL_odds_X2_conflicts rfl rfl rfl (by decide +kernel) ⟨Nat.le_of_ble_eq_true rfl, Nat.le_of_ble_eq_true rfl⟩) (prV hG hP (ci := 2) rfl rfl rfl) rfl rfl hl.1 rfl (lv_room (Nat.le_of_ble_eq_true rfl)) dL_odds_722 ⟨Nat.le_of_ble_eq_true rfl, Nat.le_of_ble_eq_true rfl⟩) hS hP (ov67v) (fun H locs hP hS => ?_)
  refine lv_iconst (v := 4) hx hb dL_odds_725 (by decide) ?_
  refine lv_icmp_ne (tgt := 809) hx hb dL_odds_726 (by decide) (fun c9 => absurd (by decide) c9) (fun _ => ?_)
  refine lv_aload_n hx hb dL_odds_729 rfl (lv_at hl 0 rfl) ?_
  refine mo_i (va_runV (As := []) (rest := []) ⟨hx, hb, hml, hown, hts⟩ (k_X2_accept l D cyI cyZ ad oT7 oT13 oT17 oT24 (fun _ => 0) (fun _ => 0) oL26 1 _ _ rfl ov68x) (cwV 0 hts gL_odds_X2_accept rfl rfl rfl (by decide +kernel) ⟨Nat.le_of_ble_eq_true rfl, Nat.le_of_ble_eq_true rfl⟩) (pmV hG hP hD (ci := 2) rfl rfl rfl) rfl rfl hl.1 rfl (lv_room (Nat.le_of_ble_eq_true rfl)) dL_odds_730 ⟨Nat.le_of_ble_eq_true rfl, Nat.le_of_ble_eq_true rfl⟩) hD hS hA (ov68v) (wE_z ov68a.1 ov68a.2.1 ov68a.2.2.1 ov68a.2.2.2.1 aE.rf aE.rf ov68l ov68a.2.2.2.2) (fun H locs hP hD hS => ?_)
  refine lv_bipush (v := 6) hx hb dL_odds_733 (by decide) ?_
  refine lv_icmp_ne (tgt := 809) hx hb dL_odds_735 (by decide) (fun c9 => absurd (by decide) c9) (fun _ => ?_)
  refine lv_aload_n hx hb dL_odds_738 rfl (lv_at hl 0 rfl) ?_
  refine lv_iconst (v := 0) hx hb dL_odds_739 (by decide) ?_
  refine po_i (va_runV (As := [.int 0]) (rest := []) ⟨hx, hb, hml, hown, hts⟩ (k_X2_columns l D cyI cyZ ad oT24 oT24 oT24 t00 (fun _ => 0) (fun _ => 0) oL27 0 0 ov69x) (cwV 1 hts gL_odds_X2_columns rfl rfl rfl (by decide +kernel) ⟨Nat.le_of_ble_eq_true rfl, Nat.le_of_ble_eq_true rfl⟩) (prV hG hP (ci := 2) rfl rfl rfl) rfl rfl hl.1 rfl (lv_room (Nat.le_of_ble_eq_true rfl)) dL_odds_740 ⟨Nat.le_of_ble_eq_true rfl, Nat.le_of_ble_eq_true rfl⟩) hS hP (ov69v) (fun H locs hP hS => ?_)
  refine lv_iconst (v := 3) hx hb dL_odds_743 (by decide) ?_
  refine lv_icmp_ne (tgt := 809) hx hb dL_odds_744 (by decide) (fun c9 => absurd (by decide) c9) (fun _ => ?_)
  refine lv_aload_n hx hb dL_odds_747 rfl (lv_at hl 0 rfl) ?_
  refine lv_iconst (v := 2) hx hb dL_odds_748 (by decide) ?_
  refine po_i (va_runV (As := [.int 2]) (rest := []) ⟨hx, hb, hml, hown, hts⟩ (k_X2_rows l D cyI cyZ ad oT24 oT24 oT24 t00 (fun _ => 0) (fun _ => 0) oL27 0 2 ov70x) (cwV 1 hts gL_odds_X2_rows rfl rfl rfl (by decide +kernel) ⟨Nat.le_of_ble_eq_true rfl, Nat.le_of_ble_eq_true rfl⟩) (prV hG hP (ci := 2) rfl rfl rfl) rfl rfl hl.1 rfl (lv_room (Nat.le_of_ble_eq_true rfl)) dL_odds_749 ⟨Nat.le_of_ble_eq_true rfl, Nat.le_of_ble_eq_true rfl⟩) hS hP (ov70v) (fun H locs hP hS => ?_)
  refine lv_sipush (v := 224) hx hb dL_odds_752 (by decide) ?_
  refine lv_icmp_ne (tgt := 809) hx hb dL_odds_755 (by decide) (fun c9 => absurd (by decide) c9) (fun _ => ?_)
  refine lv_aload_n hx hb dL_odds_758 rfl (lv_at hl 0 rfl) ?_
  refine lv_iconst (v := 0) hx hb dL_odds_759 (by decide) ?_
  refine lv_bipush (v := 6) hx hb dL_odds_760 (by decide) ?_
  refine lv_iconst (v := 1) hx hb dL_odds_762 (by decide) ?_
  refine po_i (va_runV (As := [.int 0, .int 6, .int 1]) (rest := []) ⟨hx, hb, hml, hown, hts⟩ (k_X2_get l D cyI cyZ ad oT24 oT24 oT24 t00 (fun _ => 0) (fun _ => 0) oL27 0 0 6 1 ov71x) (cwV 3 hts gL_odds_X2_get rfl rfl rfl (by decide +kernel) ⟨Nat.le_of_ble_eq_true rfl, Nat.le_of_ble_eq_true rfl⟩) (prV hG hP (ci := 2) rfl rfl rfl) rfl rfl hl.1 rfl (lv_room (Nat.le_of_ble_eq_true rfl)) dL_odds_763 ⟨Nat.le_of_ble_eq_true rfl, Nat.le_of_ble_eq_true rfl⟩) hS hP (ov71v) (fun H locs hP hS => ?_)
  refine lv_bipush (v := 8) hx hb dL_odds_766 (by decide) ?_
  refine lv_icmp_ne (tgt := 809) hx hb dL_odds_768 (by decide) (fun c9 => absurd (by decide) c9) (fun _ => ?_)
  refine lv_aload_n hx hb dL_odds_771 rfl (lv_at hl 0 rfl) ?_
  refine lv_iconst (v := 1) hx hb dL_odds_772 (by decide) ?_
  refine lv_iconst (v := 5) hx hb dL_odds_773 (by decide) ?_
  refine lv_iconst (v := 0) hx hb dL_odds_774 (by decide) ?_
  refine po_i (va_runV (As := [.int 1, .int 5, .int 0]) (rest := []) ⟨hx, hb, hml, hown, hts⟩ (k_X2_get l D cyI cyZ ad oT24 oT24 oT24 t00 (fun _ => 0) (fun _ => 0) oL27 0 1 5 0 ov72x) (cwV 3 hts gL_odds_X2_get rfl rfl rfl (by decide +kernel) ⟨Nat.le_of_ble_eq_true rfl, Nat.le_of_ble_eq_true rfl⟩) (prV hG hP (ci := 2) rfl rfl rfl) rfl rfl hl.1 rfl (lv_room (Nat.le_of_ble_eq_true rfl)) dL_odds_775 ⟨Nat.le_of_ble_eq_true rfl, Nat.le_of_ble_eq_true rfl⟩) hS hP (ov72v) (fun H locs hP hS => ?_)
  refine lv_bipush (v := 102) hx hb dL_odds_778 (by decide) ?_
  refine lv_icmp_ne (tgt := 809) hx hb dL_odds_780 (by decide) (fun c9 => absurd (by decide) c9) (fun _ => ?_)
  exact KK H locs ls hP hD hS hl
