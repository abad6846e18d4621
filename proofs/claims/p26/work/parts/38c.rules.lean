set_option maxHeartbeats 8000000 in
set_option maxRecDepth 100000 in
theorem rules_7 {p : Program} {l : Launch} {e : Env} {s : State} {m : MethodId} {args : Array Value} {below : List Frame} {meth : Method} {c : Code} {Q : State → Prop} (hlt : l.stackTraces = false) {D : va_G} {cyI cyZ : ClassId} {ad : Nat → Nat} {A : Nat → Prop} (hx : p.tables.exec = Jvm.exec) (hb : c.code = cL_rules) (hml : c.maxLocals = 2) (hown : s.vm.findClass RL = some m.cls) (hts : ∀ w ∈ wsL_rules, w.before args s = true) (hG : gP D cyI cyZ s) (hz : zqA A s s.heap) (hn : zn s) (hA : ∀ q : Nat, s.heap.size ≤ q → A q)
    (KK : ∀ (H : Heap) (locs : List Loc) (ls : Array Slot), va_P D vwCl (wZ cyI cyZ ad rT10 rT41 rT42 rT43 rU7 rR33 rL44 1) H → va_D A (wZ cyI cyZ ad rT10 rT41 rT42 rT43 rU7 rR33 rL44 1) → va_S A s.heap H locs → lv_has ls 2 [(1, .int 4), (0, .ref (ad 0))] → W p l e (headSpec wsL_rules ({ frames := 11, cells := 740, slots := 6862, locals := 231 } : Room)).room s m args below meth c H locs 404 4846 Q (F0 m 622 ls [])) : ∀ (H : Heap) (locs : List Loc) (ls : Array Slot), va_P D vwCl (wZ cyI cyZ ad rT10 rT38 rT35 rT37 rU7 rR33 rL32 0) H → va_D A (wZ cyI cyZ ad rT10 rT38 rT35 rT37 rU7 rR33 rL32 0) → va_S A s.heap H locs → lv_has ls 2 [(1, .int 4), (0, .ref (ad 0))] → W p l e (headSpec wsL_rules ({ frames := 11, cells := 740, slots := 6862, locals := 231 } : Room)).room s m args below meth c H locs 404 4846 Q (F0 m 524 ls []) := by
  intro H locs ls hP hD hS hl
  refine lv_aload_n hx hb dL_rules_524 rfl (lv_at hl 1 rfl) ?_
  refine mo_i (va_runV (As := []) (rest := []) ⟨hx, hb, hml, hown, hts⟩ (k_X2_merge l D cyI cyZ ad rT10 rT38 rT35 rT37 rU7 rR33 rL32 0 _ _ rfl) (cwV 0 hts gL_rules_X2_merge rfl rfl rfl (by decide +kernel) ⟨Nat.le_of_ble_eq_true rfl, Nat.le_of_ble_eq_true rfl⟩) (pmV hG hP hD (ci := 2) rfl rfl rfl) rfl rfl hl.1 rfl (lv_room (Nat.le_of_ble_eq_true rfl)) dL_rules_525 ⟨Nat.le_of_ble_eq_true rfl, Nat.le_of_ble_eq_true rfl⟩) hD hS hA (rv55v) (wE_z tE.rf tE.rf tE.rf rv55q.2.1 aE.rf aE.rf rv55l rv55q.2.2.2) (fun H locs hP hD hS => ?_)
  refine lv_iconst (v := 3) hx hb dL_rules_528 (by decide) ?_
  refine lv_icmp_ne (tgt := 676) hx hb dL_rules_529 (by decide) (fun c9 => absurd (by decide) c9) (fun _ => ?_)
  refine lv_aload_n hx hb dL_rules_532 rfl (lv_at hl 1 rfl) ?_
  refine lv_iconst (v := 2) hx hb dL_rules_533 (by decide) ?_
  refine lv_bipush (v := 6) hx hb dL_rules_534 (by decide) ?_
  refine lv_iconst (v := 3) hx hb dL_rules_536 (by decide) ?_
  refine lv_iconst (v := 1) hx hb dL_rules_537 (by decide) ?_
  refine po_i (va_runS (As := [.ref (ad 0), .int 2, .int 6, .int 3, .int 1]) (rest := []) ⟨hx, hb, hml, hown, hts⟩ (k_L_is l D cyI cyZ ad rT10 rT38 rT35 rT39 rU7 rR33 rL40 1 2 6 3 1 rv56x rv56k rv56y rv56c) (va_cwS 5 hts gL_rules_L_is rfl rfl rfl (by decide +kernel) ⟨Nat.le_of_ble_eq_true rfl, Nat.le_of_ble_eq_true rfl⟩) (prS hG hP) rfl rfl hl.1 rfl (lv_room (Nat.le_of_ble_eq_true rfl)) dL_rules_538 ⟨Nat.le_of_ble_eq_true rfl, Nat.le_of_ble_eq_true rfl⟩) hS hP rfl (fun H locs hP hS => ?_)
  refine lv_if_eq (tgt := 676) hx hb dL_rules_541 (by decide) (fun c9 => absurd c9 (by decide)) (fun _ => ?_)
  refine lv_aload_n hx hb dL_rules_544 rfl (lv_at hl 1 rfl) ?_
  refine lv_iconst (v := 3) hx hb dL_rules_545 (by decide) ?_
  refine po_i (va_runV (As := [.int 3]) (rest := []) ⟨hx, hb, hml, hown, hts⟩ (k_X2_rows l D cyI cyZ ad rT10 rT38 rT35 rT39 rU7 rR33 rL40 1 3 rv57x) (cwV 1 hts gL_rules_X2_rows rfl rfl rfl (by decide +kernel) ⟨Nat.le_of_ble_eq_true rfl, Nat.le_of_ble_eq_true rfl⟩) (prV hG hP (ci := 2) rfl rfl rfl) rfl rfl hl.1 rfl (lv_room (Nat.le_of_ble_eq_true rfl)) dL_rules_546 ⟨Nat.le_of_ble_eq_true rfl, Nat.le_of_ble_eq_true rfl⟩) hS hP (rv57v) (fun H locs hP hS => ?_)
  refine lv_bipush (v := 9) hx hb dL_rules_549 (by decide) ?_
  refine lv_icmp_ne (tgt := 676) hx hb dL_rules_551 (by decide) (fun c9 => absurd (by decide) c9) (fun _ => ?_)
  refine lv_aload_n hx hb dL_rules_554 rfl (lv_at hl 1 rfl) ?_
  refine lv_iconst (v := 1) hx hb dL_rules_555 (by decide) ?_
  refine lv_iconst (v := 2) hx hb dL_rules_556 (by decide) ?_
  refine lv_bipush (v := 50) hx hb dL_rules_557 (by decide) ?_
  refine mo_i (va_runV (As := [.int 1, .int 2, .int 50]) (rest := []) ⟨hx, hb, hml, hown, hts⟩ (k_X2_rename l D cyI cyZ ad rT10 rT38 rT35 rT39 rU7 rR33 rL40 1 1 2 50 _ _ rfl rv58x) (cwV 3 hts gL_rules_X2_rename rfl rfl rfl (by decide +kernel) ⟨Nat.le_of_ble_eq_true rfl, Nat.le_of_ble_eq_true rfl⟩) (pmV hG hP hD (ci := 2) rfl rfl rfl) rfl rfl hl.1 rfl (lv_room (Nat.le_of_ble_eq_true rfl)) dL_rules_559 ⟨Nat.le_of_ble_eq_true rfl, Nat.le_of_ble_eq_true rfl⟩) hD hS hA (rv58v) (wE_z rv58b rv58o rv58t tE.rf aE.rf aE.rf lE.rf rv58f) (fun H locs hP hD hS => ?_)
  refine lv_bipush (v := 52) hx hb dL_rules_562 (by decide) ?_
  refine lv_icmp_ne (tgt := 676) hx hb dL_rules_564 (by decide) (fun c9 => absurd (by decide) c9) (fun _ => ?_)
  refine lv_aload_n hx hb dL_rules_567 rfl (lv_at hl 1 rfl) ?_
  refine lv_iconst (v := 2) hx hb dL_rules_568 (by decide) ?_
  refine lv_iconst (v := 3) hx hb dL_rules_569 (by decide) ?_
  refine lv_bipush (v := 50) hx hb dL_rules_570 (by decide) ?_
  refine mo_i (va_runV (As := [.int 2, .int 3, .int 50]) (rest := []) ⟨hx, hb, hml, hown, hts⟩ (k_X2_rename l D cyI cyZ ad rT10 rT41 rT35 rT39 rU7 rR33 rL40 0 2 3 50 _ _ rfl rv59x) (cwV 3 hts gL_rules_X2_rename rfl rfl rfl (by decide +kernel) ⟨Nat.le_of_ble_eq_true rfl, Nat.le_of_ble_eq_true rfl⟩) (pmV hG hP hD (ci := 2) rfl rfl rfl) rfl rfl hl.1 rfl (lv_room (Nat.le_of_ble_eq_true rfl)) dL_rules_572 ⟨Nat.le_of_ble_eq_true rfl, Nat.le_of_ble_eq_true rfl⟩) hD hS hA (rv59v) (wE_z rv59b rv59o rv59t tE.rf aE.rf aE.rf lE.rf rv59f) (fun H locs hP hD hS => ?_)
  refine lv_bipush (v := 53) hx hb dL_rules_575 (by decide) ?_
  refine lv_icmp_ne (tgt := 676) hx hb dL_rules_577 (by decide) (fun c9 => absurd (by decide) c9) (fun _ => ?_)
  refine lv_aload_n hx hb dL_rules_580 rfl (lv_at hl 1 rfl) ?_
  refine mo_i (va_runV (As := []) (rest := []) ⟨hx, hb, hml, hown, hts⟩ (k_X2_merge l D cyI cyZ ad rT10 rT41 rT42 rT39 rU7 rR33 rL40 0 _ _ rfl) (cwV 0 hts gL_rules_X2_merge rfl rfl rfl (by decide +kernel) ⟨Nat.le_of_ble_eq_true rfl, Nat.le_of_ble_eq_true rfl⟩) (pmV hG hP hD (ci := 2) rfl rfl rfl) rfl rfl hl.1 rfl (lv_room (Nat.le_of_ble_eq_true rfl)) dL_rules_581 ⟨Nat.le_of_ble_eq_true rfl, Nat.le_of_ble_eq_true rfl⟩) hD hS hA (rv60v) (wE_z tE.rf tE.rf tE.rf rv60q.2.1 aE.rf aE.rf rv60l rv60q.2.2.2) (fun H locs hP hD hS => ?_)
  refine lv_iconst (v := 5) hx hb dL_rules_584 (by decide) ?_
  refine lv_icmp_ne (tgt := 676) hx hb dL_rules_585 (by decide) (fun c9 => absurd (by decide) c9) (fun _ => ?_)
  refine lv_aload_n hx hb dL_rules_588 rfl (lv_at hl 1 rfl) ?_
  refine lv_iconst (v := 2) hx hb dL_rules_589 (by decide) ?_
  refine lv_iconst (v := 5) hx hb dL_rules_590 (by decide) ?_
  refine lv_iconst (v := (-1)) hx hb dL_rules_591 (by decide) ?_
  refine lv_iconst (v := 2) hx hb dL_rules_592 (by decide) ?_
  refine po_i (va_runS (As := [.ref (ad 0), .int 2, .int 5, .int (-1), .int 2]) (rest := []) ⟨hx, hb, hml, hown, hts⟩ (k_L_is l D cyI cyZ ad rT10 rT41 rT42 rT43 rU7 rR33 rL44 1 2 5 (-1) 2 rv61x rv61k rv61y rv61c) (va_cwS 5 hts gL_rules_L_is rfl rfl rfl (by decide +kernel) ⟨Nat.le_of_ble_eq_true rfl, Nat.le_of_ble_eq_true rfl⟩) (prS hG hP) rfl rfl hl.1 rfl (lv_room (Nat.le_of_ble_eq_true rfl)) dL_rules_593 ⟨Nat.le_of_ble_eq_true rfl, Nat.le_of_ble_eq_true rfl⟩) hS hP rfl (fun H locs hP hS => ?_)
  refine lv_if_eq (tgt := 676) hx hb dL_rules_596 (by decide) (fun c9 => absurd c9 (by decide)) (fun _ => ?_)
  refine lv_aload_n hx hb dL_rules_599 rfl (lv_at hl 1 rfl) ?_
  refine lv_iconst (v := 3) hx hb dL_rules_600 (by decide) ?_
  refine lv_iconst (v := 5) hx hb dL_rules_601 (by decide) ?_
  refine lv_iconst (v := (-1)) hx hb dL_rules_602 (by decide) ?_
  refine lv_iconst (v := 3) hx hb dL_rules_603 (by decide) ?_
  refine po_i (va_runS (As := [.ref (ad 0), .int 3, .int 5, .int (-1), .int 3]) (rest := []) ⟨hx, hb, hml, hown, hts⟩ (k_L_is l D cyI cyZ ad rT10 rT41 rT42 rT43 rU7 rR33 rL44 1 3 5 (-1) 3 rv62x rv62k rv62y rv62c) (va_cwS 5 hts gL_rules_L_is rfl rfl rfl (by decide +kernel) ⟨Nat.le_of_ble_eq_true rfl, Nat.le_of_ble_eq_true rfl⟩) (prS hG hP) rfl rfl hl.1 rfl (lv_room (Nat.le_of_ble_eq_true rfl)) dL_rules_604 ⟨Nat.le_of_ble_eq_true rfl, Nat.le_of_ble_eq_true rfl⟩) hS hP rfl (fun H locs hP hS => ?_)
  refine lv_if_eq (tgt := 676) hx hb dL_rules_607 (by decide) (fun c9 => absurd c9 (by decide)) (fun _ => ?_)
  refine lv_aload_n hx hb dL_rules_610 rfl (lv_at hl 1 rfl) ?_
  refine lv_iconst (v := 4) hx hb dL_rules_611 (by decide) ?_
  refine lv_bipush (v := 6) hx hb dL_rules_612 (by decide) ?_
  refine lv_iconst (v := 3) hx hb dL_rules_614 (by decide) ?_
  refine lv_iconst (v := 1) hx hb dL_rules_615 (by decide) ?_
  refine po_i (va_runS (As := [.ref (ad 0), .int 4, .int 6, .int 3, .int 1]) (rest := []) ⟨hx, hb, hml, hown, hts⟩ (k_L_is l D cyI cyZ ad rT10 rT41 rT42 rT43 rU7 rR33 rL44 1 4 6 3 1 rv63x rv63k rv63y rv63c) (va_cwS 5 hts gL_rules_L_is rfl rfl rfl (by decide +kernel) ⟨Nat.le_of_ble_eq_true rfl, Nat.le_of_ble_eq_true rfl⟩) (prS hG hP) rfl rfl hl.1 rfl (lv_room (Nat.le_of_ble_eq_true rfl)) dL_rules_616 ⟨Nat.le_of_ble_eq_true rfl, Nat.le_of_ble_eq_true rfl⟩) hS hP rfl (fun H locs hP hS => ?_)
  refine lv_if_eq (tgt := 676) hx hb dL_rules_619 (by decide) (fun c9 => absurd c9 (by decide)) (fun _ => ?_)
  exact KK H locs ls hP hD hS hl
set_option maxHeartbeats 8000000 in
set_option maxRecDepth 100000 in
theorem rules_8 {p : Program} {l : Launch} {e : Env} {s : State} {m : MethodId} {args : Array Value} {below : List Frame} {meth : Method} {c : Code} {Q : State → Prop} (hlt : l.stackTraces = false) {D : va_G} {cyI cyZ : ClassId} {ad : Nat → Nat} {A : Nat → Prop} (hx : p.tables.exec = Jvm.exec) (hb : c.code = cL_rules) (hml : c.maxLocals = 2) (hown : s.vm.findClass RL = some m.cls) (hts : ∀ w ∈ wsL_rules, w.before args s = true) (hG : gP D cyI cyZ s) (hz : zqA A s s.heap) (hn : zn s) (hA : ∀ q : Nat, s.heap.size ≤ q → A q)
    (KK : ∀ (H : Heap) (locs : List Loc) (ls : Array Slot), va_P D vwCl (wZ cyI cyZ ad rT10 rT47 rT50 rT43 rU7 rR33 rL46 0) H → va_D A (wZ cyI cyZ ad rT10 rT47 rT50 rT43 rU7 rR33 rL46 0) → va_S A s.heap H locs → lv_has ls 2 [(1, .int 4), (0, .ref (ad 0))] → W p l e (headSpec wsL_rules ({ frames := 11, cells := 740, slots := 6862, locals := 231 } : Room)).room s m args below meth c H locs 404 4846 Q (F0 m 726 ls [])) : ∀ (H : Heap) (locs : List Loc) (ls : Array Slot), va_P D vwCl (wZ cyI cyZ ad rT10 rT41 rT42 rT43 rU7 rR33 rL44 1) H → va_D A (wZ cyI cyZ ad rT10 rT41 rT42 rT43 rU7 rR33 rL44 1) → va_S A s.heap H locs → lv_has ls 2 [(1, .int 4), (0, .ref (ad 0))] → W p l e (headSpec wsL_rules ({ frames := 11, cells := 740, slots := 6862, locals := 231 } : Room)).room s m args below meth c H locs 404 4846 Q (F0 m 622 ls []) := by
  intro H locs ls hP hD hS hl
  refine lv_aload_n hx hb dL_rules_622 rfl (lv_at hl 1 rfl) ?_
  refine lv_iconst (v := 3) hx hb dL_rules_623 (by decide) ?_
  refine lv_iconst (v := 2) hx hb dL_rules_624 (by decide) ?_
  refine po_i (va_runV (As := [.int 3, .int 2]) (rest := []) ⟨hx, hb, hml, hown, hts⟩ (k_X2_name l D cyI cyZ ad rT10 rT41 rT42 rT43 rU7 rR33 rL44 1 3 2 rv64x) (cwV 2 hts gL_rules_X2_name rfl rfl rfl (by decide +kernel) ⟨Nat.le_of_ble_eq_true rfl, Nat.le_of_ble_eq_true rfl⟩) (prV hG hP (ci := 2) rfl rfl rfl) rfl rfl hl.1 rfl (lv_room (Nat.le_of_ble_eq_true rfl)) dL_rules_625 ⟨Nat.le_of_ble_eq_true rfl, Nat.le_of_ble_eq_true rfl⟩) hS hP (rv64v) (fun H locs hP hS => ?_)
  refine lv_bipush (v := 50) hx hb dL_rules_628 (by decide) ?_
  refine lv_icmp_ne (tgt := 676) hx hb dL_rules_630 (by decide) (fun c9 => absurd (by decide) c9) (fun _ => ?_)
  refine lv_aload_n hx hb dL_rules_633 rfl (lv_at hl 1 rfl) ?_
  refine lv_iconst (v := 4) hx hb dL_rules_634 (by decide) ?_
  refine lv_iconst (v := 1) hx hb dL_rules_635 (by decide) ?_
  refine mo_i (va_runV (As := [.int 4, .int 1]) (rest := []) ⟨hx, hb, hml, hown, hts⟩ (k_X2_settle l D cyI cyZ ad rT10 rT41 rT42 rT43 rU7 rR33 rL44 1 4 1 _ _ rfl rv65x) (cwV 2 hts gL_rules_X2_settle rfl rfl rfl (by decide +kernel) ⟨Nat.le_of_ble_eq_true rfl, Nat.le_of_ble_eq_true rfl⟩) (pmV hG hP hD (ci := 2) rfl rfl rfl) rfl rfl hl.1 rfl (lv_room (Nat.le_of_ble_eq_true rfl)) dL_rules_636 ⟨Nat.le_of_ble_eq_true rfl, Nat.le_of_ble_eq_true rfl⟩) hD hS hA (rv65v) (wE_z tE.rf tE.rf tE.rf rv65m aE.rf aE.rf rv65l rfl) (fun H locs hP hD hS => ?_)
  refine lv_iconst (v := 4) hx hb dL_rules_639 (by decide) ?_
  refine lv_icmp_ne (tgt := 676) hx hb dL_rules_640 (by decide) (fun c9 => absurd (by decide) c9) (fun _ => ?_)
  refine lv_aload_n hx hb dL_rules_643 rfl (lv_at hl 1 rfl) ?_
  refine lv_iconst (v := 3) hx hb dL_rules_644 (by decide) ?_
  refine lv_iconst (v := 3) hx hb dL_rules_645 (by decide) ?_
  refine lv_iconst (v := 1) hx hb dL_rules_646 (by decide) ?_
  refine po_i (va_runV (As := [.int 3, .int 3, .int 1]) (rest := []) ⟨hx, hb, hml, hown, hts⟩ (k_X2_get l D cyI cyZ ad rT10 rT41 rT42 rT43 rU7 rR33 rL45 1 3 3 1 rv66x) (cwV 3 hts gL_rules_X2_get rfl rfl rfl (by decide +kernel) ⟨Nat.le_of_ble_eq_true rfl, Nat.le_of_ble_eq_true rfl⟩) (prV hG hP (ci := 2) rfl rfl rfl) rfl rfl hl.1 rfl (lv_room (Nat.le_of_ble_eq_true rfl)) dL_rules_647 ⟨Nat.le_of_ble_eq_true rfl, Nat.le_of_ble_eq_true rfl⟩) hS hP (rv66v) (fun H locs hP hS => ?_)
  refine lv_bipush (v := 23) hx hb dL_rules_650 (by decide) ?_
  refine lv_icmp_ne (tgt := 676) hx hb dL_rules_652 (by decide) (fun c9 => absurd (by decide) c9) (fun _ => ?_)
  refine lv_aload_n hx hb dL_rules_655 rfl (lv_at hl 1 rfl) ?_
  refine lv_iconst (v := 2) hx hb dL_rules_656 (by decide) ?_
  refine lv_iconst (v := 2) hx hb dL_rules_657 (by decide) ?_
  refine mo_i (va_runV (As := [.int 2, .int 2]) (rest := []) ⟨hx, hb, hml, hown, hts⟩ (k_X2_settle l D cyI cyZ ad rT10 rT41 rT42 rT43 rU7 rR33 rL45 1 2 2 _ _ rfl rv67x) (cwV 2 hts gL_rules_X2_settle rfl rfl rfl (by decide +kernel) ⟨Nat.le_of_ble_eq_true rfl, Nat.le_of_ble_eq_true rfl⟩) (pmV hG hP hD (ci := 2) rfl rfl rfl) rfl rfl hl.1 rfl (lv_room (Nat.le_of_ble_eq_true rfl)) dL_rules_658 ⟨Nat.le_of_ble_eq_true rfl, Nat.le_of_ble_eq_true rfl⟩) hD hS hA (rv67v) (wE_z tE.rf tE.rf tE.rf rv67m aE.rf aE.rf rv67l rfl) (fun H locs hP hD hS => ?_)
  refine lv_iconst (v := 3) hx hb dL_rules_661 (by decide) ?_
  refine lv_icmp_ne (tgt := 676) hx hb dL_rules_662 (by decide) (fun c9 => absurd (by decide) c9) (fun _ => ?_)
  refine lv_aload_n hx hb dL_rules_665 rfl (lv_at hl 1 rfl) ?_
  refine lv_iconst (v := 3) hx hb dL_rules_666 (by decide) ?_
  refine lv_iconst (v := 2) hx hb dL_rules_667 (by decide) ?_
  refine po_i (va_runV (As := [.int 3, .int 2]) (rest := []) ⟨hx, hb, hml, hown, hts⟩ (k_X2_name l D cyI cyZ ad rT10 rT41 rT42 rT43 rU7 rR33 rL46 1 3 2 rv68x) (cwV 2 hts gL_rules_X2_name rfl rfl rfl (by decide +kernel) ⟨Nat.le_of_ble_eq_true rfl, Nat.le_of_ble_eq_true rfl⟩) (prV hG hP (ci := 2) rfl rfl rfl) rfl rfl hl.1 rfl (lv_room (Nat.le_of_ble_eq_true rfl)) dL_rules_668 ⟨Nat.le_of_ble_eq_true rfl, Nat.le_of_ble_eq_true rfl⟩) hS hP (rv68v) (fun H locs hP hS => ?_)
  refine lv_bipush (v := 50) hx hb dL_rules_671 (by decide) ?_
  refine lv_icmp_eq (tgt := 678) hx hb dL_rules_673 (by decide) (fun _ => ?_) (fun c9 => absurd (by decide) c9)
  refine lv_aload_n hx hb dL_rules_678 rfl (lv_at hl 1 rfl) ?_
  refine lv_iconst (v := 1) hx hb dL_rules_679 (by decide) ?_
  refine lv_iconst (v := 5) hx hb dL_rules_680 (by decide) ?_
  refine lv_iconst (v := 1) hx hb dL_rules_681 (by decide) ?_
  refine mo_i (va_runV (As := [.int 1, .int 5, .int 1]) (rest := []) ⟨hx, hb, hml, hown, hts⟩ (k_X2_addColumn l D cyI cyZ ad rT10 rT41 rT42 rT43 rU7 rR33 rL46 1 1 5 1 _ _ rfl rv69x) (cwV 3 hts gL_rules_X2_addColumn rfl rfl rfl (by decide +kernel) ⟨Nat.le_of_ble_eq_true rfl, Nat.le_of_ble_eq_true rfl⟩) (pmV hG hP hD (ci := 2) rfl rfl rfl) rfl rfl hl.1 rfl (lv_room (Nat.le_of_ble_eq_true rfl)) dL_rules_682 ⟨Nat.le_of_ble_eq_true rfl, Nat.le_of_ble_eq_true rfl⟩) hD hS hA (rv69v) (wE_z rv69b rv69o rv69t tE.rf aE.rf aE.rf lE.rf rv69f) (fun H locs hP hD hS => ?_)
  refine lv_iconst (v := 5) hx hb dL_rules_685 (by decide) ?_
  refine lv_icmp_ne (tgt := 820) hx hb dL_rules_686 (by decide) (fun c9 => absurd (by decide) c9) (fun _ => ?_)
  refine lv_aload_n hx hb dL_rules_689 rfl (lv_at hl 1 rfl) ?_
  refine lv_iconst (v := 2) hx hb dL_rules_690 (by decide) ?_
  refine lv_iconst (v := 5) hx hb dL_rules_691 (by decide) ?_
  refine lv_iconst (v := 2) hx hb dL_rules_692 (by decide) ?_
  refine mo_i (va_runV (As := [.int 2, .int 5, .int 2]) (rest := []) ⟨hx, hb, hml, hown, hts⟩ (k_X2_addColumn l D cyI cyZ ad rT10 rT47 rT42 rT43 rU7 rR33 rL46 0 2 5 2 _ _ rfl rv70x) (cwV 3 hts gL_rules_X2_addColumn rfl rfl rfl (by decide +kernel) ⟨Nat.le_of_ble_eq_true rfl, Nat.le_of_ble_eq_true rfl⟩) (pmV hG hP hD (ci := 2) rfl rfl rfl) rfl rfl hl.1 rfl (lv_room (Nat.le_of_ble_eq_true rfl)) dL_rules_693 ⟨Nat.le_of_ble_eq_true rfl, Nat.le_of_ble_eq_true rfl⟩) hD hS hA (rv70v) (wE_z rv70b rv70o rv70t tE.rf aE.rf aE.rf lE.rf rv70f) (fun H locs hP hD hS => ?_)
  refine lv_iconst (v := 5) hx hb dL_rules_696 (by decide) ?_
  refine lv_icmp_ne (tgt := 820) hx hb dL_rules_697 (by decide) (fun c9 => absurd (by decide) c9) (fun _ => ?_)
  refine lv_aload_n hx hb dL_rules_700 rfl (lv_at hl 1 rfl) ?_
  refine lv_iconst (v := 2) hx hb dL_rules_701 (by decide) ?_
  refine lv_bipush (v := 7) hx hb dL_rules_702 (by decide) ?_
  refine lv_iconst (v := 3) hx hb dL_rules_704 (by decide) ?_
  refine mo_i (va_runV (As := [.int 2, .int 7, .int 3]) (rest := []) ⟨hx, hb, hml, hown, hts⟩ (k_X2_addColumn l D cyI cyZ ad rT10 rT47 rT48 rT43 rU7 rR33 rL46 0 2 7 3 _ _ rfl rv71x) (cwV 3 hts gL_rules_X2_addColumn rfl rfl rfl (by decide +kernel) ⟨Nat.le_of_ble_eq_true rfl, Nat.le_of_ble_eq_true rfl⟩) (pmV hG hP hD (ci := 2) rfl rfl rfl) rfl rfl hl.1 rfl (lv_room (Nat.le_of_ble_eq_true rfl)) dL_rules_705 ⟨Nat.le_of_ble_eq_true rfl, Nat.le_of_ble_eq_true rfl⟩) hD hS hA (rv71v) (wE_z rv71b rv71o rv71t tE.rf aE.rf aE.rf lE.rf rv71f) (fun H locs hP hD hS => ?_)
  refine lv_bipush (v := 6) hx hb dL_rules_708 (by decide) ?_
  refine lv_icmp_ne (tgt := 820) hx hb dL_rules_710 (by decide) (fun c9 => absurd (by decide) c9) (fun _ => ?_)
  refine lv_aload_n hx hb dL_rules_713 rfl (lv_at hl 1 rfl) ?_
  refine lv_iconst (v := 2) hx hb dL_rules_714 (by decide) ?_
  refine lv_iconst (v := 0) hx hb dL_rules_715 (by decide) ?_
  refine lv_bipush (v := 7) hx hb dL_rules_716 (by decide) ?_
  refine lv_bipush (v := 6) hx hb dL_rules_718 (by decide) ?_
  refine mo_i (va_runV (As := [.int 2, .int 0, .int 7, .int 6]) (rest := []) ⟨hx, hb, hml, hown, hts⟩ (k_X2_set l D cyI cyZ ad rT10 rT47 rT49 rT43 rU7 rR33 rL46 0 2 0 7 6 _ _ rfl rv72x) (cwV 4 hts gL_rules_X2_set rfl rfl rfl (by decide +kernel) ⟨Nat.le_of_ble_eq_true rfl, Nat.le_of_ble_eq_true rfl⟩) (pmV hG hP hD (ci := 2) rfl rfl rfl) rfl rfl hl.1 rfl (lv_room (Nat.le_of_ble_eq_true rfl)) dL_rules_720 ⟨Nat.le_of_ble_eq_true rfl, Nat.le_of_ble_eq_true rfl⟩) hD hS hA (rv72v) (wE_z rv72b rv72o rv72t tE.rf aE.rf aE.rf lE.rf rv72f) (fun H locs hP hD hS => ?_)
  refine lv_if_ne (tgt := 820) hx hb dL_rules_723 (by decide) (fun c9 => absurd (by decide) c9) (fun _ => ?_)
  exact KK H locs ls hP hD hS hl
set_option maxHeartbeats 8000000 in
set_option maxRecDepth 100000 in
theorem rules_9 {p : Program} {l : Launch} {e : Env} {s : State} {m : MethodId} {args : Array Value} {below : List Frame} {meth : Method} {c : Code} {Q : State → Prop} (hlt : l.stackTraces = false) {D : va_G} {cyI cyZ : ClassId} {ad : Nat → Nat} {A : Nat → Prop} (hx : p.tables.exec = Jvm.exec) (hb : c.code = cL_rules) (hml : c.maxLocals = 2) (hown : s.vm.findClass RL = some m.cls) (hts : ∀ w ∈ wsL_rules, w.before args s = true) (hG : gP D cyI cyZ s) (hz : zqA A s s.heap) (hn : zn s) (hA : ∀ q : Nat, s.heap.size ≤ q → A q)
    (KK : ∀ (H : Heap) (locs : List Loc) (ls : Array Slot), va_P D vwCl (wZ cyI cyZ ad rT10 rT47 rT50 rT53 rU7 rR33 rL54 1) H → va_D A (wZ cyI cyZ ad rT10 rT47 rT50 rT53 rU7 rR33 rL54 1) → va_S A s.heap H locs → lv_has ls 2 [(1, .int 4), (0, .ref (ad 0))] → W p l e (headSpec wsL_rules ({ frames := 11, cells := 740, slots := 6862, locals := 231 } : Room)).room s m args below meth c H locs 740 6862 Q (F0 m 816 ls [])) : ∀ (H : Heap) (locs : List Loc) (ls : Array Slot), va_P D vwCl (wZ cyI cyZ ad rT10 rT47 rT50 rT43 rU7 rR33 rL46 0) H → va_D A (wZ cyI cyZ ad rT10 rT47 rT50 rT43 rU7 rR33 rL46 0) → va_S A s.heap H locs → lv_has ls 2 [(1, .int 4), (0, .ref (ad 0))] → W p l e (headSpec wsL_rules ({ frames := 11, cells := 740, slots := 6862, locals := 231 } : Room)).room s m args below meth c H locs 404 4846 Q (F0 m 726 ls []) := by
  intro H locs ls hP hD hS hl
  refine lv_aload_n hx hb dL_rules_726 rfl (lv_at hl 1 rfl) ?_
  refine mo_i (va_runV (As := []) (rest := []) ⟨hx, hb, hml, hown, hts⟩ (k_X2_merge l D cyI cyZ ad rT10 rT47 rT50 rT43 rU7 rR33 rL46 0 _ _ rfl) (cwV 0 hts gL_rules_X2_merge rfl rfl rfl (by decide +kernel) ⟨Nat.le_of_ble_eq_true rfl, Nat.le_of_ble_eq_true rfl⟩) (pmV hG hP hD (ci := 2) rfl rfl rfl) rfl rfl hl.1 rfl (lv_room (Nat.le_of_ble_eq_true rfl)) dL_rules_727 ⟨Nat.le_of_ble_eq_true rfl, Nat.le_of_ble_eq_true rfl⟩) hD hS hA (rv73v) (wE_z tE.rf tE.rf tE.rf rv73q.2.1 aE.rf aE.rf rv73l rv73q.2.2.2) (fun H locs hP hD hS => ?_)
  refine lv_bipush (v := 6) hx hb dL_rules_730 (by decide) ?_
  refine lv_icmp_ne (tgt := 820) hx hb dL_rules_732 (by decide) (fun c9 => absurd (by decide) c9) (fun _ => ?_)
  refine lv_aload_n hx hb dL_rules_735 rfl (lv_at hl 1 rfl) ?_
  refine lv_iconst (v := 0) hx hb dL_rules_736 (by decide) ?_
  refine lv_iconst (v := 4) hx hb dL_rules_737 (by decide) ?_
  refine lv_iconst (v := (-1)) hx hb dL_rules_738 (by decide) ?_
  refine lv_iconst (v := 5) hx hb dL_rules_739 (by decide) ?_
  refine po_i (va_runS (As := [.ref (ad 0), .int 0, .int 4, .int (-1), .int 5]) (rest := []) ⟨hx, hb, hml, hown, hts⟩ (k_L_is l D cyI cyZ ad rT10 rT47 rT50 rT51 rU7 rR33 rL52 1 0 4 (-1) 5 rv74x rv74k rv74y rv74c) (va_cwS 5 hts gL_rules_L_is rfl rfl rfl (by decide +kernel) ⟨Nat.le_of_ble_eq_true rfl, Nat.le_of_ble_eq_true rfl⟩) (prS hG hP) rfl rfl hl.1 rfl (lv_room (Nat.le_of_ble_eq_true rfl)) dL_rules_740 ⟨Nat.le_of_ble_eq_true rfl, Nat.le_of_ble_eq_true rfl⟩) hS hP rfl (fun H locs hP hS => ?_)
  refine lv_if_eq (tgt := 820) hx hb dL_rules_743 (by decide) (fun c9 => absurd c9 (by decide)) (fun _ => ?_)
  refine lv_aload_n hx hb dL_rules_746 rfl (lv_at hl 1 rfl) ?_
  refine lv_iconst (v := 3) hx hb dL_rules_747 (by decide) ?_
  refine lv_iconst (v := 5) hx hb dL_rules_748 (by decide) ?_
  refine po_i (va_runV (As := [.int 3, .int 5]) (rest := []) ⟨hx, hb, hml, hown, hts⟩ (k_X2_name l D cyI cyZ ad rT10 rT47 rT50 rT51 rU7 rR33 rL52 1 3 5 rv75x) (cwV 2 hts gL_rules_X2_name rfl rfl rfl (by decide +kernel) ⟨Nat.le_of_ble_eq_true rfl, Nat.le_of_ble_eq_true rfl⟩) (prV hG hP (ci := 2) rfl rfl rfl) rfl rfl hl.1 rfl (lv_room (Nat.le_of_ble_eq_true rfl)) dL_rules_749 ⟨Nat.le_of_ble_eq_true rfl, Nat.le_of_ble_eq_true rfl⟩) hS hP (rv75v) (fun H locs hP hS => ?_)
  refine lv_iconst (v := 1) hx hb dL_rules_752 (by decide) ?_
  refine lv_icmp_ne (tgt := 820) hx hb dL_rules_753 (by decide) (fun c9 => absurd (by decide) c9) (fun _ => ?_)
  refine lv_aload_n hx hb dL_rules_756 rfl (lv_at hl 1 rfl) ?_
  refine lv_iconst (v := 3) hx hb dL_rules_757 (by decide) ?_
  refine lv_iconst (v := 0) hx hb dL_rules_758 (by decide) ?_
  refine lv_bipush (v := 7) hx hb dL_rules_759 (by decide) ?_
  refine po_i (va_runV (As := [.int 3, .int 0, .int 7]) (rest := []) ⟨hx, hb, hml, hown, hts⟩ (k_X2_get l D cyI cyZ ad rT10 rT47 rT50 rT51 rU7 rR33 rL52 1 3 0 7 rv76x) (cwV 3 hts gL_rules_X2_get rfl rfl rfl (by decide +kernel) ⟨Nat.le_of_ble_eq_true rfl, Nat.le_of_ble_eq_true rfl⟩) (prV hG hP (ci := 2) rfl rfl rfl) rfl rfl hl.1 rfl (lv_room (Nat.le_of_ble_eq_true rfl)) dL_rules_761 ⟨Nat.le_of_ble_eq_true rfl, Nat.le_of_ble_eq_true rfl⟩) hS hP (rv76v) (fun H locs hP hS => ?_)
  refine lv_bipush (v := 6) hx hb dL_rules_764 (by decide) ?_
  refine lv_icmp_ne (tgt := 820) hx hb dL_rules_766 (by decide) (fun c9 => absurd (by decide) c9) (fun _ => ?_)
  refine lv_aload_n hx hb dL_rules_769 rfl (lv_at hl 1 rfl) ?_
  refine lv_iconst (v := 0) hx hb dL_rules_770 (by decide) ?_
  refine lv_iconst (v := 2) hx hb dL_rules_771 (by decide) ?_
  refine mo_i (va_runV (As := [.int 0, .int 2]) (rest := []) ⟨hx, hb, hml, hown, hts⟩ (k_X2_settle l D cyI cyZ ad rT10 rT47 rT50 rT51 rU7 rR33 rL52 1 0 2 _ _ rfl rv77x) (cwV 2 hts gL_rules_X2_settle rfl rfl rfl (by decide +kernel) ⟨Nat.le_of_ble_eq_true rfl, Nat.le_of_ble_eq_true rfl⟩) (pmV hG hP hD (ci := 2) rfl rfl rfl) rfl rfl hl.1 rfl (lv_room (Nat.le_of_ble_eq_true rfl)) dL_rules_772 ⟨Nat.le_of_ble_eq_true rfl, Nat.le_of_ble_eq_true rfl⟩) hD hS hA (rv77v) (wE_z tE.rf tE.rf tE.rf rv77m aE.rf aE.rf rv77l rfl) (fun H locs hP hD hS => ?_)
  refine lv_iconst (v := 5) hx hb dL_rules_775 (by decide) ?_
  refine lv_icmp_ne (tgt := 820) hx hb dL_rules_776 (by decide) (fun c9 => absurd (by decide) c9) (fun _ => ?_)
  refine lv_aload_n hx hb dL_rules_779 rfl (lv_at hl 1 rfl) ?_
  refine lv_iconst (v := 3) hx hb dL_rules_780 (by decide) ?_
  refine lv_iconst (v := 5) hx hb dL_rules_781 (by decide) ?_
  refine po_i (va_runV (As := [.int 3, .int 5]) (rest := []) ⟨hx, hb, hml, hown, hts⟩ (k_X2_name l D cyI cyZ ad rT10 rT47 rT50 rT53 rU7 rR33 rL54 1 3 5 rv78x) (cwV 2 hts gL_rules_X2_name rfl rfl rfl (by decide +kernel) ⟨Nat.le_of_ble_eq_true rfl, Nat.le_of_ble_eq_true rfl⟩) (prV hG hP (ci := 2) rfl rfl rfl) rfl rfl hl.1 rfl (lv_room (Nat.le_of_ble_eq_true rfl)) dL_rules_782 ⟨Nat.le_of_ble_eq_true rfl, Nat.le_of_ble_eq_true rfl⟩) hS hP (rv78v) (fun H locs hP hS => ?_)
  refine lv_iconst (v := 2) hx hb dL_rules_785 (by decide) ?_
  refine lv_icmp_ne (tgt := 820) hx hb dL_rules_786 (by decide) (fun c9 => absurd (by decide) c9) (fun _ => ?_)
  refine lv_aload_n hx hb dL_rules_789 rfl (lv_at hl 1 rfl) ?_
  refine lv_iconst (v := 3) hx hb dL_rules_790 (by decide) ?_
  refine po_i (va_runV (As := [.int 3]) (rest := []) ⟨hx, hb, hml, hown, hts⟩ (k_X2_columns l D cyI cyZ ad rT10 rT47 rT50 rT53 rU7 rR33 rL54 1 3 rv79x) (cwV 1 hts gL_rules_X2_columns rfl rfl rfl (by decide +kernel) ⟨Nat.le_of_ble_eq_true rfl, Nat.le_of_ble_eq_true rfl⟩) (prV hG hP (ci := 2) rfl rfl rfl) rfl rfl hl.1 rfl (lv_room (Nat.le_of_ble_eq_true rfl)) dL_rules_791 ⟨Nat.le_of_ble_eq_true rfl, Nat.le_of_ble_eq_true rfl⟩) hS hP (rv79v) (fun H locs hP hS => ?_)
  refine lv_sipush (v := 175) hx hb dL_rules_794 (by decide) ?_
  refine lv_icmp_ne (tgt := 820) hx hb dL_rules_797 (by decide) (fun c9 => absurd (by decide) c9) (fun _ => ?_)
  refine lv_aload_n hx hb dL_rules_800 rfl (lv_at hl 1 rfl) ?_
  refine mo_i (va_runS (As := [.ref (ad 0)]) (rest := []) ⟨hx, hb, hml, hown, hts⟩ (k_L_agrees l hlt D cyI cyZ ad rT10 rT47 rT50 rT53 rU7 rR33 rL54 1 _ _ rfl tI_rT10 tI_rT47 tI_rT50 rv80m rv80n) (va_cwS 1 hts gL_rules_L_agrees rfl rfl rfl (by decide +kernel) ⟨Nat.le_of_ble_eq_true rfl, Nat.le_of_ble_eq_true rfl⟩) (poS hG hz hn hP hD hS hA) rfl rfl hl.1 rfl (lv_room (Nat.le_of_ble_eq_true rfl)) dL_rules_801 ⟨Nat.le_of_ble_eq_true rfl, Nat.le_of_ble_eq_true rfl⟩) hD hS hA rfl wE.rf (fun H locs hP hD hS => ?_)
  refine W.widen (k := 596) (n := 5998) (Nat.le_of_ble_eq_true rfl) (Nat.le_of_ble_eq_true rfl) ?_
  refine lv_if_eq (tgt := 820) hx hb dL_rules_804 (by decide) (fun c9 => absurd c9 (by decide)) (fun _ => ?_)
  refine lv_aload_n hx hb dL_rules_807 rfl (lv_at hl 1 rfl) ?_
  refine lv_iconst (v := 3) hx hb dL_rules_808 (by decide) ?_
  refine lv_iconst (v := 5) hx hb dL_rules_809 (by decide) ?_
  refine mo_i (va_runS (As := [.ref (ad 0), .int 3, .int 5]) (rest := []) ⟨hx, hb, hml, hown, hts⟩ (k_L_refuses l hlt D cyI cyZ ad rT10 rT47 rT50 rT53 rU7 rR33 rL54 1 3 5 _ _ rfl rv81r rv81c) (va_cwS 3 hts gL_rules_L_refuses rfl rfl rfl (by decide +kernel) ⟨Nat.le_of_ble_eq_true rfl, Nat.le_of_ble_eq_true rfl⟩) (poS hG hz hn hP hD hS hA) rfl rfl hl.1 rfl (lv_room (Nat.le_of_ble_eq_true rfl)) dL_rules_810 ⟨Nat.le_of_ble_eq_true rfl, Nat.le_of_ble_eq_true rfl⟩) hD hS hA rfl wE.rf (fun H locs hP hD hS => ?_)
  refine W.widen (k := 740) (n := 6862) (Nat.le_of_ble_eq_true rfl) (Nat.le_of_ble_eq_true rfl) ?_
  refine lv_if_eq (tgt := 820) hx hb dL_rules_813 (by decide) (fun c9 => absurd c9 (by decide)) (fun _ => ?_)
  exact KK H locs ls hP hD hS hl
