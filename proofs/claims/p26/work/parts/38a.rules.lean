set_option maxHeartbeats 8000000 in
set_option maxRecDepth 100000 in
theorem rules_1 {p : Program} {l : Launch} {e : Env} {s : State} {m : MethodId} {args : Array Value} {below : List Frame} {meth : Method} {c : Code} {Q : State → Prop} (hlt : l.stackTraces = false) {D : va_G} {cyI cyZ : ClassId} {ad : Nat → Nat} {A : Nat → Prop} (hx : p.tables.exec = Jvm.exec) (hb : c.code = cL_rules) (hml : c.maxLocals = 2) (hown : s.vm.findClass RL = some m.cls) (hts : ∀ w ∈ wsL_rules, w.before args s = true) (hG : gP D cyI cyZ s) (hz : zqA A s s.heap) (hn : zn s) (hA : ∀ q : Nat, s.heap.size ≤ q → A q)
    (KK : ∀ (H : Heap) (locs : List Loc) (ls : Array Slot), va_P D vwCl (wZ cyI cyZ ad rT8 t00 t00 t00 rU7 (fun _ => 0) l00 0) H → va_D A (wZ cyI cyZ ad rT8 t00 t00 t00 rU7 (fun _ => 0) l00 0) → va_S A s.heap H locs → lv_has ls 2 [(1, .int 4), (0, .ref (ad 0))] → W p l e (headSpec wsL_rules ({ frames := 11, cells := 740, slots := 6862, locals := 231 } : Room)).room s m args below meth c H locs 20 2542 Q (F0 m 58 ls [])) : ∀ (H : Heap) (locs : List Loc) (ls : Array Slot), va_P D vwCl (wZ cyI cyZ ad t00 t00 t00 t00 (fun _ => 0) (fun _ => 0) l00 0) H → va_D A (wZ cyI cyZ ad t00 t00 t00 t00 (fun _ => 0) (fun _ => 0) l00 0) → va_S A s.heap H locs → lv_has ls 2 [(0, .ref (ad 0))] → W p l e (headSpec wsL_rules ({ frames := 11, cells := 740, slots := 6862, locals := 231 } : Room)).room s m args below meth c H locs 20 2542 Q (F0 m 8 ls []) := by
  intro H locs ls hP hD hS hl
  refine lv_iconst (v := 0) hx hb dL_rules_8 (by decide) ?_
  refine lv_istore_n (lv' := [(1, .int 0), (0, .ref (ad 0))]) hx hb dL_rules_9 rfl hl (by decide) rfl (fun ls hl => ?_)
  refine lv_iload_n hx hb dL_rules_10 rfl (lv_at hl 0 rfl) ?_
  refine lv_iconst (v := 4) hx hb dL_rules_11 (by decide) ?_
  refine lv_icmp_ge (tgt := 48) hx hb dL_rules_12 (by decide) (fun c9 => absurd c9 (by decide)) (fun _ => ?_)
  refine lv_aload_n hx hb dL_rules_15 rfl (lv_at hl 1 rfl) ?_
  refine lv_iconst (v := 0) hx hb dL_rules_16 (by decide) ?_
  refine lv_iload_n hx hb dL_rules_17 rfl (lv_at hl 0 rfl) ?_
  refine lv_bipush (v := 50) hx hb dL_rules_18 (by decide) ?_
  refine lv_iload_n hx hb dL_rules_20 rfl (lv_at hl 0 rfl) ?_
  refine lv_iadd hx hb dL_rules_21 ?_
  refine W.eq (g2 := F0 m 22 ls (.int 50 :: [.int 0, .int 0, .ref (ad 0)])) (congrArg (fun z => F0 m 22 ls (.int z :: [.int 0, .int 0, .ref (ad 0)])) (show 50 + 0 = 50 by decide)) ?_
  refine mo_i (va_runV (As := [.int 0, .int 0, .int 50]) (rest := []) ⟨hx, hb, hml, hown, hts⟩ (k_X2_addColumn l D cyI cyZ ad t00 t00 t00 t00 (fun _ => 0) (fun _ => 0) l00 0 0 0 50 _ _ rfl rv1x) (cwV 3 hts gL_rules_X2_addColumn rfl rfl rfl (by decide +kernel) ⟨Nat.le_of_ble_eq_true rfl, Nat.le_of_ble_eq_true rfl⟩) (pmV hG hP hD (ci := 2) rfl rfl rfl) rfl rfl hl.1 rfl (lv_room (Nat.le_of_ble_eq_true rfl)) dL_rules_22 ⟨Nat.le_of_ble_eq_true rfl, Nat.le_of_ble_eq_true rfl⟩) hD hS hA (rv1v) (wE_z rv1b rv1o rv1t tE.rf aE.rf aE.rf lE.rf rv1f) (fun H locs hP hD hS => ?_)
  refine lv_iload_n hx hb dL_rules_25 rfl (lv_at hl 0 rfl) ?_
  refine lv_iconst (v := 1) hx hb dL_rules_26 (by decide) ?_
  refine lv_iadd hx hb dL_rules_27 ?_
  refine W.eq (g2 := F0 m 28 ls (.int 1 :: [.int 1])) (congrArg (fun z => F0 m 28 ls (.int z :: [.int 1])) (show 0 + 1 = 1 by decide)) ?_
  refine lv_icmp_ne (tgt := 40) hx hb dL_rules_28 (by decide) (fun c9 => absurd (by decide) c9) (fun _ => ?_)
  refine lv_aload_n hx hb dL_rules_31 rfl (lv_at hl 1 rfl) ?_
  refine lv_iload_n hx hb dL_rules_32 rfl (lv_at hl 0 rfl) ?_
  refine lv_iload_n hx hb dL_rules_33 rfl (lv_at hl 0 rfl) ?_
  refine mo_i (va_runV (As := [.int 0, .int 0]) (rest := []) ⟨hx, hb, hml, hown, hts⟩ (k_X2_setRule l D cyI cyZ ad rT1 t00 t00 t00 (fun _ => 0) (fun _ => 0) l00 0 0 0 _ _ rfl rv2x) (cwV 2 hts gL_rules_X2_setRule rfl rfl rfl (by decide +kernel) ⟨Nat.le_of_ble_eq_true rfl, Nat.le_of_ble_eq_true rfl⟩) (pmV hG hP hD (ci := 2) rfl rfl rfl) rfl rfl hl.1 rfl (lv_room (Nat.le_of_ble_eq_true rfl)) dL_rules_34 ⟨Nat.le_of_ble_eq_true rfl, Nat.le_of_ble_eq_true rfl⟩) hD hS hA (rv2v) (wE_z tE.rf tE.rf tE.rf tE.rf rv2u aE.rf lE.rf rv2f) (fun H locs hP hD hS => ?_)
  refine lv_if_eq (tgt := 42) hx hb dL_rules_37 (by decide) (fun _ => ?_) (fun c9 => absurd (by decide) c9)
  refine lv_iinc (v := 1) (lv' := [(1, .int 1), (0, .ref (ad 0))]) hx hb dL_rules_42 hl (k := 0) rfl (by decide) (by decide) rfl (fun ls hl => ?_)
  refine lv_goto (tgt := 10) hx hb dL_rules_45 (by decide) ?_
  refine lv_iload_n hx hb dL_rules_10 rfl (lv_at hl 0 rfl) ?_
  refine lv_iconst (v := 4) hx hb dL_rules_11 (by decide) ?_
  refine lv_icmp_ge (tgt := 48) hx hb dL_rules_12 (by decide) (fun c9 => absurd c9 (by decide)) (fun _ => ?_)
  refine lv_aload_n hx hb dL_rules_15 rfl (lv_at hl 1 rfl) ?_
  refine lv_iconst (v := 0) hx hb dL_rules_16 (by decide) ?_
  refine lv_iload_n hx hb dL_rules_17 rfl (lv_at hl 0 rfl) ?_
  refine lv_bipush (v := 50) hx hb dL_rules_18 (by decide) ?_
  refine lv_iload_n hx hb dL_rules_20 rfl (lv_at hl 0 rfl) ?_
  refine lv_iadd hx hb dL_rules_21 ?_
  refine W.eq (g2 := F0 m 22 ls (.int 51 :: [.int 1, .int 0, .ref (ad 0)])) (congrArg (fun z => F0 m 22 ls (.int z :: [.int 1, .int 0, .ref (ad 0)])) (show 50 + 1 = 51 by decide)) ?_
  refine mo_i (va_runV (As := [.int 0, .int 1, .int 51]) (rest := []) ⟨hx, hb, hml, hown, hts⟩ (k_X2_addColumn l D cyI cyZ ad rT1 t00 t00 t00 (fun _ => 0) (fun _ => 0) l00 0 0 1 51 _ _ rfl rv3x) (cwV 3 hts gL_rules_X2_addColumn rfl rfl rfl (by decide +kernel) ⟨Nat.le_of_ble_eq_true rfl, Nat.le_of_ble_eq_true rfl⟩) (pmV hG hP hD (ci := 2) rfl rfl rfl) rfl rfl hl.1 rfl (lv_room (Nat.le_of_ble_eq_true rfl)) dL_rules_22 ⟨Nat.le_of_ble_eq_true rfl, Nat.le_of_ble_eq_true rfl⟩) hD hS hA (rv3v) (wE_z rv3b rv3o rv3t tE.rf aE.rf aE.rf lE.rf rv3f) (fun H locs hP hD hS => ?_)
  refine lv_iload_n hx hb dL_rules_25 rfl (lv_at hl 0 rfl) ?_
  refine lv_iconst (v := 1) hx hb dL_rules_26 (by decide) ?_
  refine lv_iadd hx hb dL_rules_27 ?_
  refine W.eq (g2 := F0 m 28 ls (.int 2 :: [.int 2])) (congrArg (fun z => F0 m 28 ls (.int z :: [.int 2])) (show 1 + 1 = 2 by decide)) ?_
  refine lv_icmp_ne (tgt := 40) hx hb dL_rules_28 (by decide) (fun c9 => absurd (by decide) c9) (fun _ => ?_)
  refine lv_aload_n hx hb dL_rules_31 rfl (lv_at hl 1 rfl) ?_
  refine lv_iload_n hx hb dL_rules_32 rfl (lv_at hl 0 rfl) ?_
  refine lv_iload_n hx hb dL_rules_33 rfl (lv_at hl 0 rfl) ?_
  refine mo_i (va_runV (As := [.int 1, .int 1]) (rest := []) ⟨hx, hb, hml, hown, hts⟩ (k_X2_setRule l D cyI cyZ ad rT2 t00 t00 t00 (fun _ => 0) (fun _ => 0) l00 0 1 1 _ _ rfl rv4x) (cwV 2 hts gL_rules_X2_setRule rfl rfl rfl (by decide +kernel) ⟨Nat.le_of_ble_eq_true rfl, Nat.le_of_ble_eq_true rfl⟩) (pmV hG hP hD (ci := 2) rfl rfl rfl) rfl rfl hl.1 rfl (lv_room (Nat.le_of_ble_eq_true rfl)) dL_rules_34 ⟨Nat.le_of_ble_eq_true rfl, Nat.le_of_ble_eq_true rfl⟩) hD hS hA (rv4v) (wE_z tE.rf tE.rf tE.rf tE.rf rv4u aE.rf lE.rf rv4f) (fun H locs hP hD hS => ?_)
  refine lv_if_eq (tgt := 42) hx hb dL_rules_37 (by decide) (fun _ => ?_) (fun c9 => absurd (by decide) c9)
  refine lv_iinc (v := 2) (lv' := [(1, .int 2), (0, .ref (ad 0))]) hx hb dL_rules_42 hl (k := 0) rfl (by decide) (by decide) rfl (fun ls hl => ?_)
  refine lv_goto (tgt := 10) hx hb dL_rules_45 (by decide) ?_
  refine lv_iload_n hx hb dL_rules_10 rfl (lv_at hl 0 rfl) ?_
  refine lv_iconst (v := 4) hx hb dL_rules_11 (by decide) ?_
  refine lv_icmp_ge (tgt := 48) hx hb dL_rules_12 (by decide) (fun c9 => absurd c9 (by decide)) (fun _ => ?_)
  refine lv_aload_n hx hb dL_rules_15 rfl (lv_at hl 1 rfl) ?_
  refine lv_iconst (v := 0) hx hb dL_rules_16 (by decide) ?_
  refine lv_iload_n hx hb dL_rules_17 rfl (lv_at hl 0 rfl) ?_
  refine lv_bipush (v := 50) hx hb dL_rules_18 (by decide) ?_
  refine lv_iload_n hx hb dL_rules_20 rfl (lv_at hl 0 rfl) ?_
  refine lv_iadd hx hb dL_rules_21 ?_
  refine W.eq (g2 := F0 m 22 ls (.int 52 :: [.int 2, .int 0, .ref (ad 0)])) (congrArg (fun z => F0 m 22 ls (.int z :: [.int 2, .int 0, .ref (ad 0)])) (show 50 + 2 = 52 by decide)) ?_
  refine mo_i (va_runV (As := [.int 0, .int 2, .int 52]) (rest := []) ⟨hx, hb, hml, hown, hts⟩ (k_X2_addColumn l D cyI cyZ ad rT2 t00 t00 t00 rU3 (fun _ => 0) l00 0 0 2 52 _ _ rfl rv5x) (cwV 3 hts gL_rules_X2_addColumn rfl rfl rfl (by decide +kernel) ⟨Nat.le_of_ble_eq_true rfl, Nat.le_of_ble_eq_true rfl⟩) (pmV hG hP hD (ci := 2) rfl rfl rfl) rfl rfl hl.1 rfl (lv_room (Nat.le_of_ble_eq_true rfl)) dL_rules_22 ⟨Nat.le_of_ble_eq_true rfl, Nat.le_of_ble_eq_true rfl⟩) hD hS hA (rv5v) (wE_z rv5b rv5o rv5t tE.rf aE.rf aE.rf lE.rf rv5f) (fun H locs hP hD hS => ?_)
  refine lv_iload_n hx hb dL_rules_25 rfl (lv_at hl 0 rfl) ?_
  refine lv_iconst (v := 1) hx hb dL_rules_26 (by decide) ?_
  refine lv_iadd hx hb dL_rules_27 ?_
  refine W.eq (g2 := F0 m 28 ls (.int 3 :: [.int 3])) (congrArg (fun z => F0 m 28 ls (.int z :: [.int 3])) (show 2 + 1 = 3 by decide)) ?_
  refine lv_icmp_ne (tgt := 40) hx hb dL_rules_28 (by decide) (fun c9 => absurd (by decide) c9) (fun _ => ?_)
  refine lv_aload_n hx hb dL_rules_31 rfl (lv_at hl 1 rfl) ?_
  refine lv_iload_n hx hb dL_rules_32 rfl (lv_at hl 0 rfl) ?_
  refine lv_iload_n hx hb dL_rules_33 rfl (lv_at hl 0 rfl) ?_
  refine mo_i (va_runV (As := [.int 2, .int 2]) (rest := []) ⟨hx, hb, hml, hown, hts⟩ (k_X2_setRule l D cyI cyZ ad rT4 t00 t00 t00 rU3 (fun _ => 0) l00 0 2 2 _ _ rfl rv6x) (cwV 2 hts gL_rules_X2_setRule rfl rfl rfl (by decide +kernel) ⟨Nat.le_of_ble_eq_true rfl, Nat.le_of_ble_eq_true rfl⟩) (pmV hG hP hD (ci := 2) rfl rfl rfl) rfl rfl hl.1 rfl (lv_room (Nat.le_of_ble_eq_true rfl)) dL_rules_34 ⟨Nat.le_of_ble_eq_true rfl, Nat.le_of_ble_eq_true rfl⟩) hD hS hA (rv6v) (wE_z tE.rf tE.rf tE.rf tE.rf rv6u aE.rf lE.rf rv6f) (fun H locs hP hD hS => ?_)
  refine lv_if_eq (tgt := 42) hx hb dL_rules_37 (by decide) (fun _ => ?_) (fun c9 => absurd (by decide) c9)
  refine lv_iinc (v := 3) (lv' := [(1, .int 3), (0, .ref (ad 0))]) hx hb dL_rules_42 hl (k := 0) rfl (by decide) (by decide) rfl (fun ls hl => ?_)
  refine lv_goto (tgt := 10) hx hb dL_rules_45 (by decide) ?_
  refine lv_iload_n hx hb dL_rules_10 rfl (lv_at hl 0 rfl) ?_
  refine lv_iconst (v := 4) hx hb dL_rules_11 (by decide) ?_
  refine lv_icmp_ge (tgt := 48) hx hb dL_rules_12 (by decide) (fun c9 => absurd c9 (by decide)) (fun _ => ?_)
  refine lv_aload_n hx hb dL_rules_15 rfl (lv_at hl 1 rfl) ?_
  refine lv_iconst (v := 0) hx hb dL_rules_16 (by decide) ?_
  refine lv_iload_n hx hb dL_rules_17 rfl (lv_at hl 0 rfl) ?_
  refine lv_bipush (v := 50) hx hb dL_rules_18 (by decide) ?_
  refine lv_iload_n hx hb dL_rules_20 rfl (lv_at hl 0 rfl) ?_
  refine lv_iadd hx hb dL_rules_21 ?_
  refine W.eq (g2 := F0 m 22 ls (.int 53 :: [.int 3, .int 0, .ref (ad 0)])) (congrArg (fun z => F0 m 22 ls (.int z :: [.int 3, .int 0, .ref (ad 0)])) (show 50 + 3 = 53 by decide)) ?_
  refine mo_i (va_runV (As := [.int 0, .int 3, .int 53]) (rest := []) ⟨hx, hb, hml, hown, hts⟩ (k_X2_addColumn l D cyI cyZ ad rT4 t00 t00 t00 rU5 (fun _ => 0) l00 0 0 3 53 _ _ rfl rv7x) (cwV 3 hts gL_rules_X2_addColumn rfl rfl rfl (by decide +kernel) ⟨Nat.le_of_ble_eq_true rfl, Nat.le_of_ble_eq_true rfl⟩) (pmV hG hP hD (ci := 2) rfl rfl rfl) rfl rfl hl.1 rfl (lv_room (Nat.le_of_ble_eq_true rfl)) dL_rules_22 ⟨Nat.le_of_ble_eq_true rfl, Nat.le_of_ble_eq_true rfl⟩) hD hS hA (rv7v) (wE_z rv7b rv7o rv7t tE.rf aE.rf aE.rf lE.rf rv7f) (fun H locs hP hD hS => ?_)
  refine lv_iload_n hx hb dL_rules_25 rfl (lv_at hl 0 rfl) ?_
  refine lv_iconst (v := 1) hx hb dL_rules_26 (by decide) ?_
  refine lv_iadd hx hb dL_rules_27 ?_
  refine W.eq (g2 := F0 m 28 ls (.int 4 :: [.int 4])) (congrArg (fun z => F0 m 28 ls (.int z :: [.int 4])) (show 3 + 1 = 4 by decide)) ?_
  refine lv_icmp_ne (tgt := 40) hx hb dL_rules_28 (by decide) (fun c9 => absurd (by decide) c9) (fun _ => ?_)
  refine lv_aload_n hx hb dL_rules_31 rfl (lv_at hl 1 rfl) ?_
  refine lv_iload_n hx hb dL_rules_32 rfl (lv_at hl 0 rfl) ?_
  refine lv_iload_n hx hb dL_rules_33 rfl (lv_at hl 0 rfl) ?_
  refine mo_i (va_runV (As := [.int 3, .int 3]) (rest := []) ⟨hx, hb, hml, hown, hts⟩ (k_X2_setRule l D cyI cyZ ad rT6 t00 t00 t00 rU5 (fun _ => 0) l00 0 3 3 _ _ rfl rv8x) (cwV 2 hts gL_rules_X2_setRule rfl rfl rfl (by decide +kernel) ⟨Nat.le_of_ble_eq_true rfl, Nat.le_of_ble_eq_true rfl⟩) (pmV hG hP hD (ci := 2) rfl rfl rfl) rfl rfl hl.1 rfl (lv_room (Nat.le_of_ble_eq_true rfl)) dL_rules_34 ⟨Nat.le_of_ble_eq_true rfl, Nat.le_of_ble_eq_true rfl⟩) hD hS hA (rv8v) (wE_z tE.rf tE.rf tE.rf tE.rf rv8u aE.rf lE.rf rv8f) (fun H locs hP hD hS => ?_)
  refine lv_if_eq (tgt := 42) hx hb dL_rules_37 (by decide) (fun _ => ?_) (fun c9 => absurd (by decide) c9)
  refine lv_iinc (v := 4) (lv' := [(1, .int 4), (0, .ref (ad 0))]) hx hb dL_rules_42 hl (k := 0) rfl (by decide) (by decide) rfl (fun ls hl => ?_)
  refine lv_goto (tgt := 10) hx hb dL_rules_45 (by decide) ?_
  refine lv_iload_n hx hb dL_rules_10 rfl (lv_at hl 0 rfl) ?_
  refine lv_iconst (v := 4) hx hb dL_rules_11 (by decide) ?_
  refine lv_icmp_ge (tgt := 48) hx hb dL_rules_12 (by decide) (fun _ => ?_) (fun c9 => absurd (by decide) c9)
  refine lv_aload_n hx hb dL_rules_48 rfl (lv_at hl 1 rfl) ?_
  refine lv_iconst (v := 0) hx hb dL_rules_49 (by decide) ?_
  refine lv_iconst (v := 0) hx hb dL_rules_50 (by decide) ?_
  refine mo_i (va_runV (As := [.int 0, .int 0]) (rest := []) ⟨hx, hb, hml, hown, hts⟩ (k_X2_addRow l D cyI cyZ ad rT6 t00 t00 t00 rU7 (fun _ => 0) l00 0 0 0 _ _ rfl rv9x) (cwV 2 hts gL_rules_X2_addRow rfl rfl rfl (by decide +kernel) ⟨Nat.le_of_ble_eq_true rfl, Nat.le_of_ble_eq_true rfl⟩) (pmV hG hP hD (ci := 2) rfl rfl rfl) rfl rfl hl.1 rfl (lv_room (Nat.le_of_ble_eq_true rfl)) dL_rules_51 ⟨Nat.le_of_ble_eq_true rfl, Nat.le_of_ble_eq_true rfl⟩) hD hS hA (rv9v) (wE_z rv9b rv9o rv9t tE.rf aE.rf aE.rf lE.rf rv9f) (fun H locs hP hD hS => ?_)
  refine lv_iconst (v := 1) hx hb dL_rules_54 (by decide) ?_
  refine lv_icmp_ne (tgt := 90) hx hb dL_rules_55 (by decide) (fun c9 => absurd (by decide) c9) (fun _ => ?_)
  exact KK H locs ls hP hD hS hl
set_option maxHeartbeats 8000000 in
set_option maxRecDepth 100000 in
theorem rules_2 {p : Program} {l : Launch} {e : Env} {s : State} {m : MethodId} {args : Array Value} {below : List Frame} {meth : Method} {c : Code} {Q : State → Prop} (hlt : l.stackTraces = false) {D : va_G} {cyI cyZ : ClassId} {ad : Nat → Nat} {A : Nat → Prop} (hx : p.tables.exec = Jvm.exec) (hb : c.code = cL_rules) (hml : c.maxLocals = 2) (hown : s.vm.findClass RL = some m.cls) (hts : ∀ w ∈ wsL_rules, w.before args s = true) (hG : gP D cyI cyZ s) (hz : zqA A s s.heap) (hn : zn s) (hA : ∀ q : Nat, s.heap.size ≤ q → A q)
    (KK : ∀ (H : Heap) (locs : List Loc) (ls : Array Slot), va_P D vwCl (wZ cyI cyZ ad rT10 rT15 rT16 t00 rU7 (fun _ => 0) l00 0) H → va_D A (wZ cyI cyZ ad rT10 rT15 rT16 t00 rU7 (fun _ => 0) l00 0) → va_S A s.heap H locs → lv_has ls 2 [(1, .int 2), (0, .ref (ad 0))] → W p l e (headSpec wsL_rules ({ frames := 11, cells := 740, slots := 6862, locals := 231 } : Room)).room s m args below meth c H locs 20 2542 Q (F0 m 151 ls [])) : ∀ (H : Heap) (locs : List Loc) (ls : Array Slot), va_P D vwCl (wZ cyI cyZ ad rT8 t00 t00 t00 rU7 (fun _ => 0) l00 0) H → va_D A (wZ cyI cyZ ad rT8 t00 t00 t00 rU7 (fun _ => 0) l00 0) → va_S A s.heap H locs → lv_has ls 2 [(1, .int 4), (0, .ref (ad 0))] → W p l e (headSpec wsL_rules ({ frames := 11, cells := 740, slots := 6862, locals := 231 } : Room)).room s m args below meth c H locs 20 2542 Q (F0 m 58 ls []) := by
  intro H locs ls hP hD hS hl
  refine lv_aload_n hx hb dL_rules_58 rfl (lv_at hl 1 rfl) ?_
  refine lv_iconst (v := 0) hx hb dL_rules_59 (by decide) ?_
  refine lv_bipush (v := 23) hx hb dL_rules_60 (by decide) ?_
  refine mo_i (va_runV (As := [.int 0, .int 23]) (rest := []) ⟨hx, hb, hml, hown, hts⟩ (k_X2_addRow l D cyI cyZ ad rT8 t00 t00 t00 rU7 (fun _ => 0) l00 0 0 23 _ _ rfl rv10x) (cwV 2 hts gL_rules_X2_addRow rfl rfl rfl (by decide +kernel) ⟨Nat.le_of_ble_eq_true rfl, Nat.le_of_ble_eq_true rfl⟩) (pmV hG hP hD (ci := 2) rfl rfl rfl) rfl rfl hl.1 rfl (lv_room (Nat.le_of_ble_eq_true rfl)) dL_rules_62 ⟨Nat.le_of_ble_eq_true rfl, Nat.le_of_ble_eq_true rfl⟩) hD hS hA (rv10v) (wE_z rv10b rv10o rv10t tE.rf aE.rf aE.rf lE.rf rv10f) (fun H locs hP hD hS => ?_)
  refine lv_iconst (v := 2) hx hb dL_rules_65 (by decide) ?_
  refine lv_icmp_ne (tgt := 90) hx hb dL_rules_66 (by decide) (fun c9 => absurd (by decide) c9) (fun _ => ?_)
  refine lv_aload_n hx hb dL_rules_69 rfl (lv_at hl 1 rfl) ?_
  refine lv_iconst (v := 0) hx hb dL_rules_70 (by decide) ?_
  refine lv_iconst (v := 0) hx hb dL_rules_71 (by decide) ?_
  refine lv_iconst (v := 3) hx hb dL_rules_72 (by decide) ?_
  refine lv_bipush (v := 10) hx hb dL_rules_73 (by decide) ?_
  refine mo_i (va_runV (As := [.int 0, .int 0, .int 3, .int 10]) (rest := []) ⟨hx, hb, hml, hown, hts⟩ (k_X2_set l D cyI cyZ ad rT9 t00 t00 t00 rU7 (fun _ => 0) l00 0 0 0 3 10 _ _ rfl rv11x) (cwV 4 hts gL_rules_X2_set rfl rfl rfl (by decide +kernel) ⟨Nat.le_of_ble_eq_true rfl, Nat.le_of_ble_eq_true rfl⟩) (pmV hG hP hD (ci := 2) rfl rfl rfl) rfl rfl hl.1 rfl (lv_room (Nat.le_of_ble_eq_true rfl)) dL_rules_75 ⟨Nat.le_of_ble_eq_true rfl, Nat.le_of_ble_eq_true rfl⟩) hD hS hA (rv11v) (wE_z rv11b rv11o rv11t tE.rf aE.rf aE.rf lE.rf rv11f) (fun H locs hP hD hS => ?_)
  refine lv_if_ne (tgt := 90) hx hb dL_rules_78 (by decide) (fun c9 => absurd (by decide) c9) (fun _ => ?_)
  refine lv_aload_n hx hb dL_rules_81 rfl (lv_at hl 1 rfl) ?_
  refine mo_i (va_runV (As := []) (rest := []) ⟨hx, hb, hml, hown, hts⟩ (k_X2_fork l D cyI cyZ ad rT10 t00 t00 t00 rU7 (fun _ => 0) l00 0 _ _ rfl) (cwV 0 hts gL_rules_X2_fork rfl rfl rfl (by decide +kernel) ⟨Nat.le_of_ble_eq_true rfl, Nat.le_of_ble_eq_true rfl⟩) (pmV hG hP hD (ci := 2) rfl rfl rfl) rfl rfl hl.1 rfl (lv_room (Nat.le_of_ble_eq_true rfl)) dL_rules_82 ⟨Nat.le_of_ble_eq_true rfl, Nat.le_of_ble_eq_true rfl⟩) hD hS hA (rv12v) (wE_z tE.rf (like_E _ _) (like_E _ _) (emp_E _) aE.rf aE.rf rv12l rfl) (fun H locs hP hD hS => ?_)
  refine lv_bipush (v := 8) hx hb dL_rules_85 (by decide) ?_
  refine lv_icmp_eq (tgt := 92) hx hb dL_rules_87 (by decide) (fun _ => ?_) (fun c9 => absurd (by decide) c9)
  refine lv_iconst (v := 0) hx hb dL_rules_92 (by decide) ?_
  refine lv_istore_n (lv' := [(1, .int 0), (0, .ref (ad 0))]) hx hb dL_rules_93 rfl hl (by decide) rfl (fun ls hl => ?_)
  refine lv_iload_n hx hb dL_rules_94 rfl (lv_at hl 0 rfl) ?_
  refine lv_iconst (v := 4) hx hb dL_rules_95 (by decide) ?_
  refine lv_icmp_ge (tgt := 157) hx hb dL_rules_96 (by decide) (fun c9 => absurd c9 (by decide)) (fun _ => ?_)
  refine lv_aload_n hx hb dL_rules_99 rfl (lv_at hl 1 rfl) ?_
  refine lv_iconst (v := 1) hx hb dL_rules_100 (by decide) ?_
  refine lv_iconst (v := 0) hx hb dL_rules_101 (by decide) ?_
  refine lv_iload_n hx hb dL_rules_102 rfl (lv_at hl 0 rfl) ?_
  refine lv_bipush (v := 20) hx hb dL_rules_103 (by decide) ?_
  refine lv_iload_n hx hb dL_rules_105 rfl (lv_at hl 0 rfl) ?_
  refine lv_iadd hx hb dL_rules_106 ?_
  refine W.eq (g2 := F0 m 107 ls (.int 20 :: [.int 0, .int 0, .int 1, .ref (ad 0)])) (congrArg (fun z => F0 m 107 ls (.int z :: [.int 0, .int 0, .int 1, .ref (ad 0)])) (show 20 + 0 = 20 by decide)) ?_
  refine mo_i (va_runV (As := [.int 1, .int 0, .int 0, .int 20]) (rest := []) ⟨hx, hb, hml, hown, hts⟩ (k_X2_set l D cyI cyZ ad rT10 rT10 rT10 t00 rU7 (fun _ => 0) l00 0 1 0 0 20 _ _ rfl rv13x) (cwV 4 hts gL_rules_X2_set rfl rfl rfl (by decide +kernel) ⟨Nat.le_of_ble_eq_true rfl, Nat.le_of_ble_eq_true rfl⟩) (pmV hG hP hD (ci := 2) rfl rfl rfl) rfl rfl hl.1 rfl (lv_room (Nat.le_of_ble_eq_true rfl)) dL_rules_107 ⟨Nat.le_of_ble_eq_true rfl, Nat.le_of_ble_eq_true rfl⟩) hD hS hA (rv13v) (wE_z rv13b rv13o rv13t tE.rf aE.rf aE.rf lE.rf rv13f) (fun H locs hP hD hS => ?_)
  refine lv_iload_n hx hb dL_rules_110 rfl (lv_at hl 0 rfl) ?_
  refine lv_iconst (v := 3) hx hb dL_rules_111 (by decide) ?_
  refine lv_icmp_ne (tgt := 120) hx hb dL_rules_112 (by decide) (fun _ => ?_) (fun c9 => absurd c9 (by decide))
  refine lv_iconst (v := 0) hx hb dL_rules_120 (by decide) ?_
  refine lv_icmp_ne (tgt := 149) hx hb dL_rules_121 (by decide) (fun c9 => absurd (by decide) c9) (fun _ => ?_)
  refine lv_aload_n hx hb dL_rules_124 rfl (lv_at hl 1 rfl) ?_
  refine lv_iconst (v := 2) hx hb dL_rules_125 (by decide) ?_
  refine lv_iconst (v := 0) hx hb dL_rules_126 (by decide) ?_
  refine lv_iload_n hx hb dL_rules_127 rfl (lv_at hl 0 rfl) ?_
  refine lv_bipush (v := 24) hx hb dL_rules_128 (by decide) ?_
  refine lv_iload_n hx hb dL_rules_130 rfl (lv_at hl 0 rfl) ?_
  refine lv_isub hx hb dL_rules_131 ?_
  refine W.eq (g2 := F0 m 132 ls (.int 24 :: [.int 0, .int 0, .int 2, .ref (ad 0)])) (congrArg (fun z => F0 m 132 ls (.int z :: [.int 0, .int 0, .int 2, .ref (ad 0)])) (show 24 - 0 = 24 by decide)) ?_
  refine mo_i (va_runV (As := [.int 2, .int 0, .int 0, .int 24]) (rest := []) ⟨hx, hb, hml, hown, hts⟩ (k_X2_set l D cyI cyZ ad rT10 rT11 rT10 t00 rU7 (fun _ => 0) l00 0 2 0 0 24 _ _ rfl rv14x) (cwV 4 hts gL_rules_X2_set rfl rfl rfl (by decide +kernel) ⟨Nat.le_of_ble_eq_true rfl, Nat.le_of_ble_eq_true rfl⟩) (pmV hG hP hD (ci := 2) rfl rfl rfl) rfl rfl hl.1 rfl (lv_room (Nat.le_of_ble_eq_true rfl)) dL_rules_132 ⟨Nat.le_of_ble_eq_true rfl, Nat.le_of_ble_eq_true rfl⟩) hD hS hA (rv14v) (wE_z rv14b rv14o rv14t tE.rf aE.rf aE.rf lE.rf rv14f) (fun H locs hP hD hS => ?_)
  refine lv_iload_n hx hb dL_rules_135 rfl (lv_at hl 0 rfl) ?_
  refine lv_iconst (v := 3) hx hb dL_rules_136 (by decide) ?_
  refine lv_icmp_ne (tgt := 145) hx hb dL_rules_137 (by decide) (fun _ => ?_) (fun c9 => absurd c9 (by decide))
  refine lv_iconst (v := 0) hx hb dL_rules_145 (by decide) ?_
  refine lv_icmp_eq (tgt := 151) hx hb dL_rules_146 (by decide) (fun _ => ?_) (fun c9 => absurd (by decide) c9)
  refine lv_iinc (v := 1) (lv' := [(1, .int 1), (0, .ref (ad 0))]) hx hb dL_rules_151 hl (k := 0) rfl (by decide) (by decide) rfl (fun ls hl => ?_)
  refine lv_goto (tgt := 94) hx hb dL_rules_154 (by decide) ?_
  refine lv_iload_n hx hb dL_rules_94 rfl (lv_at hl 0 rfl) ?_
  refine lv_iconst (v := 4) hx hb dL_rules_95 (by decide) ?_
  refine lv_icmp_ge (tgt := 157) hx hb dL_rules_96 (by decide) (fun c9 => absurd c9 (by decide)) (fun _ => ?_)
  refine lv_aload_n hx hb dL_rules_99 rfl (lv_at hl 1 rfl) ?_
  refine lv_iconst (v := 1) hx hb dL_rules_100 (by decide) ?_
  refine lv_iconst (v := 0) hx hb dL_rules_101 (by decide) ?_
  refine lv_iload_n hx hb dL_rules_102 rfl (lv_at hl 0 rfl) ?_
  refine lv_bipush (v := 20) hx hb dL_rules_103 (by decide) ?_
  refine lv_iload_n hx hb dL_rules_105 rfl (lv_at hl 0 rfl) ?_
  refine lv_iadd hx hb dL_rules_106 ?_
  refine W.eq (g2 := F0 m 107 ls (.int 21 :: [.int 1, .int 0, .int 1, .ref (ad 0)])) (congrArg (fun z => F0 m 107 ls (.int z :: [.int 1, .int 0, .int 1, .ref (ad 0)])) (show 20 + 1 = 21 by decide)) ?_
  refine mo_i (va_runV (As := [.int 1, .int 0, .int 1, .int 21]) (rest := []) ⟨hx, hb, hml, hown, hts⟩ (k_X2_set l D cyI cyZ ad rT10 rT11 rT12 t00 rU7 (fun _ => 0) l00 0 1 0 1 21 _ _ rfl rv15x) (cwV 4 hts gL_rules_X2_set rfl rfl rfl (by decide +kernel) ⟨Nat.le_of_ble_eq_true rfl, Nat.le_of_ble_eq_true rfl⟩) (pmV hG hP hD (ci := 2) rfl rfl rfl) rfl rfl hl.1 rfl (lv_room (Nat.le_of_ble_eq_true rfl)) dL_rules_107 ⟨Nat.le_of_ble_eq_true rfl, Nat.le_of_ble_eq_true rfl⟩) hD hS hA (rv15v) (wE_z rv15b rv15o rv15t tE.rf aE.rf aE.rf lE.rf rv15f) (fun H locs hP hD hS => ?_)
  refine lv_iload_n hx hb dL_rules_110 rfl (lv_at hl 0 rfl) ?_
  refine lv_iconst (v := 3) hx hb dL_rules_111 (by decide) ?_
  refine lv_icmp_ne (tgt := 120) hx hb dL_rules_112 (by decide) (fun _ => ?_) (fun c9 => absurd c9 (by decide))
  refine lv_iconst (v := 0) hx hb dL_rules_120 (by decide) ?_
  refine lv_icmp_ne (tgt := 149) hx hb dL_rules_121 (by decide) (fun c9 => absurd (by decide) c9) (fun _ => ?_)
  refine lv_aload_n hx hb dL_rules_124 rfl (lv_at hl 1 rfl) ?_
  refine lv_iconst (v := 2) hx hb dL_rules_125 (by decide) ?_
  refine lv_iconst (v := 0) hx hb dL_rules_126 (by decide) ?_
  refine lv_iload_n hx hb dL_rules_127 rfl (lv_at hl 0 rfl) ?_
  refine lv_bipush (v := 24) hx hb dL_rules_128 (by decide) ?_
  refine lv_iload_n hx hb dL_rules_130 rfl (lv_at hl 0 rfl) ?_
  refine lv_isub hx hb dL_rules_131 ?_
  refine W.eq (g2 := F0 m 132 ls (.int 23 :: [.int 1, .int 0, .int 2, .ref (ad 0)])) (congrArg (fun z => F0 m 132 ls (.int z :: [.int 1, .int 0, .int 2, .ref (ad 0)])) (show 24 - 1 = 23 by decide)) ?_
  refine mo_i (va_runV (As := [.int 2, .int 0, .int 1, .int 23]) (rest := []) ⟨hx, hb, hml, hown, hts⟩ (k_X2_set l D cyI cyZ ad rT10 rT13 rT12 t00 rU7 (fun _ => 0) l00 0 2 0 1 23 _ _ rfl rv16x) (cwV 4 hts gL_rules_X2_set rfl rfl rfl (by decide +kernel) ⟨Nat.le_of_ble_eq_true rfl, Nat.le_of_ble_eq_true rfl⟩) (pmV hG hP hD (ci := 2) rfl rfl rfl) rfl rfl hl.1 rfl (lv_room (Nat.le_of_ble_eq_true rfl)) dL_rules_132 ⟨Nat.le_of_ble_eq_true rfl, Nat.le_of_ble_eq_true rfl⟩) hD hS hA (rv16v) (wE_z rv16b rv16o rv16t tE.rf aE.rf aE.rf lE.rf rv16f) (fun H locs hP hD hS => ?_)
  refine lv_iload_n hx hb dL_rules_135 rfl (lv_at hl 0 rfl) ?_
  refine lv_iconst (v := 3) hx hb dL_rules_136 (by decide) ?_
  refine lv_icmp_ne (tgt := 145) hx hb dL_rules_137 (by decide) (fun _ => ?_) (fun c9 => absurd c9 (by decide))
  refine lv_iconst (v := 0) hx hb dL_rules_145 (by decide) ?_
  refine lv_icmp_eq (tgt := 151) hx hb dL_rules_146 (by decide) (fun _ => ?_) (fun c9 => absurd (by decide) c9)
  refine lv_iinc (v := 2) (lv' := [(1, .int 2), (0, .ref (ad 0))]) hx hb dL_rules_151 hl (k := 0) rfl (by decide) (by decide) rfl (fun ls hl => ?_)
  refine lv_goto (tgt := 94) hx hb dL_rules_154 (by decide) ?_
  refine lv_iload_n hx hb dL_rules_94 rfl (lv_at hl 0 rfl) ?_
  refine lv_iconst (v := 4) hx hb dL_rules_95 (by decide) ?_
  refine lv_icmp_ge (tgt := 157) hx hb dL_rules_96 (by decide) (fun c9 => absurd c9 (by decide)) (fun _ => ?_)
  refine lv_aload_n hx hb dL_rules_99 rfl (lv_at hl 1 rfl) ?_
  refine lv_iconst (v := 1) hx hb dL_rules_100 (by decide) ?_
  refine lv_iconst (v := 0) hx hb dL_rules_101 (by decide) ?_
  refine lv_iload_n hx hb dL_rules_102 rfl (lv_at hl 0 rfl) ?_
  refine lv_bipush (v := 20) hx hb dL_rules_103 (by decide) ?_
  refine lv_iload_n hx hb dL_rules_105 rfl (lv_at hl 0 rfl) ?_
  refine lv_iadd hx hb dL_rules_106 ?_
  refine W.eq (g2 := F0 m 107 ls (.int 22 :: [.int 2, .int 0, .int 1, .ref (ad 0)])) (congrArg (fun z => F0 m 107 ls (.int z :: [.int 2, .int 0, .int 1, .ref (ad 0)])) (show 20 + 2 = 22 by decide)) ?_
  refine mo_i (va_runV (As := [.int 1, .int 0, .int 2, .int 22]) (rest := []) ⟨hx, hb, hml, hown, hts⟩ (k_X2_set l D cyI cyZ ad rT10 rT13 rT14 t00 rU7 (fun _ => 0) l00 0 1 0 2 22 _ _ rfl rv17x) (cwV 4 hts gL_rules_X2_set rfl rfl rfl (by decide +kernel) ⟨Nat.le_of_ble_eq_true rfl, Nat.le_of_ble_eq_true rfl⟩) (pmV hG hP hD (ci := 2) rfl rfl rfl) rfl rfl hl.1 rfl (lv_room (Nat.le_of_ble_eq_true rfl)) dL_rules_107 ⟨Nat.le_of_ble_eq_true rfl, Nat.le_of_ble_eq_true rfl⟩) hD hS hA (rv17v) (wE_z rv17b rv17o rv17t tE.rf aE.rf aE.rf lE.rf rv17f) (fun H locs hP hD hS => ?_)
  refine lv_iload_n hx hb dL_rules_110 rfl (lv_at hl 0 rfl) ?_
  refine lv_iconst (v := 3) hx hb dL_rules_111 (by decide) ?_
  refine lv_icmp_ne (tgt := 120) hx hb dL_rules_112 (by decide) (fun _ => ?_) (fun c9 => absurd c9 (by decide))
  refine lv_iconst (v := 0) hx hb dL_rules_120 (by decide) ?_
  refine lv_icmp_ne (tgt := 149) hx hb dL_rules_121 (by decide) (fun c9 => absurd (by decide) c9) (fun _ => ?_)
  refine lv_aload_n hx hb dL_rules_124 rfl (lv_at hl 1 rfl) ?_
  refine lv_iconst (v := 2) hx hb dL_rules_125 (by decide) ?_
  refine lv_iconst (v := 0) hx hb dL_rules_126 (by decide) ?_
  refine lv_iload_n hx hb dL_rules_127 rfl (lv_at hl 0 rfl) ?_
  refine lv_bipush (v := 24) hx hb dL_rules_128 (by decide) ?_
  refine lv_iload_n hx hb dL_rules_130 rfl (lv_at hl 0 rfl) ?_
  refine lv_isub hx hb dL_rules_131 ?_
  refine W.eq (g2 := F0 m 132 ls (.int 22 :: [.int 2, .int 0, .int 2, .ref (ad 0)])) (congrArg (fun z => F0 m 132 ls (.int z :: [.int 2, .int 0, .int 2, .ref (ad 0)])) (show 24 - 2 = 22 by decide)) ?_
  refine mo_i (va_runV (As := [.int 2, .int 0, .int 2, .int 22]) (rest := []) ⟨hx, hb, hml, hown, hts⟩ (k_X2_set l D cyI cyZ ad rT10 rT15 rT14 t00 rU7 (fun _ => 0) l00 0 2 0 2 22 _ _ rfl rv18x) (cwV 4 hts gL_rules_X2_set rfl rfl rfl (by decide +kernel) ⟨Nat.le_of_ble_eq_true rfl, Nat.le_of_ble_eq_true rfl⟩) (pmV hG hP hD (ci := 2) rfl rfl rfl) rfl rfl hl.1 rfl (lv_room (Nat.le_of_ble_eq_true rfl)) dL_rules_132 ⟨Nat.le_of_ble_eq_true rfl, Nat.le_of_ble_eq_true rfl⟩) hD hS hA (rv18v) (wE_z rv18b rv18o rv18t tE.rf aE.rf aE.rf lE.rf rv18f) (fun H locs hP hD hS => ?_)
  refine lv_iload_n hx hb dL_rules_135 rfl (lv_at hl 0 rfl) ?_
  refine lv_iconst (v := 3) hx hb dL_rules_136 (by decide) ?_
  refine lv_icmp_ne (tgt := 145) hx hb dL_rules_137 (by decide) (fun _ => ?_) (fun c9 => absurd c9 (by decide))
  refine lv_iconst (v := 0) hx hb dL_rules_145 (by decide) ?_
  refine lv_icmp_eq (tgt := 151) hx hb dL_rules_146 (by decide) (fun _ => ?_) (fun c9 => absurd (by decide) c9)
  exact KK H locs ls hP hD hS hl
set_option maxHeartbeats 8000000 in
set_option maxRecDepth 100000 in
theorem rules_3 {p : Program} {l : Launch} {e : Env} {s : State} {m : MethodId} {args : Array Value} {below : List Frame} {meth : Method} {c : Code} {Q : State → Prop} (hlt : l.stackTraces = false) {D : va_G} {cyI cyZ : ClassId} {ad : Nat → Nat} {A : Nat → Prop} (hx : p.tables.exec = Jvm.exec) (hb : c.code = cL_rules) (hml : c.maxLocals = 2) (hown : s.vm.findClass RL = some m.cls) (hts : ∀ w ∈ wsL_rules, w.before args s = true) (hG : gP D cyI cyZ s) (hz : zqA A s s.heap) (hn : zn s) (hA : ∀ q : Nat, s.heap.size ≤ q → A q)
    (KK : ∀ (H : Heap) (locs : List Loc) (ls : Array Slot), va_P D vwCl (wZ cyI cyZ ad rT10 rT17 rT21 rT19 rU7 (fun _ => 0) rL20 0) H → va_D A (wZ cyI cyZ ad rT10 rT17 rT21 rT19 rU7 (fun _ => 0) rL20 0) → va_S A s.heap H locs → lv_has ls 2 [(1, .int 4), (0, .ref (ad 0))] → W p l e (headSpec wsL_rules ({ frames := 11, cells := 740, slots := 6862, locals := 231 } : Room)).room s m args below meth c H locs 20 2542 Q (F0 m 238 ls [])) : ∀ (H : Heap) (locs : List Loc) (ls : Array Slot), va_P D vwCl (wZ cyI cyZ ad rT10 rT15 rT16 t00 rU7 (fun _ => 0) l00 0) H → va_D A (wZ cyI cyZ ad rT10 rT15 rT16 t00 rU7 (fun _ => 0) l00 0) → va_S A s.heap H locs → lv_has ls 2 [(1, .int 2), (0, .ref (ad 0))] → W p l e (headSpec wsL_rules ({ frames := 11, cells := 740, slots := 6862, locals := 231 } : Room)).room s m args below meth c H locs 20 2542 Q (F0 m 151 ls []) := by
  intro H locs ls hP hD hS hl
  refine lv_iinc (v := 3) (lv' := [(1, .int 3), (0, .ref (ad 0))]) hx hb dL_rules_151 hl (k := 0) rfl (by decide) (by decide) rfl (fun ls hl => ?_)
  refine lv_goto (tgt := 94) hx hb dL_rules_154 (by decide) ?_
  refine lv_iload_n hx hb dL_rules_94 rfl (lv_at hl 0 rfl) ?_
  refine lv_iconst (v := 4) hx hb dL_rules_95 (by decide) ?_
  refine lv_icmp_ge (tgt := 157) hx hb dL_rules_96 (by decide) (fun c9 => absurd c9 (by decide)) (fun _ => ?_)
  refine lv_aload_n hx hb dL_rules_99 rfl (lv_at hl 1 rfl) ?_
  refine lv_iconst (v := 1) hx hb dL_rules_100 (by decide) ?_
  refine lv_iconst (v := 0) hx hb dL_rules_101 (by decide) ?_
  refine lv_iload_n hx hb dL_rules_102 rfl (lv_at hl 0 rfl) ?_
  refine lv_bipush (v := 20) hx hb dL_rules_103 (by decide) ?_
  refine lv_iload_n hx hb dL_rules_105 rfl (lv_at hl 0 rfl) ?_
  refine lv_iadd hx hb dL_rules_106 ?_
  refine W.eq (g2 := F0 m 107 ls (.int 23 :: [.int 3, .int 0, .int 1, .ref (ad 0)])) (congrArg (fun z => F0 m 107 ls (.int z :: [.int 3, .int 0, .int 1, .ref (ad 0)])) (show 20 + 3 = 23 by decide)) ?_
  refine mo_i (va_runV (As := [.int 1, .int 0, .int 3, .int 23]) (rest := []) ⟨hx, hb, hml, hown, hts⟩ (k_X2_set l D cyI cyZ ad rT10 rT15 rT16 t00 rU7 (fun _ => 0) l00 0 1 0 3 23 _ _ rfl rv19x) (cwV 4 hts gL_rules_X2_set rfl rfl rfl (by decide +kernel) ⟨Nat.le_of_ble_eq_true rfl, Nat.le_of_ble_eq_true rfl⟩) (pmV hG hP hD (ci := 2) rfl rfl rfl) rfl rfl hl.1 rfl (lv_room (Nat.le_of_ble_eq_true rfl)) dL_rules_107 ⟨Nat.le_of_ble_eq_true rfl, Nat.le_of_ble_eq_true rfl⟩) hD hS hA (rv19v) (wE_z rv19b rv19o rv19t tE.rf aE.rf aE.rf lE.rf rv19f) (fun H locs hP hD hS => ?_)
  refine lv_iload_n hx hb dL_rules_110 rfl (lv_at hl 0 rfl) ?_
  refine lv_iconst (v := 3) hx hb dL_rules_111 (by decide) ?_
  refine lv_icmp_ne (tgt := 120) hx hb dL_rules_112 (by decide) (fun c9 => absurd (by decide) c9) (fun _ => ?_)
  refine lv_bipush (v := 10) hx hb dL_rules_115 (by decide) ?_
  refine lv_goto (tgt := 121) hx hb dL_rules_117 (by decide) ?_
  refine lv_icmp_ne (tgt := 149) hx hb dL_rules_121 (by decide) (fun c9 => absurd (by decide) c9) (fun _ => ?_)
  refine lv_aload_n hx hb dL_rules_124 rfl (lv_at hl 1 rfl) ?_
  refine lv_iconst (v := 2) hx hb dL_rules_125 (by decide) ?_
  refine lv_iconst (v := 0) hx hb dL_rules_126 (by decide) ?_
  refine lv_iload_n hx hb dL_rules_127 rfl (lv_at hl 0 rfl) ?_
  refine lv_bipush (v := 24) hx hb dL_rules_128 (by decide) ?_
  refine lv_iload_n hx hb dL_rules_130 rfl (lv_at hl 0 rfl) ?_
  refine lv_isub hx hb dL_rules_131 ?_
  refine W.eq (g2 := F0 m 132 ls (.int 21 :: [.int 3, .int 0, .int 2, .ref (ad 0)])) (congrArg (fun z => F0 m 132 ls (.int z :: [.int 3, .int 0, .int 2, .ref (ad 0)])) (show 24 - 3 = 21 by decide)) ?_
  refine mo_i (va_runV (As := [.int 2, .int 0, .int 3, .int 21]) (rest := []) ⟨hx, hb, hml, hown, hts⟩ (k_X2_set l D cyI cyZ ad rT10 rT17 rT16 t00 rU7 (fun _ => 0) l00 0 2 0 3 21 _ _ rfl rv20x) (cwV 4 hts gL_rules_X2_set rfl rfl rfl (by decide +kernel) ⟨Nat.le_of_ble_eq_true rfl, Nat.le_of_ble_eq_true rfl⟩) (pmV hG hP hD (ci := 2) rfl rfl rfl) rfl rfl hl.1 rfl (lv_room (Nat.le_of_ble_eq_true rfl)) dL_rules_132 ⟨Nat.le_of_ble_eq_true rfl, Nat.le_of_ble_eq_true rfl⟩) hD hS hA (rv20v) (wE_z rv20b rv20o rv20t tE.rf aE.rf aE.rf lE.rf rv20f) (fun H locs hP hD hS => ?_)
  refine lv_iload_n hx hb dL_rules_135 rfl (lv_at hl 0 rfl) ?_
  refine lv_iconst (v := 3) hx hb dL_rules_136 (by decide) ?_
  refine lv_icmp_ne (tgt := 145) hx hb dL_rules_137 (by decide) (fun c9 => absurd (by decide) c9) (fun _ => ?_)
  refine lv_bipush (v := 10) hx hb dL_rules_140 (by decide) ?_
  refine lv_goto (tgt := 146) hx hb dL_rules_142 (by decide) ?_
  refine lv_icmp_eq (tgt := 151) hx hb dL_rules_146 (by decide) (fun _ => ?_) (fun c9 => absurd (by decide) c9)
  refine lv_iinc (v := 4) (lv' := [(1, .int 4), (0, .ref (ad 0))]) hx hb dL_rules_151 hl (k := 0) rfl (by decide) (by decide) rfl (fun ls hl => ?_)
  refine lv_goto (tgt := 94) hx hb dL_rules_154 (by decide) ?_
  refine lv_iload_n hx hb dL_rules_94 rfl (lv_at hl 0 rfl) ?_
  refine lv_iconst (v := 4) hx hb dL_rules_95 (by decide) ?_
  refine lv_icmp_ge (tgt := 157) hx hb dL_rules_96 (by decide) (fun _ => ?_) (fun c9 => absurd (by decide) c9)
  refine lv_aload_n hx hb dL_rules_157 rfl (lv_at hl 1 rfl) ?_
  refine mo_i (va_runV (As := []) (rest := []) ⟨hx, hb, hml, hown, hts⟩ (k_X2_merge l D cyI cyZ ad rT10 rT17 rT18 t00 rU7 (fun _ => 0) l00 0 _ _ rfl) (cwV 0 hts gL_rules_X2_merge rfl rfl rfl (by decide +kernel) ⟨Nat.le_of_ble_eq_true rfl, Nat.le_of_ble_eq_true rfl⟩) (pmV hG hP hD (ci := 2) rfl rfl rfl) rfl rfl hl.1 rfl (lv_room (Nat.le_of_ble_eq_true rfl)) dL_rules_158 ⟨Nat.le_of_ble_eq_true rfl, Nat.le_of_ble_eq_true rfl⟩) hD hS hA (rv21v) (wE_z tE.rf tE.rf tE.rf rv21q.2.1 aE.rf aE.rf rv21l rv21q.2.2.2) (fun H locs hP hD hS => ?_)
  refine lv_iconst (v := 1) hx hb dL_rules_161 (by decide) ?_
  refine lv_icmp_ne (tgt := 286) hx hb dL_rules_162 (by decide) (fun c9 => absurd (by decide) c9) (fun _ => ?_)
  refine lv_aload_n hx hb dL_rules_165 rfl (lv_at hl 1 rfl) ?_
  refine lv_iconst (v := 0) hx hb dL_rules_166 (by decide) ?_
  refine lv_iconst (v := 1) hx hb dL_rules_167 (by decide) ?_
  refine lv_iconst (v := 0) hx hb dL_rules_168 (by decide) ?_
  refine lv_iconst (v := 0) hx hb dL_rules_169 (by decide) ?_
  refine po_i (va_runS (As := [.ref (ad 0), .int 0, .int 1, .int 0, .int 0]) (rest := []) ⟨hx, hb, hml, hown, hts⟩ (k_L_is l D cyI cyZ ad rT10 rT17 rT18 rT19 rU7 (fun _ => 0) rL20 1 0 1 0 0 rv22x rv22k rv22y rv22c) (va_cwS 5 hts gL_rules_L_is rfl rfl rfl (by decide +kernel) ⟨Nat.le_of_ble_eq_true rfl, Nat.le_of_ble_eq_true rfl⟩) (prS hG hP) rfl rfl hl.1 rfl (lv_room (Nat.le_of_ble_eq_true rfl)) dL_rules_170 ⟨Nat.le_of_ble_eq_true rfl, Nat.le_of_ble_eq_true rfl⟩) hS hP rfl (fun H locs hP hS => ?_)
  refine lv_if_eq (tgt := 286) hx hb dL_rules_173 (by decide) (fun c9 => absurd c9 (by decide)) (fun _ => ?_)
  refine lv_aload_n hx hb dL_rules_176 rfl (lv_at hl 1 rfl) ?_
  refine lv_iconst (v := 3) hx hb dL_rules_177 (by decide) ?_
  refine lv_iconst (v := 0) hx hb dL_rules_178 (by decide) ?_
  refine lv_iconst (v := 0) hx hb dL_rules_179 (by decide) ?_
  refine po_i (va_runV (As := [.int 3, .int 0, .int 0]) (rest := []) ⟨hx, hb, hml, hown, hts⟩ (k_X2_get l D cyI cyZ ad rT10 rT17 rT18 rT19 rU7 (fun _ => 0) rL20 1 3 0 0 rv23x) (cwV 3 hts gL_rules_X2_get rfl rfl rfl (by decide +kernel) ⟨Nat.le_of_ble_eq_true rfl, Nat.le_of_ble_eq_true rfl⟩) (prV hG hP (ci := 2) rfl rfl rfl) rfl rfl hl.1 rfl (lv_room (Nat.le_of_ble_eq_true rfl)) dL_rules_180 ⟨Nat.le_of_ble_eq_true rfl, Nat.le_of_ble_eq_true rfl⟩) hS hP (rv23v) (fun H locs hP hS => ?_)
  refine lv_bipush (v := 20) hx hb dL_rules_183 (by decide) ?_
  refine lv_icmp_ne (tgt := 286) hx hb dL_rules_185 (by decide) (fun c9 => absurd (by decide) c9) (fun _ => ?_)
  refine lv_aload_n hx hb dL_rules_188 rfl (lv_at hl 1 rfl) ?_
  refine lv_iconst (v := 3) hx hb dL_rules_189 (by decide) ?_
  refine lv_iconst (v := 0) hx hb dL_rules_190 (by decide) ?_
  refine lv_iconst (v := 1) hx hb dL_rules_191 (by decide) ?_
  refine po_i (va_runV (As := [.int 3, .int 0, .int 1]) (rest := []) ⟨hx, hb, hml, hown, hts⟩ (k_X2_get l D cyI cyZ ad rT10 rT17 rT18 rT19 rU7 (fun _ => 0) rL20 1 3 0 1 rv24x) (cwV 3 hts gL_rules_X2_get rfl rfl rfl (by decide +kernel) ⟨Nat.le_of_ble_eq_true rfl, Nat.le_of_ble_eq_true rfl⟩) (prV hG hP (ci := 2) rfl rfl rfl) rfl rfl hl.1 rfl (lv_room (Nat.le_of_ble_eq_true rfl)) dL_rules_192 ⟨Nat.le_of_ble_eq_true rfl, Nat.le_of_ble_eq_true rfl⟩) hS hP (rv24v) (fun H locs hP hS => ?_)
  refine lv_bipush (v := 21) hx hb dL_rules_195 (by decide) ?_
  refine lv_icmp_ne (tgt := 286) hx hb dL_rules_197 (by decide) (fun c9 => absurd (by decide) c9) (fun _ => ?_)
  refine lv_aload_n hx hb dL_rules_200 rfl (lv_at hl 1 rfl) ?_
  refine lv_iconst (v := 3) hx hb dL_rules_201 (by decide) ?_
  refine lv_iconst (v := 0) hx hb dL_rules_202 (by decide) ?_
  refine lv_iconst (v := 2) hx hb dL_rules_203 (by decide) ?_
  refine po_i (va_runV (As := [.int 3, .int 0, .int 2]) (rest := []) ⟨hx, hb, hml, hown, hts⟩ (k_X2_get l D cyI cyZ ad rT10 rT17 rT18 rT19 rU7 (fun _ => 0) rL20 1 3 0 2 rv25x) (cwV 3 hts gL_rules_X2_get rfl rfl rfl (by decide +kernel) ⟨Nat.le_of_ble_eq_true rfl, Nat.le_of_ble_eq_true rfl⟩) (prV hG hP (ci := 2) rfl rfl rfl) rfl rfl hl.1 rfl (lv_room (Nat.le_of_ble_eq_true rfl)) dL_rules_204 ⟨Nat.le_of_ble_eq_true rfl, Nat.le_of_ble_eq_true rfl⟩) hS hP (rv25v) (fun H locs hP hS => ?_)
  refine lv_bipush (v := 22) hx hb dL_rules_207 (by decide) ?_
  refine lv_icmp_ne (tgt := 286) hx hb dL_rules_209 (by decide) (fun c9 => absurd (by decide) c9) (fun _ => ?_)
  refine lv_aload_n hx hb dL_rules_212 rfl (lv_at hl 1 rfl) ?_
  refine lv_iconst (v := 3) hx hb dL_rules_213 (by decide) ?_
  refine lv_iconst (v := 0) hx hb dL_rules_214 (by decide) ?_
  refine lv_iconst (v := 3) hx hb dL_rules_215 (by decide) ?_
  refine po_i (va_runV (As := [.int 3, .int 0, .int 3]) (rest := []) ⟨hx, hb, hml, hown, hts⟩ (k_X2_get l D cyI cyZ ad rT10 rT17 rT18 rT19 rU7 (fun _ => 0) rL20 1 3 0 3 rv26x) (cwV 3 hts gL_rules_X2_get rfl rfl rfl (by decide +kernel) ⟨Nat.le_of_ble_eq_true rfl, Nat.le_of_ble_eq_true rfl⟩) (prV hG hP (ci := 2) rfl rfl rfl) rfl rfl hl.1 rfl (lv_room (Nat.le_of_ble_eq_true rfl)) dL_rules_216 ⟨Nat.le_of_ble_eq_true rfl, Nat.le_of_ble_eq_true rfl⟩) hS hP (rv26v) (fun H locs hP hS => ?_)
  refine lv_bipush (v := 34) hx hb dL_rules_219 (by decide) ?_
  refine lv_icmp_ne (tgt := 286) hx hb dL_rules_221 (by decide) (fun c9 => absurd (by decide) c9) (fun _ => ?_)
  refine lv_aload_n hx hb dL_rules_224 rfl (lv_at hl 1 rfl) ?_
  refine lv_iconst (v := 2) hx hb dL_rules_225 (by decide) ?_
  refine lv_iconst (v := 0) hx hb dL_rules_226 (by decide) ?_
  refine lv_iconst (v := 2) hx hb dL_rules_227 (by decide) ?_
  refine lv_bipush (v := 40) hx hb dL_rules_228 (by decide) ?_
  refine mo_i (va_runV (As := [.int 2, .int 0, .int 2, .int 40]) (rest := []) ⟨hx, hb, hml, hown, hts⟩ (k_X2_set l D cyI cyZ ad rT10 rT17 rT18 rT19 rU7 (fun _ => 0) rL20 1 2 0 2 40 _ _ rfl rv27x) (cwV 4 hts gL_rules_X2_set rfl rfl rfl (by decide +kernel) ⟨Nat.le_of_ble_eq_true rfl, Nat.le_of_ble_eq_true rfl⟩) (pmV hG hP hD (ci := 2) rfl rfl rfl) rfl rfl hl.1 rfl (lv_room (Nat.le_of_ble_eq_true rfl)) dL_rules_230 ⟨Nat.le_of_ble_eq_true rfl, Nat.le_of_ble_eq_true rfl⟩) hD hS hA (rv27v) (wE_z rv27b rv27o rv27t tE.rf aE.rf aE.rf lE.rf rv27f) (fun H locs hP hD hS => ?_)
  refine lv_bipush (v := 22) hx hb dL_rules_233 (by decide) ?_
  refine lv_icmp_ne (tgt := 286) hx hb dL_rules_235 (by decide) (fun c9 => absurd (by decide) c9) (fun _ => ?_)
  exact KK H locs ls hP hD hS hl
