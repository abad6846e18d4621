set_option maxHeartbeats 8000000 in
set_option maxRecDepth 100000 in
theorem odds_1 {p : Program} {l : Launch} {e : Env} {s : State} {m : MethodId} {args : Array Value} {below : List Frame} {meth : Method} {c : Code} {Q : State → Prop} (hlt : l.stackTraces = false) {D : va_G} {cyI cyZ : ClassId} {ad : Nat → Nat} {A : Nat → Prop} (hx : p.tables.exec = Jvm.exec) (hb : c.code = cL_odds) (hml : c.maxLocals = 1) (hown : s.vm.findClass RL = some m.cls) (hts : ∀ w ∈ wsL_odds, w.before args s = true) (hG : gP D cyI cyZ s) (hz : zqA A s s.heap) (hn : zn s) (hA : ∀ q : Nat, s.heap.size ≤ q → A q)
    (KK : ∀ (H : Heap) (locs : List Loc) (ls : Array Slot), va_P D vwCl (wZ cyI cyZ ad oT4 t00 t00 t00 (fun _ => 0) (fun _ => 0) l00 0) H → va_D A (wZ cyI cyZ ad oT4 t00 t00 t00 (fun _ => 0) (fun _ => 0) l00 0) → va_S A s.heap H locs → lv_has ls 1 [(0, .ref (ad 0))] → W p l e (headSpec wsL_odds ({ frames := 11, cells := 843, slots := 7480, locals := 231 } : Room)).room s m args below meth c H locs 21 2548 Q (F0 m 100 ls [])) : ∀ (H : Heap) (locs : List Loc) (ls : Array Slot), va_P D vwCl (wZ cyI cyZ ad t00 t00 t00 t00 (fun _ => 0) (fun _ => 0) l00 0) H → va_D A (wZ cyI cyZ ad t00 t00 t00 t00 (fun _ => 0) (fun _ => 0) l00 0) → va_S A s.heap H locs → lv_has ls 1 [(0, .ref (ad 0))] → W p l e (headSpec wsL_odds ({ frames := 11, cells := 843, slots := 7480, locals := 231 } : Room)).room s m args below meth c H locs 20 2542 Q (F0 m 8 ls []) := by
  intro H locs ls hP hD hS hl
  refine lv_aload_n hx hb dL_odds_8 rfl (lv_at hl 0 rfl) ?_
  refine lv_iconst (v := 0) hx hb dL_odds_9 (by decide) ?_
  refine po_i (va_runV (As := [.int 0]) (rest := []) ⟨hx, hb, hml, hown, hts⟩ (k_X2_columns l D cyI cyZ ad t00 t00 t00 t00 (fun _ => 0) (fun _ => 0) l00 0 0 ov1x) (cwV 1 hts gL_odds_X2_columns rfl rfl rfl (by decide +kernel) ⟨Nat.le_of_ble_eq_true rfl, Nat.le_of_ble_eq_true rfl⟩) (prV hG hP (ci := 2) rfl rfl rfl) rfl rfl hl.1 rfl (lv_room (Nat.le_of_ble_eq_true rfl)) dL_odds_10 ⟨Nat.le_of_ble_eq_true rfl, Nat.le_of_ble_eq_true rfl⟩) hS hP (ov1v) (fun H locs hP hS => ?_)
  refine lv_if_ne (tgt := 275) hx hb dL_odds_13 (by decide) (fun c9 => absurd (by decide) c9) (fun _ => ?_)
  refine lv_aload_n hx hb dL_odds_16 rfl (lv_at hl 0 rfl) ?_
  refine lv_iconst (v := 3) hx hb dL_odds_17 (by decide) ?_
  refine po_i (va_runV (As := [.int 3]) (rest := []) ⟨hx, hb, hml, hown, hts⟩ (k_X2_rows l D cyI cyZ ad t00 t00 t00 t00 (fun _ => 0) (fun _ => 0) l00 0 3 ov2x) (cwV 1 hts gL_odds_X2_rows rfl rfl rfl (by decide +kernel) ⟨Nat.le_of_ble_eq_true rfl, Nat.le_of_ble_eq_true rfl⟩) (prV hG hP (ci := 2) rfl rfl rfl) rfl rfl hl.1 rfl (lv_room (Nat.le_of_ble_eq_true rfl)) dL_odds_18 ⟨Nat.le_of_ble_eq_true rfl, Nat.le_of_ble_eq_true rfl⟩) hS hP (ov2v) (fun H locs hP hS => ?_)
  refine lv_if_ne (tgt := 275) hx hb dL_odds_21 (by decide) (fun c9 => absurd (by decide) c9) (fun _ => ?_)
  refine lv_aload_n hx hb dL_odds_24 rfl (lv_at hl 0 rfl) ?_
  refine po_i (va_runV (As := []) (rest := []) ⟨hx, hb, hml, hown, hts⟩ (k_X2_conflicts l D cyI cyZ ad t00 t00 t00 t00 (fun _ => 0) (fun _ => 0) l00 0) (cwV 0 hts gL_odds_X2_conflicts rfl rfl rfl (by decide +kernel) ⟨Nat.le_of_ble_eq_true rfl, Nat.le_of_ble_eq_true rfl⟩) (prV hG hP (ci := 2) rfl rfl rfl) rfl rfl hl.1 rfl (lv_room (Nat.le_of_ble_eq_true rfl)) dL_odds_25 ⟨Nat.le_of_ble_eq_true rfl, Nat.le_of_ble_eq_true rfl⟩) hS hP (ov3v) (fun H locs hP hS => ?_)
  refine lv_if_ne (tgt := 275) hx hb dL_odds_28 (by decide) (fun c9 => absurd (by decide) c9) (fun _ => ?_)
  refine lv_aload_n hx hb dL_odds_31 rfl (lv_at hl 0 rfl) ?_
  refine po_i (va_runV (As := []) (rest := []) ⟨hx, hb, hml, hown, hts⟩ (k_X2_open l D cyI cyZ ad t00 t00 t00 t00 (fun _ => 0) (fun _ => 0) l00 0) (cwV 0 hts gL_odds_X2_open rfl rfl rfl (by decide +kernel) ⟨Nat.le_of_ble_eq_true rfl, Nat.le_of_ble_eq_true rfl⟩) (prV hG hP (ci := 2) rfl rfl rfl) rfl rfl hl.1 rfl (lv_room (Nat.le_of_ble_eq_true rfl)) dL_odds_32 ⟨Nat.le_of_ble_eq_true rfl, Nat.le_of_ble_eq_true rfl⟩) hS hP (ov4v) (fun H locs hP hS => ?_)
  refine lv_if_ne (tgt := 275) hx hb dL_odds_35 (by decide) (fun c9 => absurd (by decide) c9) (fun _ => ?_)
  refine lv_aload_n hx hb dL_odds_38 rfl (lv_at hl 0 rfl) ?_
  refine lv_bipush (v := 13) hx hb dL_odds_39 (by decide) ?_
  refine lv_iconst (v := 0) hx hb dL_odds_41 (by decide) ?_
  refine lv_iconst (v := 0) hx hb dL_odds_42 (by decide) ?_
  refine lv_iconst (v := 0) hx hb dL_odds_43 (by decide) ?_
  refine lv_iconst (v := 0) hx hb dL_odds_44 (by decide) ?_
  refine mo_i (vx_runSW (As := [.ref (ad 0), .int 13, .int 0, .int 0, .int 0, .int 0]) (rest := []) ⟨hx, hb, hml, hown, hts⟩ (t_A13_3 l hlt D cyI cyZ ad t00 t00 t00 t00 (fun _ => 0) (fun _ => 0) l00 0 0 0 0 0 _ _ rfl ov5x) (vx_cwSW 6 hts gL_odds_L_act rfl rfl rfl (by decide +kernel) ⟨Nat.le_of_ble_eq_true rfl, Nat.le_of_ble_eq_true rfl⟩) (poS hG hz hn hP hD hS hA) rfl rfl hl.1 rfl (lv_room (Nat.le_of_ble_eq_true rfl)) dL_odds_45 ⟨Nat.le_of_ble_eq_true rfl, Nat.le_of_ble_eq_true rfl⟩) hD hS hA (rfl) (wE.rf) (fun H locs hP hD hS => ?_)
  refine W.widen (k := 21) (n := 2548) (Nat.le_of_ble_eq_true rfl) (Nat.le_of_ble_eq_true rfl) ?_
  refine lv_sipush (v := (-20003)) hx hb dL_odds_48 (by decide) ?_
  refine lv_icmp_ne (tgt := 275) hx hb dL_odds_51 (by decide) (fun c9 => absurd (by decide) c9) (fun _ => ?_)
  refine lv_aload_n hx hb dL_odds_54 rfl (lv_at hl 0 rfl) ?_
  refine lv_iconst (v := 0) hx hb dL_odds_55 (by decide) ?_
  refine lv_iconst (v := 0) hx hb dL_odds_56 (by decide) ?_
  refine lv_bipush (v := 10) hx hb dL_odds_57 (by decide) ?_
  refine mo_i (va_runV (As := [.int 0, .int 0, .int 10]) (rest := []) ⟨hx, hb, hml, hown, hts⟩ (k_X2_addColumn l D cyI cyZ ad t00 t00 t00 t00 (fun _ => 0) (fun _ => 0) l00 0 0 0 10 _ _ rfl ov6x) (cwV 3 hts gL_odds_X2_addColumn rfl rfl rfl (by decide +kernel) ⟨Nat.le_of_ble_eq_true rfl, Nat.le_of_ble_eq_true rfl⟩) (pmV hG hP hD (ci := 2) rfl rfl rfl) rfl rfl hl.1 rfl (lv_room (Nat.le_of_ble_eq_true rfl)) dL_odds_59 ⟨Nat.le_of_ble_eq_true rfl, Nat.le_of_ble_eq_true rfl⟩) hD hS hA (ov6v) (wE_z ov6b ov6o ov6t tE.rf aE.rf aE.rf lE.rf ov6f) (fun H locs hP hD hS => ?_)
  refine lv_iconst (v := 1) hx hb dL_odds_62 (by decide) ?_
  refine lv_icmp_ne (tgt := 275) hx hb dL_odds_63 (by decide) (fun c9 => absurd (by decide) c9) (fun _ => ?_)
  refine lv_aload_n hx hb dL_odds_66 rfl (lv_at hl 0 rfl) ?_
  refine lv_iconst (v := 0) hx hb dL_odds_67 (by decide) ?_
  refine lv_iconst (v := 1) hx hb dL_odds_68 (by decide) ?_
  refine lv_bipush (v := 11) hx hb dL_odds_69 (by decide) ?_
  refine mo_i (va_runV (As := [.int 0, .int 1, .int 11]) (rest := []) ⟨hx, hb, hml, hown, hts⟩ (k_X2_addColumn l D cyI cyZ ad oT1 t00 t00 t00 (fun _ => 0) (fun _ => 0) l00 0 0 1 11 _ _ rfl ov7x) (cwV 3 hts gL_odds_X2_addColumn rfl rfl rfl (by decide +kernel) ⟨Nat.le_of_ble_eq_true rfl, Nat.le_of_ble_eq_true rfl⟩) (pmV hG hP hD (ci := 2) rfl rfl rfl) rfl rfl hl.1 rfl (lv_room (Nat.le_of_ble_eq_true rfl)) dL_odds_71 ⟨Nat.le_of_ble_eq_true rfl, Nat.le_of_ble_eq_true rfl⟩) hD hS hA (ov7v) (wE_z ov7b ov7o ov7t tE.rf aE.rf aE.rf lE.rf ov7f) (fun H locs hP hD hS => ?_)
  refine lv_iconst (v := 2) hx hb dL_odds_74 (by decide) ?_
  refine lv_icmp_ne (tgt := 275) hx hb dL_odds_75 (by decide) (fun c9 => absurd (by decide) c9) (fun _ => ?_)
  refine lv_aload_n hx hb dL_odds_78 rfl (lv_at hl 0 rfl) ?_
  refine lv_iconst (v := 0) hx hb dL_odds_79 (by decide) ?_
  refine lv_iconst (v := 2) hx hb dL_odds_80 (by decide) ?_
  refine lv_bipush (v := 12) hx hb dL_odds_81 (by decide) ?_
  refine mo_i (va_runV (As := [.int 0, .int 2, .int 12]) (rest := []) ⟨hx, hb, hml, hown, hts⟩ (k_X2_addColumn l D cyI cyZ ad oT2 t00 t00 t00 (fun _ => 0) (fun _ => 0) l00 0 0 2 12 _ _ rfl ov8x) (cwV 3 hts gL_odds_X2_addColumn rfl rfl rfl (by decide +kernel) ⟨Nat.le_of_ble_eq_true rfl, Nat.le_of_ble_eq_true rfl⟩) (pmV hG hP hD (ci := 2) rfl rfl rfl) rfl rfl hl.1 rfl (lv_room (Nat.le_of_ble_eq_true rfl)) dL_odds_83 ⟨Nat.le_of_ble_eq_true rfl, Nat.le_of_ble_eq_true rfl⟩) hD hS hA (ov8v) (wE_z ov8b ov8o ov8t tE.rf aE.rf aE.rf lE.rf ov8f) (fun H locs hP hD hS => ?_)
  refine lv_iconst (v := 3) hx hb dL_odds_86 (by decide) ?_
  refine lv_icmp_ne (tgt := 275) hx hb dL_odds_87 (by decide) (fun c9 => absurd (by decide) c9) (fun _ => ?_)
  refine lv_aload_n hx hb dL_odds_90 rfl (lv_at hl 0 rfl) ?_
  refine lv_iconst (v := 0) hx hb dL_odds_91 (by decide) ?_
  refine lv_iconst (v := 5) hx hb dL_odds_92 (by decide) ?_
  refine mo_i (va_runV (As := [.int 0, .int 5]) (rest := []) ⟨hx, hb, hml, hown, hts⟩ (k_X2_addRow l D cyI cyZ ad oT3 t00 t00 t00 (fun _ => 0) (fun _ => 0) l00 0 0 5 _ _ rfl ov9x) (cwV 2 hts gL_odds_X2_addRow rfl rfl rfl (by decide +kernel) ⟨Nat.le_of_ble_eq_true rfl, Nat.le_of_ble_eq_true rfl⟩) (pmV hG hP hD (ci := 2) rfl rfl rfl) rfl rfl hl.1 rfl (lv_room (Nat.le_of_ble_eq_true rfl)) dL_odds_93 ⟨Nat.le_of_ble_eq_true rfl, Nat.le_of_ble_eq_true rfl⟩) hD hS hA (ov9v) (wE_z ov9b ov9o ov9t tE.rf aE.rf aE.rf lE.rf ov9f) (fun H locs hP hD hS => ?_)
  refine lv_iconst (v := 1) hx hb dL_odds_96 (by decide) ?_
  refine lv_icmp_ne (tgt := 275) hx hb dL_odds_97 (by decide) (fun c9 => absurd (by decide) c9) (fun _ => ?_)
  exact KK H locs ls hP hD hS hl
set_option maxHeartbeats 8000000 in
set_option maxRecDepth 100000 in
theorem odds_2 {p : Program} {l : Launch} {e : Env} {s : State} {m : MethodId} {args : Array Value} {below : List Frame} {meth : Method} {c : Code} {Q : State → Prop} (hlt : l.stackTraces = false) {D : va_G} {cyI cyZ : ClassId} {ad : Nat → Nat} {A : Nat → Prop} (hx : p.tables.exec = Jvm.exec) (hb : c.code = cL_odds) (hml : c.maxLocals = 1) (hown : s.vm.findClass RL = some m.cls) (hts : ∀ w ∈ wsL_odds, w.before args s = true) (hG : gP D cyI cyZ s) (hz : zqA A s s.heap) (hn : zn s) (hA : ∀ q : Nat, s.heap.size ≤ q → A q)
    (KK : ∀ (H : Heap) (locs : List Loc) (ls : Array Slot), va_P D vwCl (wZ cyI cyZ ad oT7 oT7 oT7 t00 (fun _ => 0) (fun _ => 0) l00 0) H → va_D A (wZ cyI cyZ ad oT7 oT7 oT7 t00 (fun _ => 0) (fun _ => 0) l00 0) → va_S A s.heap H locs → lv_has ls 1 [(0, .ref (ad 0))] → W p l e (headSpec wsL_odds ({ frames := 11, cells := 843, slots := 7480, locals := 231 } : Room)).room s m args below meth c H locs 21 2548 Q (F0 m 194 ls [])) : ∀ (H : Heap) (locs : List Loc) (ls : Array Slot), va_P D vwCl (wZ cyI cyZ ad oT4 t00 t00 t00 (fun _ => 0) (fun _ => 0) l00 0) H → va_D A (wZ cyI cyZ ad oT4 t00 t00 t00 (fun _ => 0) (fun _ => 0) l00 0) → va_S A s.heap H locs → lv_has ls 1 [(0, .ref (ad 0))] → W p l e (headSpec wsL_odds ({ frames := 11, cells := 843, slots := 7480, locals := 231 } : Room)).room s m args below meth c H locs 21 2548 Q (F0 m 100 ls []) := by
  intro H locs ls hP hD hS hl
  refine lv_aload_n hx hb dL_odds_100 rfl (lv_at hl 0 rfl) ?_
  refine lv_iconst (v := 0) hx hb dL_odds_101 (by decide) ?_
  refine lv_bipush (v := 6) hx hb dL_odds_102 (by decide) ?_
  refine mo_i (va_runV (As := [.int 0, .int 6]) (rest := []) ⟨hx, hb, hml, hown, hts⟩ (k_X2_addRow l D cyI cyZ ad oT4 t00 t00 t00 (fun _ => 0) (fun _ => 0) l00 0 0 6 _ _ rfl ov10x) (cwV 2 hts gL_odds_X2_addRow rfl rfl rfl (by decide +kernel) ⟨Nat.le_of_ble_eq_true rfl, Nat.le_of_ble_eq_true rfl⟩) (pmV hG hP hD (ci := 2) rfl rfl rfl) rfl rfl hl.1 rfl (lv_room (Nat.le_of_ble_eq_true rfl)) dL_odds_104 ⟨Nat.le_of_ble_eq_true rfl, Nat.le_of_ble_eq_true rfl⟩) hD hS hA (ov10v) (wE_z ov10b ov10o ov10t tE.rf aE.rf aE.rf lE.rf ov10f) (fun H locs hP hD hS => ?_)
  refine lv_iconst (v := 2) hx hb dL_odds_107 (by decide) ?_
  refine lv_icmp_ne (tgt := 275) hx hb dL_odds_108 (by decide) (fun c9 => absurd (by decide) c9) (fun _ => ?_)
  refine lv_aload_n hx hb dL_odds_111 rfl (lv_at hl 0 rfl) ?_
  refine lv_iconst (v := 0) hx hb dL_odds_112 (by decide) ?_
  refine lv_iconst (v := 5) hx hb dL_odds_113 (by decide) ?_
  refine lv_iconst (v := 0) hx hb dL_odds_114 (by decide) ?_
  refine lv_bipush (v := 100) hx hb dL_odds_115 (by decide) ?_
  refine mo_i (va_runV (As := [.int 0, .int 5, .int 0, .int 100]) (rest := []) ⟨hx, hb, hml, hown, hts⟩ (k_X2_set l D cyI cyZ ad oT5 t00 t00 t00 (fun _ => 0) (fun _ => 0) l00 0 0 5 0 100 _ _ rfl ov11x) (cwV 4 hts gL_odds_X2_set rfl rfl rfl (by decide +kernel) ⟨Nat.le_of_ble_eq_true rfl, Nat.le_of_ble_eq_true rfl⟩) (pmV hG hP hD (ci := 2) rfl rfl rfl) rfl rfl hl.1 rfl (lv_room (Nat.le_of_ble_eq_true rfl)) dL_odds_117 ⟨Nat.le_of_ble_eq_true rfl, Nat.le_of_ble_eq_true rfl⟩) hD hS hA (ov11v) (wE_z ov11b ov11o ov11t tE.rf aE.rf aE.rf lE.rf ov11f) (fun H locs hP hD hS => ?_)
  refine lv_if_ne (tgt := 275) hx hb dL_odds_120 (by decide) (fun c9 => absurd (by decide) c9) (fun _ => ?_)
  refine lv_aload_n hx hb dL_odds_123 rfl (lv_at hl 0 rfl) ?_
  refine lv_iconst (v := 0) hx hb dL_odds_124 (by decide) ?_
  refine lv_bipush (v := 6) hx hb dL_odds_125 (by decide) ?_
  refine lv_iconst (v := 1) hx hb dL_odds_127 (by decide) ?_
  refine lv_bipush (v := 7) hx hb dL_odds_128 (by decide) ?_
  refine mo_i (va_runV (As := [.int 0, .int 6, .int 1, .int 7]) (rest := []) ⟨hx, hb, hml, hown, hts⟩ (k_X2_set l D cyI cyZ ad oT6 t00 t00 t00 (fun _ => 0) (fun _ => 0) l00 0 0 6 1 7 _ _ rfl ov12x) (cwV 4 hts gL_odds_X2_set rfl rfl rfl (by decide +kernel) ⟨Nat.le_of_ble_eq_true rfl, Nat.le_of_ble_eq_true rfl⟩) (pmV hG hP hD (ci := 2) rfl rfl rfl) rfl rfl hl.1 rfl (lv_room (Nat.le_of_ble_eq_true rfl)) dL_odds_130 ⟨Nat.le_of_ble_eq_true rfl, Nat.le_of_ble_eq_true rfl⟩) hD hS hA (ov12v) (wE_z ov12b ov12o ov12t tE.rf aE.rf aE.rf lE.rf ov12f) (fun H locs hP hD hS => ?_)
  refine lv_if_ne (tgt := 275) hx hb dL_odds_133 (by decide) (fun c9 => absurd (by decide) c9) (fun _ => ?_)
  refine lv_aload_n hx hb dL_odds_136 rfl (lv_at hl 0 rfl) ?_
  refine lv_iconst (v := 1) hx hb dL_odds_137 (by decide) ?_
  refine po_i (va_runV (As := [.int 1]) (rest := []) ⟨hx, hb, hml, hown, hts⟩ (k_X2_changes l D cyI cyZ ad oT7 t00 t00 t00 (fun _ => 0) (fun _ => 0) l00 0 1 ov13x) (cwV 1 hts gL_odds_X2_changes rfl rfl rfl (by decide +kernel) ⟨Nat.le_of_ble_eq_true rfl, Nat.le_of_ble_eq_true rfl⟩) (prV hG hP (ci := 2) rfl rfl rfl) rfl rfl hl.1 rfl (lv_room (Nat.le_of_ble_eq_true rfl)) dL_odds_138 ⟨Nat.le_of_ble_eq_true rfl, Nat.le_of_ble_eq_true rfl⟩) hS hP (ov13v) (fun H locs hP hS => ?_)
  refine lv_iconst (v := 5) hx hb dL_odds_141 (by decide) ?_
  refine lv_icmp_ne (tgt := 275) hx hb dL_odds_142 (by decide) (fun c9 => absurd (by decide) c9) (fun _ => ?_)
  refine lv_aload_n hx hb dL_odds_145 rfl (lv_at hl 0 rfl) ?_
  refine mo_i (va_runV (As := []) (rest := []) ⟨hx, hb, hml, hown, hts⟩ (k_X2_fork l D cyI cyZ ad oT7 t00 t00 t00 (fun _ => 0) (fun _ => 0) l00 0 _ _ rfl) (cwV 0 hts gL_odds_X2_fork rfl rfl rfl (by decide +kernel) ⟨Nat.le_of_ble_eq_true rfl, Nat.le_of_ble_eq_true rfl⟩) (pmV hG hP hD (ci := 2) rfl rfl rfl) rfl rfl hl.1 rfl (lv_room (Nat.le_of_ble_eq_true rfl)) dL_odds_146 ⟨Nat.le_of_ble_eq_true rfl, Nat.le_of_ble_eq_true rfl⟩) hD hS hA (ov14v) (wE_z tE.rf (like_E _ _) (like_E _ _) (emp_E _) aE.rf aE.rf ov14l rfl) (fun H locs hP hD hS => ?_)
  refine lv_bipush (v := 6) hx hb dL_odds_149 (by decide) ?_
  refine lv_icmp_ne (tgt := 275) hx hb dL_odds_151 (by decide) (fun c9 => absurd (by decide) c9) (fun _ => ?_)
  refine lv_aload_n hx hb dL_odds_154 rfl (lv_at hl 0 rfl) ?_
  refine lv_iconst (v := 1) hx hb dL_odds_155 (by decide) ?_
  refine po_i (va_runV (As := [.int 1]) (rest := []) ⟨hx, hb, hml, hown, hts⟩ (k_X2_columns l D cyI cyZ ad oT7 oT7 oT7 t00 (fun _ => 0) (fun _ => 0) l00 0 1 ov15x) (cwV 1 hts gL_odds_X2_columns rfl rfl rfl (by decide +kernel) ⟨Nat.le_of_ble_eq_true rfl, Nat.le_of_ble_eq_true rfl⟩) (prV hG hP (ci := 2) rfl rfl rfl) rfl rfl hl.1 rfl (lv_room (Nat.le_of_ble_eq_true rfl)) dL_odds_156 ⟨Nat.le_of_ble_eq_true rfl, Nat.le_of_ble_eq_true rfl⟩) hS hP (ov15v) (fun H locs hP hS => ?_)
  refine lv_bipush (v := 7) hx hb dL_odds_159 (by decide) ?_
  refine lv_icmp_ne (tgt := 275) hx hb dL_odds_161 (by decide) (fun c9 => absurd (by decide) c9) (fun _ => ?_)
  refine lv_aload_n hx hb dL_odds_164 rfl (lv_at hl 0 rfl) ?_
  refine lv_iconst (v := 2) hx hb dL_odds_165 (by decide) ?_
  refine po_i (va_runV (As := [.int 2]) (rest := []) ⟨hx, hb, hml, hown, hts⟩ (k_X2_rows l D cyI cyZ ad oT7 oT7 oT7 t00 (fun _ => 0) (fun _ => 0) l00 0 2 ov16x) (cwV 1 hts gL_odds_X2_rows rfl rfl rfl (by decide +kernel) ⟨Nat.le_of_ble_eq_true rfl, Nat.le_of_ble_eq_true rfl⟩) (prV hG hP (ci := 2) rfl rfl rfl) rfl rfl hl.1 rfl (lv_room (Nat.le_of_ble_eq_true rfl)) dL_odds_166 ⟨Nat.le_of_ble_eq_true rfl, Nat.le_of_ble_eq_true rfl⟩) hS hP (ov16v) (fun H locs hP hS => ?_)
  refine lv_bipush (v := 96) hx hb dL_odds_169 (by decide) ?_
  refine lv_icmp_ne (tgt := 275) hx hb dL_odds_171 (by decide) (fun c9 => absurd (by decide) c9) (fun _ => ?_)
  refine lv_aload_n hx hb dL_odds_174 rfl (lv_at hl 0 rfl) ?_
  refine lv_iconst (v := 1) hx hb dL_odds_175 (by decide) ?_
  refine po_i (va_runV (As := [.int 1]) (rest := []) ⟨hx, hb, hml, hown, hts⟩ (k_X2_changes l D cyI cyZ ad oT7 oT7 oT7 t00 (fun _ => 0) (fun _ => 0) l00 0 1 ov17x) (cwV 1 hts gL_odds_X2_changes rfl rfl rfl (by decide +kernel) ⟨Nat.le_of_ble_eq_true rfl, Nat.le_of_ble_eq_true rfl⟩) (prV hG hP (ci := 2) rfl rfl rfl) rfl rfl hl.1 rfl (lv_room (Nat.le_of_ble_eq_true rfl)) dL_odds_176 ⟨Nat.le_of_ble_eq_true rfl, Nat.le_of_ble_eq_true rfl⟩) hS hP (ov17v) (fun H locs hP hS => ?_)
  refine lv_if_ne (tgt := 275) hx hb dL_odds_179 (by decide) (fun c9 => absurd (by decide) c9) (fun _ => ?_)
  refine lv_aload_n hx hb dL_odds_182 rfl (lv_at hl 0 rfl) ?_
  refine lv_iconst (v := 2) hx hb dL_odds_183 (by decide) ?_
  refine lv_iconst (v := 5) hx hb dL_odds_184 (by decide) ?_
  refine lv_iconst (v := 0) hx hb dL_odds_185 (by decide) ?_
  refine po_i (va_runV (As := [.int 2, .int 5, .int 0]) (rest := []) ⟨hx, hb, hml, hown, hts⟩ (k_X2_get l D cyI cyZ ad oT7 oT7 oT7 t00 (fun _ => 0) (fun _ => 0) l00 0 2 5 0 ov18x) (cwV 3 hts gL_odds_X2_get rfl rfl rfl (by decide +kernel) ⟨Nat.le_of_ble_eq_true rfl, Nat.le_of_ble_eq_true rfl⟩) (prV hG hP (ci := 2) rfl rfl rfl) rfl rfl hl.1 rfl (lv_room (Nat.le_of_ble_eq_true rfl)) dL_odds_186 ⟨Nat.le_of_ble_eq_true rfl, Nat.le_of_ble_eq_true rfl⟩) hS hP (ov18v) (fun H locs hP hS => ?_)
  refine lv_bipush (v := 100) hx hb dL_odds_189 (by decide) ?_
  refine lv_icmp_ne (tgt := 275) hx hb dL_odds_191 (by decide) (fun c9 => absurd (by decide) c9) (fun _ => ?_)
  exact KK H locs ls hP hD hS hl
set_option maxHeartbeats 8000000 in
set_option maxRecDepth 100000 in
theorem odds_3 {p : Program} {l : Launch} {e : Env} {s : State} {m : MethodId} {args : Array Value} {below : List Frame} {meth : Method} {c : Code} {Q : State → Prop} (hlt : l.stackTraces = false) {D : va_G} {cyI cyZ : ClassId} {ad : Nat → Nat} {A : Nat → Prop} (hx : p.tables.exec = Jvm.exec) (hb : c.code = cL_odds) (hml : c.maxLocals = 1) (hown : s.vm.findClass RL = some m.cls) (hts : ∀ w ∈ wsL_odds, w.before args s = true) (hG : gP D cyI cyZ s) (hz : zqA A s s.heap) (hn : zn s) (hA : ∀ q : Nat, s.heap.size ≤ q → A q)
    (KK : ∀ (H : Heap) (locs : List Loc) (ls : Array Slot), va_P D vwCl (wZ cyI cyZ ad oT7 oT7 oT7 t00 (fun _ => 0) (fun _ => 0) l00 0) H → va_D A (wZ cyI cyZ ad oT7 oT7 oT7 t00 (fun _ => 0) (fun _ => 0) l00 0) → va_S A s.heap H locs → lv_has ls 1 [(0, .ref (ad 0))] → W p l e (headSpec wsL_odds ({ frames := 11, cells := 843, slots := 7480, locals := 231 } : Room)).room s m args below meth c H locs 357 4564 Q (F0 m 277 ls [])) : ∀ (H : Heap) (locs : List Loc) (ls : Array Slot), va_P D vwCl (wZ cyI cyZ ad oT7 oT7 oT7 t00 (fun _ => 0) (fun _ => 0) l00 0) H → va_D A (wZ cyI cyZ ad oT7 oT7 oT7 t00 (fun _ => 0) (fun _ => 0) l00 0) → va_S A s.heap H locs → lv_has ls 1 [(0, .ref (ad 0))] → W p l e (headSpec wsL_odds ({ frames := 11, cells := 843, slots := 7480, locals := 231 } : Room)).room s m args below meth c H locs 21 2548 Q (F0 m 194 ls []) := by
  intro H locs ls hP hD hS hl
  refine lv_aload_n hx hb dL_odds_194 rfl (lv_at hl 0 rfl) ?_
  refine lv_iconst (v := 3) hx hb dL_odds_195 (by decide) ?_
  refine po_i (va_runV (As := [.int 3]) (rest := []) ⟨hx, hb, hml, hown, hts⟩ (k_X2_columns l D cyI cyZ ad oT7 oT7 oT7 t00 (fun _ => 0) (fun _ => 0) l00 0 3 ov19x) (cwV 1 hts gL_odds_X2_columns rfl rfl rfl (by decide +kernel) ⟨Nat.le_of_ble_eq_true rfl, Nat.le_of_ble_eq_true rfl⟩) (prV hG hP (ci := 2) rfl rfl rfl) rfl rfl hl.1 rfl (lv_room (Nat.le_of_ble_eq_true rfl)) dL_odds_196 ⟨Nat.le_of_ble_eq_true rfl, Nat.le_of_ble_eq_true rfl⟩) hS hP (ov19v) (fun H locs hP hS => ?_)
  refine lv_if_ne (tgt := 275) hx hb dL_odds_199 (by decide) (fun c9 => absurd (by decide) c9) (fun _ => ?_)
  refine lv_aload_n hx hb dL_odds_202 rfl (lv_at hl 0 rfl) ?_
  refine lv_iconst (v := 5) hx hb dL_odds_203 (by decide) ?_
  refine lv_iconst (v := 2) hx hb dL_odds_204 (by decide) ?_
  refine mo_i (va_runS (As := [.ref (ad 0), .int 5, .int 2]) (rest := []) ⟨hx, hb, hml, hown, hts⟩ (k_L_refuses l hlt D cyI cyZ ad oT7 oT7 oT7 t00 (fun _ => 0) (fun _ => 0) l00 0 5 2 _ _ rfl ov20r ov20c) (va_cwS 3 hts gL_odds_L_refuses rfl rfl rfl (by decide +kernel) ⟨Nat.le_of_ble_eq_true rfl, Nat.le_of_ble_eq_true rfl⟩) (poS hG hz hn hP hD hS hA) rfl rfl hl.1 rfl (lv_room (Nat.le_of_ble_eq_true rfl)) dL_odds_205 ⟨Nat.le_of_ble_eq_true rfl, Nat.le_of_ble_eq_true rfl⟩) hD hS hA rfl wE.rf (fun H locs hP hD hS => ?_)
  refine W.widen (k := 165) (n := 3412) (Nat.le_of_ble_eq_true rfl) (Nat.le_of_ble_eq_true rfl) ?_
  refine lv_if_eq (tgt := 275) hx hb dL_odds_208 (by decide) (fun c9 => absurd c9 (by decide)) (fun _ => ?_)
  refine lv_aload_n hx hb dL_odds_211 rfl (lv_at hl 0 rfl) ?_
  refine mo_i (va_runV (As := []) (rest := []) ⟨hx, hb, hml, hown, hts⟩ (k_X2_merge l D cyI cyZ ad oT7 oT7 oT7 t00 (fun _ => 0) (fun _ => 0) l00 0 _ _ rfl) (cwV 0 hts gL_odds_X2_merge rfl rfl rfl (by decide +kernel) ⟨Nat.le_of_ble_eq_true rfl, Nat.le_of_ble_eq_true rfl⟩) (pmV hG hP hD (ci := 2) rfl rfl rfl) rfl rfl hl.1 rfl (lv_room (Nat.le_of_ble_eq_true rfl)) dL_odds_212 ⟨Nat.le_of_ble_eq_true rfl, Nat.le_of_ble_eq_true rfl⟩) hD hS hA (ov21v) (wE_z tE.rf tE.rf tE.rf ov21q.2.1 aE.rf aE.rf ov21l ov21q.2.2.2) (fun H locs hP hD hS => ?_)
  refine lv_if_ne (tgt := 275) hx hb dL_odds_215 (by decide) (fun c9 => absurd (by decide) c9) (fun _ => ?_)
  refine lv_aload_n hx hb dL_odds_218 rfl (lv_at hl 0 rfl) ?_
  refine lv_iconst (v := 3) hx hb dL_odds_219 (by decide) ?_
  refine po_i (va_runV (As := [.int 3]) (rest := []) ⟨hx, hb, hml, hown, hts⟩ (k_X2_columns l D cyI cyZ ad oT7 oT7 oT7 oT7 (fun _ => 0) (fun _ => 0) l00 1 3 ov22x) (cwV 1 hts gL_odds_X2_columns rfl rfl rfl (by decide +kernel) ⟨Nat.le_of_ble_eq_true rfl, Nat.le_of_ble_eq_true rfl⟩) (prV hG hP (ci := 2) rfl rfl rfl) rfl rfl hl.1 rfl (lv_room (Nat.le_of_ble_eq_true rfl)) dL_odds_220 ⟨Nat.le_of_ble_eq_true rfl, Nat.le_of_ble_eq_true rfl⟩) hS hP (ov22v) (fun H locs hP hS => ?_)
  refine lv_bipush (v := 7) hx hb dL_odds_223 (by decide) ?_
  refine lv_icmp_ne (tgt := 275) hx hb dL_odds_225 (by decide) (fun c9 => absurd (by decide) c9) (fun _ => ?_)
  refine lv_aload_n hx hb dL_odds_228 rfl (lv_at hl 0 rfl) ?_
  refine lv_iconst (v := 3) hx hb dL_odds_229 (by decide) ?_
  refine lv_iconst (v := 5) hx hb dL_odds_230 (by decide) ?_
  refine lv_iconst (v := 0) hx hb dL_odds_231 (by decide) ?_
  refine po_i (va_runV (As := [.int 3, .int 5, .int 0]) (rest := []) ⟨hx, hb, hml, hown, hts⟩ (k_X2_get l D cyI cyZ ad oT7 oT7 oT7 oT7 (fun _ => 0) (fun _ => 0) l00 1 3 5 0 ov23x) (cwV 3 hts gL_odds_X2_get rfl rfl rfl (by decide +kernel) ⟨Nat.le_of_ble_eq_true rfl, Nat.le_of_ble_eq_true rfl⟩) (prV hG hP (ci := 2) rfl rfl rfl) rfl rfl hl.1 rfl (lv_room (Nat.le_of_ble_eq_true rfl)) dL_odds_232 ⟨Nat.le_of_ble_eq_true rfl, Nat.le_of_ble_eq_true rfl⟩) hS hP (ov23v) (fun H locs hP hS => ?_)
  refine lv_bipush (v := 100) hx hb dL_odds_235 (by decide) ?_
  refine lv_icmp_ne (tgt := 275) hx hb dL_odds_237 (by decide) (fun c9 => absurd (by decide) c9) (fun _ => ?_)
  refine lv_aload_n hx hb dL_odds_240 rfl (lv_at hl 0 rfl) ?_
  refine lv_iconst (v := 3) hx hb dL_odds_241 (by decide) ?_
  refine lv_iconst (v := 2) hx hb dL_odds_242 (by decide) ?_
  refine po_i (va_runV (As := [.int 3, .int 2]) (rest := []) ⟨hx, hb, hml, hown, hts⟩ (k_X2_name l D cyI cyZ ad oT7 oT7 oT7 oT7 (fun _ => 0) (fun _ => 0) l00 1 3 2 ov24x) (cwV 2 hts gL_odds_X2_name rfl rfl rfl (by decide +kernel) ⟨Nat.le_of_ble_eq_true rfl, Nat.le_of_ble_eq_true rfl⟩) (prV hG hP (ci := 2) rfl rfl rfl) rfl rfl hl.1 rfl (lv_room (Nat.le_of_ble_eq_true rfl)) dL_odds_243 ⟨Nat.le_of_ble_eq_true rfl, Nat.le_of_ble_eq_true rfl⟩) hS hP (ov24v) (fun H locs hP hS => ?_)
  refine lv_bipush (v := 12) hx hb dL_odds_246 (by decide) ?_
  refine lv_icmp_ne (tgt := 275) hx hb dL_odds_248 (by decide) (fun c9 => absurd (by decide) c9) (fun _ => ?_)
  refine lv_aload_n hx hb dL_odds_251 rfl (lv_at hl 0 rfl) ?_
  refine mo_i (va_runS (As := [.ref (ad 0)]) (rest := []) ⟨hx, hb, hml, hown, hts⟩ (k_L_agrees l hlt D cyI cyZ ad oT7 oT7 oT7 oT7 (fun _ => 0) (fun _ => 0) l00 1 _ _ rfl tI_oT7 tI_oT7 tI_oT7 ov21m.w ov25n) (va_cwS 1 hts gL_odds_L_agrees rfl rfl rfl (by decide +kernel) ⟨Nat.le_of_ble_eq_true rfl, Nat.le_of_ble_eq_true rfl⟩) (poS hG hz hn hP hD hS hA) rfl rfl hl.1 rfl (lv_room (Nat.le_of_ble_eq_true rfl)) dL_odds_252 ⟨Nat.le_of_ble_eq_true rfl, Nat.le_of_ble_eq_true rfl⟩) hD hS hA rfl wE.rf (fun H locs hP hD hS => ?_)
  refine W.widen (k := 357) (n := 4564) (Nat.le_of_ble_eq_true rfl) (Nat.le_of_ble_eq_true rfl) ?_
  refine lv_if_eq (tgt := 275) hx hb dL_odds_255 (by decide) (fun c9 => absurd c9 (by decide)) (fun _ => ?_)
  refine lv_aload_n hx hb dL_odds_258 rfl (lv_at hl 0 rfl) ?_
  refine mo_i (va_runV (As := []) (rest := []) ⟨hx, hb, hml, hown, hts⟩ (k_X2_accept l D cyI cyZ ad oT7 oT7 oT7 oT7 (fun _ => 0) (fun _ => 0) l00 1 _ _ rfl ov26x) (cwV 0 hts gL_odds_X2_accept rfl rfl rfl (by decide +kernel) ⟨Nat.le_of_ble_eq_true rfl, Nat.le_of_ble_eq_true rfl⟩) (pmV hG hP hD (ci := 2) rfl rfl rfl) rfl rfl hl.1 rfl (lv_room (Nat.le_of_ble_eq_true rfl)) dL_odds_259 ⟨Nat.le_of_ble_eq_true rfl, Nat.le_of_ble_eq_true rfl⟩) hD hS hA (ov26v) (wE_z ov26a.1 ov26a.2.1 ov26a.2.2.1 ov26a.2.2.2.1 aE.rf aE.rf ov26l ov26a.2.2.2.2) (fun H locs hP hD hS => ?_)
  refine lv_bipush (v := 6) hx hb dL_odds_262 (by decide) ?_
  refine lv_icmp_ne (tgt := 275) hx hb dL_odds_264 (by decide) (fun c9 => absurd (by decide) c9) (fun _ => ?_)
  refine lv_aload_n hx hb dL_odds_267 rfl (lv_at hl 0 rfl) ?_
  refine lv_iconst (v := 3) hx hb dL_odds_268 (by decide) ?_
  refine po_i (va_runV (As := [.int 3]) (rest := []) ⟨hx, hb, hml, hown, hts⟩ (k_X2_columns l D cyI cyZ ad oT7 oT7 oT7 t00 (fun _ => 0) (fun _ => 0) l00 0 3 ov27x) (cwV 1 hts gL_odds_X2_columns rfl rfl rfl (by decide +kernel) ⟨Nat.le_of_ble_eq_true rfl, Nat.le_of_ble_eq_true rfl⟩) (prV hG hP (ci := 2) rfl rfl rfl) rfl rfl hl.1 rfl (lv_room (Nat.le_of_ble_eq_true rfl)) dL_odds_269 ⟨Nat.le_of_ble_eq_true rfl, Nat.le_of_ble_eq_true rfl⟩) hS hP (ov27v) (fun H locs hP hS => ?_)
  refine lv_if_eq (tgt := 277) hx hb dL_odds_272 (by decide) (fun _ => ?_) (fun c9 => absurd (by decide) c9)
  exact KK H locs ls hP hD hS hl
set_option maxHeartbeats 8000000 in
set_option maxRecDepth 100000 in
theorem odds_4 {p : Program} {l : Launch} {e : Env} {s : State} {m : MethodId} {args : Array Value} {below : List Frame} {meth : Method} {c : Code} {Q : State → Prop} (hlt : l.stackTraces = false) {D : va_G} {cyI cyZ : ClassId} {ad : Nat → Nat} {A : Nat → Prop} (hx : p.tables.exec = Jvm.exec) (hb : c.code = cL_odds) (hml : c.maxLocals = 1) (hown : s.vm.findClass RL = some m.cls) (hts : ∀ w ∈ wsL_odds, w.before args s = true) (hG : gP D cyI cyZ s) (hz : zqA A s s.heap) (hn : zn s) (hA : ∀ q : Nat, s.heap.size ≤ q → A q)
    (KK : ∀ (H : Heap) (locs : List Loc) (ls : Array Slot), va_P D vwCl (wZ cyI cyZ ad oT7 oT13 oT15 t00 (fun _ => 0) (fun _ => 0) l00 0) H → va_D A (wZ cyI cyZ ad oT7 oT13 oT15 t00 (fun _ => 0) (fun _ => 0) l00 0) → va_S A s.heap H locs → lv_has ls 1 [(0, .ref (ad 0))] → W p l e (headSpec wsL_odds ({ frames := 11, cells := 843, slots := 7480, locals := 231 } : Room)).room s m args below meth c H locs 357 4564 Q (F0 m 387 ls [])) : ∀ (H : Heap) (locs : List Loc) (ls : Array Slot), va_P D vwCl (wZ cyI cyZ ad oT7 oT7 oT7 t00 (fun _ => 0) (fun _ => 0) l00 0) H → va_D A (wZ cyI cyZ ad oT7 oT7 oT7 t00 (fun _ => 0) (fun _ => 0) l00 0) → va_S A s.heap H locs → lv_has ls 1 [(0, .ref (ad 0))] → W p l e (headSpec wsL_odds ({ frames := 11, cells := 843, slots := 7480, locals := 231 } : Room)).room s m args below meth c H locs 357 4564 Q (F0 m 277 ls []) := by
  intro H locs ls hP hD hS hl
  refine lv_aload_n hx hb dL_odds_277 rfl (lv_at hl 0 rfl) ?_
  refine lv_iconst (v := 1) hx hb dL_odds_278 (by decide) ?_
  refine lv_iconst (v := 5) hx hb dL_odds_279 (by decide) ?_
  refine lv_iconst (v := 0) hx hb dL_odds_280 (by decide) ?_
  refine lv_bipush (v := 101) hx hb dL_odds_281 (by decide) ?_
  refine mo_i (va_runV (As := [.int 1, .int 5, .int 0, .int 101]) (rest := []) ⟨hx, hb, hml, hown, hts⟩ (k_X2_set l D cyI cyZ ad oT7 oT7 oT7 t00 (fun _ => 0) (fun _ => 0) l00 0 1 5 0 101 _ _ rfl ov28x) (cwV 4 hts gL_odds_X2_set rfl rfl rfl (by decide +kernel) ⟨Nat.le_of_ble_eq_true rfl, Nat.le_of_ble_eq_true rfl⟩) (pmV hG hP hD (ci := 2) rfl rfl rfl) rfl rfl hl.1 rfl (lv_room (Nat.le_of_ble_eq_true rfl)) dL_odds_283 ⟨Nat.le_of_ble_eq_true rfl, Nat.le_of_ble_eq_true rfl⟩) hD hS hA (ov28v) (wE_z ov28b ov28o ov28t tE.rf aE.rf aE.rf lE.rf ov28f) (fun H locs hP hD hS => ?_)
  refine lv_bipush (v := 100) hx hb dL_odds_286 (by decide) ?_
  refine lv_icmp_ne (tgt := 589) hx hb dL_odds_288 (by decide) (fun c9 => absurd (by decide) c9) (fun _ => ?_)
  refine lv_aload_n hx hb dL_odds_291 rfl (lv_at hl 0 rfl) ?_
  refine lv_iconst (v := 1) hx hb dL_odds_292 (by decide) ?_
  refine lv_iconst (v := 1) hx hb dL_odds_293 (by decide) ?_
  refine lv_bipush (v := 20) hx hb dL_odds_294 (by decide) ?_
  refine mo_i (va_runV (As := [.int 1, .int 1, .int 20]) (rest := []) ⟨hx, hb, hml, hown, hts⟩ (k_X2_rename l D cyI cyZ ad oT7 oT8 oT7 t00 (fun _ => 0) (fun _ => 0) l00 0 1 1 20 _ _ rfl ov29x) (cwV 3 hts gL_odds_X2_rename rfl rfl rfl (by decide +kernel) ⟨Nat.le_of_ble_eq_true rfl, Nat.le_of_ble_eq_true rfl⟩) (pmV hG hP hD (ci := 2) rfl rfl rfl) rfl rfl hl.1 rfl (lv_room (Nat.le_of_ble_eq_true rfl)) dL_odds_296 ⟨Nat.le_of_ble_eq_true rfl, Nat.le_of_ble_eq_true rfl⟩) hD hS hA (ov29v) (wE_z ov29b ov29o ov29t tE.rf aE.rf aE.rf lE.rf ov29f) (fun H locs hP hD hS => ?_)
  refine lv_bipush (v := 11) hx hb dL_odds_299 (by decide) ?_
  refine lv_icmp_ne (tgt := 589) hx hb dL_odds_301 (by decide) (fun c9 => absurd (by decide) c9) (fun _ => ?_)
  refine lv_aload_n hx hb dL_odds_304 rfl (lv_at hl 0 rfl) ?_
  refine lv_iconst (v := 1) hx hb dL_odds_305 (by decide) ?_
  refine lv_iconst (v := 2) hx hb dL_odds_306 (by decide) ?_
  refine mo_i (va_runV (As := [.int 1, .int 2]) (rest := []) ⟨hx, hb, hml, hown, hts⟩ (k_X2_dropColumn l D cyI cyZ ad oT7 oT9 oT7 t00 (fun _ => 0) (fun _ => 0) l00 0 1 2 _ _ rfl ov30x) (cwV 2 hts gL_odds_X2_dropColumn rfl rfl rfl (by decide +kernel) ⟨Nat.le_of_ble_eq_true rfl, Nat.le_of_ble_eq_true rfl⟩) (pmV hG hP hD (ci := 2) rfl rfl rfl) rfl rfl hl.1 rfl (lv_room (Nat.le_of_ble_eq_true rfl)) dL_odds_307 ⟨Nat.le_of_ble_eq_true rfl, Nat.le_of_ble_eq_true rfl⟩) hD hS hA (ov30v) (wE_z ov30b ov30o ov30t tE.rf aE.rf aE.rf lE.rf ov30f) (fun H locs hP hD hS => ?_)
  refine lv_bipush (v := 12) hx hb dL_odds_310 (by decide) ?_
  refine lv_icmp_ne (tgt := 589) hx hb dL_odds_312 (by decide) (fun c9 => absurd (by decide) c9) (fun _ => ?_)
  refine lv_aload_n hx hb dL_odds_315 rfl (lv_at hl 0 rfl) ?_
  refine lv_iconst (v := 1) hx hb dL_odds_316 (by decide) ?_
  refine lv_bipush (v := 7) hx hb dL_odds_317 (by decide) ?_
  refine mo_i (va_runV (As := [.int 1, .int 7]) (rest := []) ⟨hx, hb, hml, hown, hts⟩ (k_X2_addRow l D cyI cyZ ad oT7 oT10 oT7 t00 (fun _ => 0) (fun _ => 0) l00 0 1 7 _ _ rfl ov31x) (cwV 2 hts gL_odds_X2_addRow rfl rfl rfl (by decide +kernel) ⟨Nat.le_of_ble_eq_true rfl, Nat.le_of_ble_eq_true rfl⟩) (pmV hG hP hD (ci := 2) rfl rfl rfl) rfl rfl hl.1 rfl (lv_room (Nat.le_of_ble_eq_true rfl)) dL_odds_319 ⟨Nat.le_of_ble_eq_true rfl, Nat.le_of_ble_eq_true rfl⟩) hD hS hA (ov31v) (wE_z ov31b ov31o ov31t tE.rf aE.rf aE.rf lE.rf ov31f) (fun H locs hP hD hS => ?_)
  refine lv_iconst (v := 3) hx hb dL_odds_322 (by decide) ?_
  refine lv_icmp_ne (tgt := 589) hx hb dL_odds_323 (by decide) (fun c9 => absurd (by decide) c9) (fun _ => ?_)
  refine lv_aload_n hx hb dL_odds_326 rfl (lv_at hl 0 rfl) ?_
  refine lv_iconst (v := 1) hx hb dL_odds_327 (by decide) ?_
  refine lv_bipush (v := 7) hx hb dL_odds_328 (by decide) ?_
  refine lv_iconst (v := 0) hx hb dL_odds_330 (by decide) ?_
  refine lv_iconst (v := 1) hx hb dL_odds_331 (by decide) ?_
  refine mo_i (va_runV (As := [.int 1, .int 7, .int 0, .int 1]) (rest := []) ⟨hx, hb, hml, hown, hts⟩ (k_X2_set l D cyI cyZ ad oT7 oT11 oT7 t00 (fun _ => 0) (fun _ => 0) l00 0 1 7 0 1 _ _ rfl ov32x) (cwV 4 hts gL_odds_X2_set rfl rfl rfl (by decide +kernel) ⟨Nat.le_of_ble_eq_true rfl, Nat.le_of_ble_eq_true rfl⟩) (pmV hG hP hD (ci := 2) rfl rfl rfl) rfl rfl hl.1 rfl (lv_room (Nat.le_of_ble_eq_true rfl)) dL_odds_332 ⟨Nat.le_of_ble_eq_true rfl, Nat.le_of_ble_eq_true rfl⟩) hD hS hA (ov32v) (wE_z ov32b ov32o ov32t tE.rf aE.rf aE.rf lE.rf ov32f) (fun H locs hP hD hS => ?_)
  refine lv_if_ne (tgt := 589) hx hb dL_odds_335 (by decide) (fun c9 => absurd (by decide) c9) (fun _ => ?_)
  refine lv_aload_n hx hb dL_odds_338 rfl (lv_at hl 0 rfl) ?_
  refine lv_iconst (v := 1) hx hb dL_odds_339 (by decide) ?_
  refine lv_bipush (v := 6) hx hb dL_odds_340 (by decide) ?_
  refine lv_iconst (v := 1) hx hb dL_odds_342 (by decide) ?_
  refine lv_bipush (v := 8) hx hb dL_odds_343 (by decide) ?_
  refine mo_i (va_runV (As := [.int 1, .int 6, .int 1, .int 8]) (rest := []) ⟨hx, hb, hml, hown, hts⟩ (k_X2_set l D cyI cyZ ad oT7 oT12 oT7 t00 (fun _ => 0) (fun _ => 0) l00 0 1 6 1 8 _ _ rfl ov33x) (cwV 4 hts gL_odds_X2_set rfl rfl rfl (by decide +kernel) ⟨Nat.le_of_ble_eq_true rfl, Nat.le_of_ble_eq_true rfl⟩) (pmV hG hP hD (ci := 2) rfl rfl rfl) rfl rfl hl.1 rfl (lv_room (Nat.le_of_ble_eq_true rfl)) dL_odds_345 ⟨Nat.le_of_ble_eq_true rfl, Nat.le_of_ble_eq_true rfl⟩) hD hS hA (ov33v) (wE_z ov33b ov33o ov33t tE.rf aE.rf aE.rf lE.rf ov33f) (fun H locs hP hD hS => ?_)
  refine lv_bipush (v := 7) hx hb dL_odds_348 (by decide) ?_
  refine lv_icmp_ne (tgt := 589) hx hb dL_odds_350 (by decide) (fun c9 => absurd (by decide) c9) (fun _ => ?_)
  refine lv_aload_n hx hb dL_odds_353 rfl (lv_at hl 0 rfl) ?_
  refine lv_iconst (v := 1) hx hb dL_odds_354 (by decide) ?_
  refine po_i (va_runV (As := [.int 1]) (rest := []) ⟨hx, hb, hml, hown, hts⟩ (k_X2_changes l D cyI cyZ ad oT7 oT13 oT7 t00 (fun _ => 0) (fun _ => 0) l00 0 1 ov34x) (cwV 1 hts gL_odds_X2_changes rfl rfl rfl (by decide +kernel) ⟨Nat.le_of_ble_eq_true rfl, Nat.le_of_ble_eq_true rfl⟩) (prV hG hP (ci := 2) rfl rfl rfl) rfl rfl hl.1 rfl (lv_room (Nat.le_of_ble_eq_true rfl)) dL_odds_355 ⟨Nat.le_of_ble_eq_true rfl, Nat.le_of_ble_eq_true rfl⟩) hS hP (ov34v) (fun H locs hP hS => ?_)
  refine lv_iconst (v := 5) hx hb dL_odds_358 (by decide) ?_
  refine lv_icmp_ne (tgt := 589) hx hb dL_odds_359 (by decide) (fun c9 => absurd (by decide) c9) (fun _ => ?_)
  refine lv_aload_n hx hb dL_odds_362 rfl (lv_at hl 0 rfl) ?_
  refine lv_iconst (v := 2) hx hb dL_odds_363 (by decide) ?_
  refine lv_iconst (v := 5) hx hb dL_odds_364 (by decide) ?_
  refine lv_iconst (v := 0) hx hb dL_odds_365 (by decide) ?_
  refine lv_bipush (v := 102) hx hb dL_odds_366 (by decide) ?_
  refine mo_i (va_runV (As := [.int 2, .int 5, .int 0, .int 102]) (rest := []) ⟨hx, hb, hml, hown, hts⟩ (k_X2_set l D cyI cyZ ad oT7 oT13 oT7 t00 (fun _ => 0) (fun _ => 0) l00 0 2 5 0 102 _ _ rfl ov35x) (cwV 4 hts gL_odds_X2_set rfl rfl rfl (by decide +kernel) ⟨Nat.le_of_ble_eq_true rfl, Nat.le_of_ble_eq_true rfl⟩) (pmV hG hP hD (ci := 2) rfl rfl rfl) rfl rfl hl.1 rfl (lv_room (Nat.le_of_ble_eq_true rfl)) dL_odds_368 ⟨Nat.le_of_ble_eq_true rfl, Nat.le_of_ble_eq_true rfl⟩) hD hS hA (ov35v) (wE_z ov35b ov35o ov35t tE.rf aE.rf aE.rf lE.rf ov35f) (fun H locs hP hD hS => ?_)
  refine lv_bipush (v := 100) hx hb dL_odds_371 (by decide) ?_
  refine lv_icmp_ne (tgt := 589) hx hb dL_odds_373 (by decide) (fun c9 => absurd (by decide) c9) (fun _ => ?_)
  refine lv_aload_n hx hb dL_odds_376 rfl (lv_at hl 0 rfl) ?_
  refine lv_iconst (v := 2) hx hb dL_odds_377 (by decide) ?_
  refine lv_iconst (v := 5) hx hb dL_odds_378 (by decide) ?_
  refine lv_iconst (v := 2) hx hb dL_odds_379 (by decide) ?_
  refine lv_iconst (v := 3) hx hb dL_odds_380 (by decide) ?_
  refine mo_i (va_runV (As := [.int 2, .int 5, .int 2, .int 3]) (rest := []) ⟨hx, hb, hml, hown, hts⟩ (k_X2_set l D cyI cyZ ad oT7 oT13 oT14 t00 (fun _ => 0) (fun _ => 0) l00 0 2 5 2 3 _ _ rfl ov36x) (cwV 4 hts gL_odds_X2_set rfl rfl rfl (by decide +kernel) ⟨Nat.le_of_ble_eq_true rfl, Nat.le_of_ble_eq_true rfl⟩) (pmV hG hP hD (ci := 2) rfl rfl rfl) rfl rfl hl.1 rfl (lv_room (Nat.le_of_ble_eq_true rfl)) dL_odds_381 ⟨Nat.le_of_ble_eq_true rfl, Nat.le_of_ble_eq_true rfl⟩) hD hS hA (ov36v) (wE_z ov36b ov36o ov36t tE.rf aE.rf aE.rf lE.rf ov36f) (fun H locs hP hD hS => ?_)
  refine lv_if_ne (tgt := 589) hx hb dL_odds_384 (by decide) (fun c9 => absurd (by decide) c9) (fun _ => ?_)
  exact KK H locs ls hP hD hS hl
