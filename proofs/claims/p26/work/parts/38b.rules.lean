set_option maxHeartbeats 8000000 in
set_option maxRecDepth 100000 in
theorem rules_4 {p : Program} {l : Launch} {e : Env} {s : State} {m : MethodId} {args : Array Value} {below : List Frame} {meth : Method} {c : Code} {Q : State → Prop} (hlt : l.stackTraces = false) {D : va_G} {cyI cyZ : ClassId} {ad : Nat → Nat} {A : Nat → Prop} (hx : p.tables.exec = Jvm.exec) (hb : c.code = cL_rules) (hml : c.maxLocals = 2) (hown : s.vm.findClass RL = some m.cls) (hts : ∀ w ∈ wsL_rules, w.before args s = true) (hG : gP D cyI cyZ s) (hz : zqA A s s.heap) (hn : zn s) (hA : ∀ q : Nat, s.heap.size ≤ q → A q)
    (KK : ∀ (H : Heap) (locs : List Loc) (ls : Array Slot), va_P D vwCl (wZ cyI cyZ ad rT10 rT26 rT27 rT22 rU7 (fun _ => 0) rL23 0) H → va_D A (wZ cyI cyZ ad rT10 rT26 rT27 rT22 rU7 (fun _ => 0) rL23 0) → va_S A s.heap H locs → lv_has ls 2 [(1, .int 4), (0, .ref (ad 0))] → W p l e (headSpec wsL_rules ({ frames := 11, cells := 740, slots := 6862, locals := 231 } : Room)).room s m args below meth c H locs 212 3694 Q (F0 m 332 ls [])) : ∀ (H : Heap) (locs : List Loc) (ls : Array Slot), va_P D vwCl (wZ cyI cyZ ad rT10 rT17 rT21 rT19 rU7 (fun _ => 0) rL20 0) H → va_D A (wZ cyI cyZ ad rT10 rT17 rT21 rT19 rU7 (fun _ => 0) rL20 0) → va_S A s.heap H locs → lv_has ls 2 [(1, .int 4), (0, .ref (ad 0))] → W p l e (headSpec wsL_rules ({ frames := 11, cells := 740, slots := 6862, locals := 231 } : Room)).room s m args below meth c H locs 20 2542 Q (F0 m 238 ls []) := by
  intro H locs ls hP hD hS hl
  refine lv_aload_n hx hb dL_rules_238 rfl (lv_at hl 1 rfl) ?_
  refine mo_i (va_runV (As := []) (rest := []) ⟨hx, hb, hml, hown, hts⟩ (k_X2_merge l D cyI cyZ ad rT10 rT17 rT21 rT19 rU7 (fun _ => 0) rL20 0 _ _ rfl) (cwV 0 hts gL_rules_X2_merge rfl rfl rfl (by decide +kernel) ⟨Nat.le_of_ble_eq_true rfl, Nat.le_of_ble_eq_true rfl⟩) (pmV hG hP hD (ci := 2) rfl rfl rfl) rfl rfl hl.1 rfl (lv_room (Nat.le_of_ble_eq_true rfl)) dL_rules_239 ⟨Nat.le_of_ble_eq_true rfl, Nat.le_of_ble_eq_true rfl⟩) hD hS hA (rv28v) (wE_z tE.rf tE.rf tE.rf rv28q.2.1 aE.rf aE.rf rv28l rv28q.2.2.2) (fun H locs hP hD hS => ?_)
  refine lv_iconst (v := 1) hx hb dL_rules_242 (by decide) ?_
  refine lv_icmp_ne (tgt := 286) hx hb dL_rules_243 (by decide) (fun c9 => absurd (by decide) c9) (fun _ => ?_)
  refine lv_aload_n hx hb dL_rules_246 rfl (lv_at hl 1 rfl) ?_
  refine lv_iconst (v := 3) hx hb dL_rules_247 (by decide) ?_
  refine lv_iconst (v := 0) hx hb dL_rules_248 (by decide) ?_
  refine lv_iconst (v := 2) hx hb dL_rules_249 (by decide) ?_
  refine po_i (va_runV (As := [.int 3, .int 0, .int 2]) (rest := []) ⟨hx, hb, hml, hown, hts⟩ (k_X2_get l D cyI cyZ ad rT10 rT17 rT21 rT22 rU7 (fun _ => 0) rL20 1 3 0 2 rv29x) (cwV 3 hts gL_rules_X2_get rfl rfl rfl (by decide +kernel) ⟨Nat.le_of_ble_eq_true rfl, Nat.le_of_ble_eq_true rfl⟩) (prV hG hP (ci := 2) rfl rfl rfl) rfl rfl hl.1 rfl (lv_room (Nat.le_of_ble_eq_true rfl)) dL_rules_250 ⟨Nat.le_of_ble_eq_true rfl, Nat.le_of_ble_eq_true rfl⟩) hS hP (rv29v) (fun H locs hP hS => ?_)
  refine lv_bipush (v := 40) hx hb dL_rules_253 (by decide) ?_
  refine lv_icmp_ne (tgt := 286) hx hb dL_rules_255 (by decide) (fun c9 => absurd (by decide) c9) (fun _ => ?_)
  refine lv_aload_n hx hb dL_rules_258 rfl (lv_at hl 1 rfl) ?_
  refine lv_iconst (v := 0) hx hb dL_rules_259 (by decide) ?_
  refine lv_iconst (v := 1) hx hb dL_rules_260 (by decide) ?_
  refine mo_i (va_runV (As := [.int 0, .int 1]) (rest := []) ⟨hx, hb, hml, hown, hts⟩ (k_X2_settle l D cyI cyZ ad rT10 rT17 rT21 rT22 rU7 (fun _ => 0) rL20 1 0 1 _ _ rfl rv30x) (cwV 2 hts gL_rules_X2_settle rfl rfl rfl (by decide +kernel) ⟨Nat.le_of_ble_eq_true rfl, Nat.le_of_ble_eq_true rfl⟩) (pmV hG hP hD (ci := 2) rfl rfl rfl) rfl rfl hl.1 rfl (lv_room (Nat.le_of_ble_eq_true rfl)) dL_rules_261 ⟨Nat.le_of_ble_eq_true rfl, Nat.le_of_ble_eq_true rfl⟩) hD hS hA (rv30v) (wE_z tE.rf tE.rf tE.rf rv30m aE.rf aE.rf rv30l rfl) (fun H locs hP hD hS => ?_)
  refine lv_if_ne (tgt := 286) hx hb dL_rules_264 (by decide) (fun c9 => absurd (by decide) c9) (fun _ => ?_)
  refine lv_aload_n hx hb dL_rules_267 rfl (lv_at hl 1 rfl) ?_
  refine lv_iconst (v := 3) hx hb dL_rules_268 (by decide) ?_
  refine lv_iconst (v := 0) hx hb dL_rules_269 (by decide) ?_
  refine lv_iconst (v := 0) hx hb dL_rules_270 (by decide) ?_
  refine po_i (va_runV (As := [.int 3, .int 0, .int 0]) (rest := []) ⟨hx, hb, hml, hown, hts⟩ (k_X2_get l D cyI cyZ ad rT10 rT17 rT21 rT22 rU7 (fun _ => 0) rL23 1 3 0 0 rv31x) (cwV 3 hts gL_rules_X2_get rfl rfl rfl (by decide +kernel) ⟨Nat.le_of_ble_eq_true rfl, Nat.le_of_ble_eq_true rfl⟩) (prV hG hP (ci := 2) rfl rfl rfl) rfl rfl hl.1 rfl (lv_room (Nat.le_of_ble_eq_true rfl)) dL_rules_271 ⟨Nat.le_of_ble_eq_true rfl, Nat.le_of_ble_eq_true rfl⟩) hS hP (rv31v) (fun H locs hP hS => ?_)
  refine lv_bipush (v := 20) hx hb dL_rules_274 (by decide) ?_
  refine lv_icmp_ne (tgt := 286) hx hb dL_rules_276 (by decide) (fun c9 => absurd (by decide) c9) (fun _ => ?_)
  refine lv_aload_n hx hb dL_rules_279 rfl (lv_at hl 1 rfl) ?_
  refine mo_i (va_runS (As := [.ref (ad 0)]) (rest := []) ⟨hx, hb, hml, hown, hts⟩ (k_L_agrees l hlt D cyI cyZ ad rT10 rT17 rT21 rT22 rU7 (fun _ => 0) rL23 1 _ _ rfl tI_rT10 tI_rT17 tI_rT21 rv28m.w rv32n) (va_cwS 1 hts gL_rules_L_agrees rfl rfl rfl (by decide +kernel) ⟨Nat.le_of_ble_eq_true rfl, Nat.le_of_ble_eq_true rfl⟩) (poS hG hz hn hP hD hS hA) rfl rfl hl.1 rfl (lv_room (Nat.le_of_ble_eq_true rfl)) dL_rules_280 ⟨Nat.le_of_ble_eq_true rfl, Nat.le_of_ble_eq_true rfl⟩) hD hS hA rfl wE.rf (fun H locs hP hD hS => ?_)
  refine W.widen (k := 212) (n := 3694) (Nat.le_of_ble_eq_true rfl) (Nat.le_of_ble_eq_true rfl) ?_
  refine lv_if_ne (tgt := 288) hx hb dL_rules_283 (by decide) (fun _ => ?_) (fun c9 => absurd c9 (by decide))
  refine lv_aload_n hx hb dL_rules_288 rfl (lv_at hl 1 rfl) ?_
  refine lv_iconst (v := 1) hx hb dL_rules_289 (by decide) ?_
  refine lv_iconst (v := 3) hx hb dL_rules_290 (by decide) ?_
  refine mo_i (va_runV (As := [.int 1, .int 3]) (rest := []) ⟨hx, hb, hml, hown, hts⟩ (k_X2_addRow l D cyI cyZ ad rT10 rT17 rT21 rT22 rU7 (fun _ => 0) rL23 1 1 3 _ _ rfl rv33x) (cwV 2 hts gL_rules_X2_addRow rfl rfl rfl (by decide +kernel) ⟨Nat.le_of_ble_eq_true rfl, Nat.le_of_ble_eq_true rfl⟩) (pmV hG hP hD (ci := 2) rfl rfl rfl) rfl rfl hl.1 rfl (lv_room (Nat.le_of_ble_eq_true rfl)) dL_rules_291 ⟨Nat.le_of_ble_eq_true rfl, Nat.le_of_ble_eq_true rfl⟩) hD hS hA (rv33v) (wE_z rv33b rv33o rv33t tE.rf aE.rf aE.rf lE.rf rv33f) (fun H locs hP hD hS => ?_)
  refine lv_iconst (v := 3) hx hb dL_rules_294 (by decide) ?_
  refine lv_icmp_ne (tgt := 437) hx hb dL_rules_295 (by decide) (fun c9 => absurd (by decide) c9) (fun _ => ?_)
  refine lv_aload_n hx hb dL_rules_298 rfl (lv_at hl 1 rfl) ?_
  refine lv_iconst (v := 2) hx hb dL_rules_299 (by decide) ?_
  refine lv_iconst (v := 3) hx hb dL_rules_300 (by decide) ?_
  refine mo_i (va_runV (As := [.int 2, .int 3]) (rest := []) ⟨hx, hb, hml, hown, hts⟩ (k_X2_addRow l D cyI cyZ ad rT10 rT24 rT21 rT22 rU7 (fun _ => 0) rL23 0 2 3 _ _ rfl rv34x) (cwV 2 hts gL_rules_X2_addRow rfl rfl rfl (by decide +kernel) ⟨Nat.le_of_ble_eq_true rfl, Nat.le_of_ble_eq_true rfl⟩) (pmV hG hP hD (ci := 2) rfl rfl rfl) rfl rfl hl.1 rfl (lv_room (Nat.le_of_ble_eq_true rfl)) dL_rules_301 ⟨Nat.le_of_ble_eq_true rfl, Nat.le_of_ble_eq_true rfl⟩) hD hS hA (rv34v) (wE_z rv34b rv34o rv34t tE.rf aE.rf aE.rf lE.rf rv34f) (fun H locs hP hD hS => ?_)
  refine lv_iconst (v := 3) hx hb dL_rules_304 (by decide) ?_
  refine lv_icmp_ne (tgt := 437) hx hb dL_rules_305 (by decide) (fun c9 => absurd (by decide) c9) (fun _ => ?_)
  refine lv_aload_n hx hb dL_rules_308 rfl (lv_at hl 1 rfl) ?_
  refine lv_iconst (v := 1) hx hb dL_rules_309 (by decide) ?_
  refine lv_iconst (v := 3) hx hb dL_rules_310 (by decide) ?_
  refine lv_iconst (v := 0) hx hb dL_rules_311 (by decide) ?_
  refine lv_bipush (v := 9) hx hb dL_rules_312 (by decide) ?_
  refine mo_i (va_runV (As := [.int 1, .int 3, .int 0, .int 9]) (rest := []) ⟨hx, hb, hml, hown, hts⟩ (k_X2_set l D cyI cyZ ad rT10 rT24 rT25 rT22 rU7 (fun _ => 0) rL23 0 1 3 0 9 _ _ rfl rv35x) (cwV 4 hts gL_rules_X2_set rfl rfl rfl (by decide +kernel) ⟨Nat.le_of_ble_eq_true rfl, Nat.le_of_ble_eq_true rfl⟩) (pmV hG hP hD (ci := 2) rfl rfl rfl) rfl rfl hl.1 rfl (lv_room (Nat.le_of_ble_eq_true rfl)) dL_rules_314 ⟨Nat.le_of_ble_eq_true rfl, Nat.le_of_ble_eq_true rfl⟩) hD hS hA (rv35v) (wE_z rv35b rv35o rv35t tE.rf aE.rf aE.rf lE.rf rv35f) (fun H locs hP hD hS => ?_)
  refine lv_if_ne (tgt := 437) hx hb dL_rules_317 (by decide) (fun c9 => absurd (by decide) c9) (fun _ => ?_)
  refine lv_aload_n hx hb dL_rules_320 rfl (lv_at hl 1 rfl) ?_
  refine lv_iconst (v := 2) hx hb dL_rules_321 (by decide) ?_
  refine lv_iconst (v := 3) hx hb dL_rules_322 (by decide) ?_
  refine lv_iconst (v := 0) hx hb dL_rules_323 (by decide) ?_
  refine lv_bipush (v := 9) hx hb dL_rules_324 (by decide) ?_
  refine mo_i (va_runV (As := [.int 2, .int 3, .int 0, .int 9]) (rest := []) ⟨hx, hb, hml, hown, hts⟩ (k_X2_set l D cyI cyZ ad rT10 rT26 rT25 rT22 rU7 (fun _ => 0) rL23 0 2 3 0 9 _ _ rfl rv36x) (cwV 4 hts gL_rules_X2_set rfl rfl rfl (by decide +kernel) ⟨Nat.le_of_ble_eq_true rfl, Nat.le_of_ble_eq_true rfl⟩) (pmV hG hP hD (ci := 2) rfl rfl rfl) rfl rfl hl.1 rfl (lv_room (Nat.le_of_ble_eq_true rfl)) dL_rules_326 ⟨Nat.le_of_ble_eq_true rfl, Nat.le_of_ble_eq_true rfl⟩) hD hS hA (rv36v) (wE_z rv36b rv36o rv36t tE.rf aE.rf aE.rf lE.rf rv36f) (fun H locs hP hD hS => ?_)
  refine lv_if_ne (tgt := 437) hx hb dL_rules_329 (by decide) (fun c9 => absurd (by decide) c9) (fun _ => ?_)
  exact KK H locs ls hP hD hS hl
set_option maxHeartbeats 8000000 in
set_option maxRecDepth 100000 in
theorem rules_5 {p : Program} {l : Launch} {e : Env} {s : State} {m : MethodId} {args : Array Value} {below : List Frame} {meth : Method} {c : Code} {Q : State → Prop} (hlt : l.stackTraces = false) {D : va_G} {cyI cyZ : ClassId} {ad : Nat → Nat} {A : Nat → Prop} (hx : p.tables.exec = Jvm.exec) (hb : c.code = cL_rules) (hml : c.maxLocals = 2) (hown : s.vm.findClass RL = some m.cls) (hts : ∀ w ∈ wsL_rules, w.before args s = true) (hG : gP D cyI cyZ s) (hz : zqA A s s.heap) (hn : zn s) (hA : ∀ q : Nat, s.heap.size ≤ q → A q)
    (KK : ∀ (H : Heap) (locs : List Loc) (ls : Array Slot), va_P D vwCl (wZ cyI cyZ ad rT10 rT28 rT31 rT30 rU7 (fun _ => 0) rL32 1) H → va_D A (wZ cyI cyZ ad rT10 rT28 rT31 rT30 rU7 (fun _ => 0) rL32 1) → va_S A s.heap H locs → lv_has ls 2 [(1, .int 4), (0, .ref (ad 0))] → W p l e (headSpec wsL_rules ({ frames := 11, cells := 740, slots := 6862, locals := 231 } : Room)).room s m args below meth c H locs 212 3694 Q (F0 m 430 ls [])) : ∀ (H : Heap) (locs : List Loc) (ls : Array Slot), va_P D vwCl (wZ cyI cyZ ad rT10 rT26 rT27 rT22 rU7 (fun _ => 0) rL23 0) H → va_D A (wZ cyI cyZ ad rT10 rT26 rT27 rT22 rU7 (fun _ => 0) rL23 0) → va_S A s.heap H locs → lv_has ls 2 [(1, .int 4), (0, .ref (ad 0))] → W p l e (headSpec wsL_rules ({ frames := 11, cells := 740, slots := 6862, locals := 231 } : Room)).room s m args below meth c H locs 212 3694 Q (F0 m 332 ls []) := by
  intro H locs ls hP hD hS hl
  refine lv_aload_n hx hb dL_rules_332 rfl (lv_at hl 1 rfl) ?_
  refine lv_iconst (v := 1) hx hb dL_rules_333 (by decide) ?_
  refine lv_iconst (v := 3) hx hb dL_rules_334 (by decide) ?_
  refine lv_iconst (v := 3) hx hb dL_rules_335 (by decide) ?_
  refine lv_iconst (v := 4) hx hb dL_rules_336 (by decide) ?_
  refine mo_i (va_runV (As := [.int 1, .int 3, .int 3, .int 4]) (rest := []) ⟨hx, hb, hml, hown, hts⟩ (k_X2_set l D cyI cyZ ad rT10 rT26 rT27 rT22 rU7 (fun _ => 0) rL23 0 1 3 3 4 _ _ rfl rv37x) (cwV 4 hts gL_rules_X2_set rfl rfl rfl (by decide +kernel) ⟨Nat.le_of_ble_eq_true rfl, Nat.le_of_ble_eq_true rfl⟩) (pmV hG hP hD (ci := 2) rfl rfl rfl) rfl rfl hl.1 rfl (lv_room (Nat.le_of_ble_eq_true rfl)) dL_rules_337 ⟨Nat.le_of_ble_eq_true rfl, Nat.le_of_ble_eq_true rfl⟩) hD hS hA (rv37v) (wE_z rv37b rv37o rv37t tE.rf aE.rf aE.rf lE.rf rv37f) (fun H locs hP hD hS => ?_)
  refine lv_if_ne (tgt := 437) hx hb dL_rules_340 (by decide) (fun c9 => absurd (by decide) c9) (fun _ => ?_)
  refine lv_aload_n hx hb dL_rules_343 rfl (lv_at hl 1 rfl) ?_
  refine lv_iconst (v := 2) hx hb dL_rules_344 (by decide) ?_
  refine lv_iconst (v := 3) hx hb dL_rules_345 (by decide) ?_
  refine lv_iconst (v := 3) hx hb dL_rules_346 (by decide) ?_
  refine lv_iconst (v := 5) hx hb dL_rules_347 (by decide) ?_
  refine mo_i (va_runV (As := [.int 2, .int 3, .int 3, .int 5]) (rest := []) ⟨hx, hb, hml, hown, hts⟩ (k_X2_set l D cyI cyZ ad rT10 rT28 rT27 rT22 rU7 (fun _ => 0) rL23 0 2 3 3 5 _ _ rfl rv38x) (cwV 4 hts gL_rules_X2_set rfl rfl rfl (by decide +kernel) ⟨Nat.le_of_ble_eq_true rfl, Nat.le_of_ble_eq_true rfl⟩) (pmV hG hP hD (ci := 2) rfl rfl rfl) rfl rfl hl.1 rfl (lv_room (Nat.le_of_ble_eq_true rfl)) dL_rules_348 ⟨Nat.le_of_ble_eq_true rfl, Nat.le_of_ble_eq_true rfl⟩) hD hS hA (rv38v) (wE_z rv38b rv38o rv38t tE.rf aE.rf aE.rf lE.rf rv38f) (fun H locs hP hD hS => ?_)
  refine lv_if_ne (tgt := 437) hx hb dL_rules_351 (by decide) (fun c9 => absurd (by decide) c9) (fun _ => ?_)
  refine lv_aload_n hx hb dL_rules_354 rfl (lv_at hl 1 rfl) ?_
  refine mo_i (va_runV (As := []) (rest := []) ⟨hx, hb, hml, hown, hts⟩ (k_X2_merge l D cyI cyZ ad rT10 rT28 rT29 rT22 rU7 (fun _ => 0) rL23 0 _ _ rfl) (cwV 0 hts gL_rules_X2_merge rfl rfl rfl (by decide +kernel) ⟨Nat.le_of_ble_eq_true rfl, Nat.le_of_ble_eq_true rfl⟩) (pmV hG hP hD (ci := 2) rfl rfl rfl) rfl rfl hl.1 rfl (lv_room (Nat.le_of_ble_eq_true rfl)) dL_rules_355 ⟨Nat.le_of_ble_eq_true rfl, Nat.le_of_ble_eq_true rfl⟩) hD hS hA (rv39v) (wE_z tE.rf tE.rf tE.rf rv39q.2.1 aE.rf aE.rf rv39l rv39q.2.2.2) (fun H locs hP hD hS => ?_)
  refine lv_iconst (v := 1) hx hb dL_rules_358 (by decide) ?_
  refine lv_icmp_ne (tgt := 437) hx hb dL_rules_359 (by decide) (fun c9 => absurd (by decide) c9) (fun _ => ?_)
  refine lv_aload_n hx hb dL_rules_362 rfl (lv_at hl 1 rfl) ?_
  refine lv_iconst (v := 3) hx hb dL_rules_363 (by decide) ?_
  refine lv_iconst (v := 3) hx hb dL_rules_364 (by decide) ?_
  refine lv_iconst (v := 0) hx hb dL_rules_365 (by decide) ?_
  refine po_i (va_runV (As := [.int 3, .int 3, .int 0]) (rest := []) ⟨hx, hb, hml, hown, hts⟩ (k_X2_get l D cyI cyZ ad rT10 rT28 rT29 rT30 rU7 (fun _ => 0) rL20 1 3 3 0 rv40x) (cwV 3 hts gL_rules_X2_get rfl rfl rfl (by decide +kernel) ⟨Nat.le_of_ble_eq_true rfl, Nat.le_of_ble_eq_true rfl⟩) (prV hG hP (ci := 2) rfl rfl rfl) rfl rfl hl.1 rfl (lv_room (Nat.le_of_ble_eq_true rfl)) dL_rules_366 ⟨Nat.le_of_ble_eq_true rfl, Nat.le_of_ble_eq_true rfl⟩) hS hP (rv40v) (fun H locs hP hS => ?_)
  refine lv_bipush (v := 9) hx hb dL_rules_369 (by decide) ?_
  refine lv_icmp_ne (tgt := 437) hx hb dL_rules_371 (by decide) (fun c9 => absurd (by decide) c9) (fun _ => ?_)
  refine lv_aload_n hx hb dL_rules_374 rfl (lv_at hl 1 rfl) ?_
  refine lv_iconst (v := 3) hx hb dL_rules_375 (by decide) ?_
  refine lv_iconst (v := 3) hx hb dL_rules_376 (by decide) ?_
  refine lv_iconst (v := 3) hx hb dL_rules_377 (by decide) ?_
  refine po_i (va_runV (As := [.int 3, .int 3, .int 3]) (rest := []) ⟨hx, hb, hml, hown, hts⟩ (k_X2_get l D cyI cyZ ad rT10 rT28 rT29 rT30 rU7 (fun _ => 0) rL20 1 3 3 3 rv41x) (cwV 3 hts gL_rules_X2_get rfl rfl rfl (by decide +kernel) ⟨Nat.le_of_ble_eq_true rfl, Nat.le_of_ble_eq_true rfl⟩) (prV hG hP (ci := 2) rfl rfl rfl) rfl rfl hl.1 rfl (lv_room (Nat.le_of_ble_eq_true rfl)) dL_rules_378 ⟨Nat.le_of_ble_eq_true rfl, Nat.le_of_ble_eq_true rfl⟩) hS hP (rv41v) (fun H locs hP hS => ?_)
  refine lv_bipush (v := 9) hx hb dL_rules_381 (by decide) ?_
  refine lv_icmp_ne (tgt := 437) hx hb dL_rules_383 (by decide) (fun c9 => absurd (by decide) c9) (fun _ => ?_)
  refine lv_aload_n hx hb dL_rules_386 rfl (lv_at hl 1 rfl) ?_
  refine lv_iconst (v := 2) hx hb dL_rules_387 (by decide) ?_
  refine lv_iconst (v := 3) hx hb dL_rules_388 (by decide) ?_
  refine lv_iconst (v := 0) hx hb dL_rules_389 (by decide) ?_
  refine lv_iconst (v := 0) hx hb dL_rules_390 (by decide) ?_
  refine mo_i (va_runV (As := [.int 2, .int 3, .int 0, .int 0]) (rest := []) ⟨hx, hb, hml, hown, hts⟩ (k_X2_set l D cyI cyZ ad rT10 rT28 rT29 rT30 rU7 (fun _ => 0) rL20 1 2 3 0 0 _ _ rfl rv42x) (cwV 4 hts gL_rules_X2_set rfl rfl rfl (by decide +kernel) ⟨Nat.le_of_ble_eq_true rfl, Nat.le_of_ble_eq_true rfl⟩) (pmV hG hP hD (ci := 2) rfl rfl rfl) rfl rfl hl.1 rfl (lv_room (Nat.le_of_ble_eq_true rfl)) dL_rules_391 ⟨Nat.le_of_ble_eq_true rfl, Nat.le_of_ble_eq_true rfl⟩) hD hS hA (rv42v) (wE_z rv42b rv42o rv42t tE.rf aE.rf aE.rf lE.rf rv42f) (fun H locs hP hD hS => ?_)
  refine lv_bipush (v := 9) hx hb dL_rules_394 (by decide) ?_
  refine lv_icmp_ne (tgt := 437) hx hb dL_rules_396 (by decide) (fun c9 => absurd (by decide) c9) (fun _ => ?_)
  refine lv_aload_n hx hb dL_rules_399 rfl (lv_at hl 1 rfl) ?_
  refine mo_i (va_runV (As := []) (rest := []) ⟨hx, hb, hml, hown, hts⟩ (k_X2_merge l D cyI cyZ ad rT10 rT28 rT31 rT30 rU7 (fun _ => 0) rL20 0 _ _ rfl) (cwV 0 hts gL_rules_X2_merge rfl rfl rfl (by decide +kernel) ⟨Nat.le_of_ble_eq_true rfl, Nat.le_of_ble_eq_true rfl⟩) (pmV hG hP hD (ci := 2) rfl rfl rfl) rfl rfl hl.1 rfl (lv_room (Nat.le_of_ble_eq_true rfl)) dL_rules_400 ⟨Nat.le_of_ble_eq_true rfl, Nat.le_of_ble_eq_true rfl⟩) hD hS hA (rv43v) (wE_z tE.rf tE.rf tE.rf rv43q.2.1 aE.rf aE.rf rv43l rv43q.2.2.2) (fun H locs hP hD hS => ?_)
  refine lv_iconst (v := 2) hx hb dL_rules_403 (by decide) ?_
  refine lv_icmp_ne (tgt := 437) hx hb dL_rules_404 (by decide) (fun c9 => absurd (by decide) c9) (fun _ => ?_)
  refine lv_aload_n hx hb dL_rules_407 rfl (lv_at hl 1 rfl) ?_
  refine lv_iconst (v := 1) hx hb dL_rules_408 (by decide) ?_
  refine lv_iconst (v := 1) hx hb dL_rules_409 (by decide) ?_
  refine lv_iconst (v := 3) hx hb dL_rules_410 (by decide) ?_
  refine lv_iconst (v := 0) hx hb dL_rules_411 (by decide) ?_
  refine po_i (va_runS (As := [.ref (ad 0), .int 1, .int 1, .int 3, .int 0]) (rest := []) ⟨hx, hb, hml, hown, hts⟩ (k_L_is l D cyI cyZ ad rT10 rT28 rT31 rT30 rU7 (fun _ => 0) rL32 1 1 1 3 0 rv44x rv44k rv44y rv44c) (va_cwS 5 hts gL_rules_L_is rfl rfl rfl (by decide +kernel) ⟨Nat.le_of_ble_eq_true rfl, Nat.le_of_ble_eq_true rfl⟩) (prS hG hP) rfl rfl hl.1 rfl (lv_room (Nat.le_of_ble_eq_true rfl)) dL_rules_412 ⟨Nat.le_of_ble_eq_true rfl, Nat.le_of_ble_eq_true rfl⟩) hS hP rfl (fun H locs hP hS => ?_)
  refine lv_if_eq (tgt := 437) hx hb dL_rules_415 (by decide) (fun c9 => absurd c9 (by decide)) (fun _ => ?_)
  refine lv_aload_n hx hb dL_rules_418 rfl (lv_at hl 1 rfl) ?_
  refine lv_iconst (v := 3) hx hb dL_rules_419 (by decide) ?_
  refine lv_iconst (v := 3) hx hb dL_rules_420 (by decide) ?_
  refine lv_iconst (v := 0) hx hb dL_rules_421 (by decide) ?_
  refine po_i (va_runV (As := [.int 3, .int 3, .int 0]) (rest := []) ⟨hx, hb, hml, hown, hts⟩ (k_X2_get l D cyI cyZ ad rT10 rT28 rT31 rT30 rU7 (fun _ => 0) rL32 1 3 3 0 rv45x) (cwV 3 hts gL_rules_X2_get rfl rfl rfl (by decide +kernel) ⟨Nat.le_of_ble_eq_true rfl, Nat.le_of_ble_eq_true rfl⟩) (prV hG hP (ci := 2) rfl rfl rfl) rfl rfl hl.1 rfl (lv_room (Nat.le_of_ble_eq_true rfl)) dL_rules_422 ⟨Nat.le_of_ble_eq_true rfl, Nat.le_of_ble_eq_true rfl⟩) hS hP (rv45v) (fun H locs hP hS => ?_)
  refine lv_bipush (v := 9) hx hb dL_rules_425 (by decide) ?_
  refine lv_icmp_ne (tgt := 437) hx hb dL_rules_427 (by decide) (fun c9 => absurd (by decide) c9) (fun _ => ?_)
  exact KK H locs ls hP hD hS hl
set_option maxHeartbeats 8000000 in
set_option maxRecDepth 100000 in
theorem rules_6 {p : Program} {l : Launch} {e : Env} {s : State} {m : MethodId} {args : Array Value} {below : List Frame} {meth : Method} {c : Code} {Q : State → Prop} (hlt : l.stackTraces = false) {D : va_G} {cyI cyZ : ClassId} {ad : Nat → Nat} {A : Nat → Prop} (hx : p.tables.exec = Jvm.exec) (hb : c.code = cL_rules) (hml : c.maxLocals = 2) (hown : s.vm.findClass RL = some m.cls) (hts : ∀ w ∈ wsL_rules, w.before args s = true) (hG : gP D cyI cyZ s) (hz : zqA A s s.heap) (hn : zn s) (hA : ∀ q : Nat, s.heap.size ≤ q → A q)
    (KK : ∀ (H : Heap) (locs : List Loc) (ls : Array Slot), va_P D vwCl (wZ cyI cyZ ad rT10 rT38 rT35 rT37 rU7 rR33 rL32 0) H → va_D A (wZ cyI cyZ ad rT10 rT38 rT35 rT37 rU7 rR33 rL32 0) → va_S A s.heap H locs → lv_has ls 2 [(1, .int 4), (0, .ref (ad 0))] → W p l e (headSpec wsL_rules ({ frames := 11, cells := 740, slots := 6862, locals := 231 } : Room)).room s m args below meth c H locs 404 4846 Q (F0 m 524 ls [])) : ∀ (H : Heap) (locs : List Loc) (ls : Array Slot), va_P D vwCl (wZ cyI cyZ ad rT10 rT28 rT31 rT30 rU7 (fun _ => 0) rL32 1) H → va_D A (wZ cyI cyZ ad rT10 rT28 rT31 rT30 rU7 (fun _ => 0) rL32 1) → va_S A s.heap H locs → lv_has ls 2 [(1, .int 4), (0, .ref (ad 0))] → W p l e (headSpec wsL_rules ({ frames := 11, cells := 740, slots := 6862, locals := 231 } : Room)).room s m args below meth c H locs 212 3694 Q (F0 m 430 ls []) := by
  intro H locs ls hP hD hS hl
  refine lv_aload_n hx hb dL_rules_430 rfl (lv_at hl 1 rfl) ?_
  refine mo_i (va_runS (As := [.ref (ad 0)]) (rest := []) ⟨hx, hb, hml, hown, hts⟩ (k_L_agrees l hlt D cyI cyZ ad rT10 rT28 rT31 rT30 rU7 (fun _ => 0) rL32 1 _ _ rfl tI_rT10 tI_rT28 tI_rT31 rv43m.w rv46n) (va_cwS 1 hts gL_rules_L_agrees rfl rfl rfl (by decide +kernel) ⟨Nat.le_of_ble_eq_true rfl, Nat.le_of_ble_eq_true rfl⟩) (poS hG hz hn hP hD hS hA) rfl rfl hl.1 rfl (lv_room (Nat.le_of_ble_eq_true rfl)) dL_rules_431 ⟨Nat.le_of_ble_eq_true rfl, Nat.le_of_ble_eq_true rfl⟩) hD hS hA rfl wE.rf (fun H locs hP hD hS => ?_)
  refine W.widen (k := 404) (n := 4846) (Nat.le_of_ble_eq_true rfl) (Nat.le_of_ble_eq_true rfl) ?_
  refine lv_if_ne (tgt := 439) hx hb dL_rules_434 (by decide) (fun _ => ?_) (fun c9 => absurd c9 (by decide))
  refine lv_aload_n hx hb dL_rules_439 rfl (lv_at hl 1 rfl) ?_
  refine lv_iconst (v := 1) hx hb dL_rules_440 (by decide) ?_
  refine lv_iconst (v := 1) hx hb dL_rules_441 (by decide) ?_
  refine mo_i (va_runV (As := [.int 1, .int 1]) (rest := []) ⟨hx, hb, hml, hown, hts⟩ (k_X2_setReference l D cyI cyZ ad rT10 rT28 rT31 rT30 rU7 (fun _ => 0) rL32 1 1 1 _ _ rfl (Or.inr rfl) rv47x) (cwV 2 hts gL_rules_X2_setReference rfl rfl rfl (by decide +kernel) ⟨Nat.le_of_ble_eq_true rfl, Nat.le_of_ble_eq_true rfl⟩) (pmV hG hP hD (ci := 2) rfl rfl rfl) rfl rfl hl.1 rfl (lv_room (Nat.le_of_ble_eq_true rfl)) dL_rules_442 ⟨Nat.le_of_ble_eq_true rfl, Nat.le_of_ble_eq_true rfl⟩) hD hS hA (rv47v) (wE_z tE.rf tE.rf tE.rf tE.rf aE.rf rv47r lE.rf rv47f) (fun H locs hP hD hS => ?_)
  refine lv_if_eq (tgt := 676) hx hb dL_rules_445 (by decide) (fun c9 => absurd c9 (by decide)) (fun _ => ?_)
  refine lv_aload_n hx hb dL_rules_448 rfl (lv_at hl 1 rfl) ?_
  refine lv_iconst (v := 1) hx hb dL_rules_449 (by decide) ?_
  refine lv_iconst (v := 1) hx hb dL_rules_450 (by decide) ?_
  refine mo_i (va_runV (As := [.int 1, .int 1]) (rest := []) ⟨hx, hb, hml, hown, hts⟩ (k_X2_setReference l D cyI cyZ ad rT10 rT28 rT31 rT30 rU7 rR33 rL32 0 1 1 _ _ rfl (Or.inr rfl) rv48x) (cwV 2 hts gL_rules_X2_setReference rfl rfl rfl (by decide +kernel) ⟨Nat.le_of_ble_eq_true rfl, Nat.le_of_ble_eq_true rfl⟩) (pmV hG hP hD (ci := 2) rfl rfl rfl) rfl rfl hl.1 rfl (lv_room (Nat.le_of_ble_eq_true rfl)) dL_rules_451 ⟨Nat.le_of_ble_eq_true rfl, Nat.le_of_ble_eq_true rfl⟩) hD hS hA (rv48v) (wE_z tE.rf tE.rf tE.rf tE.rf aE.rf rv48r lE.rf rv48f) (fun H locs hP hD hS => ?_)
  refine lv_if_ne (tgt := 676) hx hb dL_rules_454 (by decide) (fun c9 => absurd (by decide) c9) (fun _ => ?_)
  refine lv_aload_n hx hb dL_rules_457 rfl (lv_at hl 1 rfl) ?_
  refine lv_iconst (v := 1) hx hb dL_rules_458 (by decide) ?_
  refine lv_iconst (v := 0) hx hb dL_rules_459 (by decide) ?_
  refine lv_iconst (v := 1) hx hb dL_rules_460 (by decide) ?_
  refine lv_iconst (v := (-1)) hx hb dL_rules_461 (by decide) ?_
  refine mo_i (va_runV (As := [.int 1, .int 0, .int 1, .int (-1)]) (rest := []) ⟨hx, hb, hml, hown, hts⟩ (k_X2_set l D cyI cyZ ad rT10 rT28 rT31 rT30 rU7 rR33 rL32 0 1 0 1 (-1) _ _ rfl rv49x) (cwV 4 hts gL_rules_X2_set rfl rfl rfl (by decide +kernel) ⟨Nat.le_of_ble_eq_true rfl, Nat.le_of_ble_eq_true rfl⟩) (pmV hG hP hD (ci := 2) rfl rfl rfl) rfl rfl hl.1 rfl (lv_room (Nat.le_of_ble_eq_true rfl)) dL_rules_462 ⟨Nat.le_of_ble_eq_true rfl, Nat.le_of_ble_eq_true rfl⟩) hD hS hA (rv49v) (wE_z rv49b rv49o rv49t tE.rf aE.rf aE.rf lE.rf rv49f) (fun H locs hP hD hS => ?_)
  refine lv_bipush (v := 21) hx hb dL_rules_465 (by decide) ?_
  refine lv_icmp_ne (tgt := 676) hx hb dL_rules_467 (by decide) (fun c9 => absurd (by decide) c9) (fun _ => ?_)
  refine lv_aload_n hx hb dL_rules_470 rfl (lv_at hl 1 rfl) ?_
  refine lv_iconst (v := 2) hx hb dL_rules_471 (by decide) ?_
  refine lv_iconst (v := 3) hx hb dL_rules_472 (by decide) ?_
  refine lv_iconst (v := 1) hx hb dL_rules_473 (by decide) ?_
  refine lv_bipush (v := 23) hx hb dL_rules_474 (by decide) ?_
  refine mo_i (va_runV (As := [.int 2, .int 3, .int 1, .int 23]) (rest := []) ⟨hx, hb, hml, hown, hts⟩ (k_X2_set l D cyI cyZ ad rT10 rT34 rT31 rT30 rU7 rR33 rL32 0 2 3 1 23 _ _ rfl rv50x) (cwV 4 hts gL_rules_X2_set rfl rfl rfl (by decide +kernel) ⟨Nat.le_of_ble_eq_true rfl, Nat.le_of_ble_eq_true rfl⟩) (pmV hG hP hD (ci := 2) rfl rfl rfl) rfl rfl hl.1 rfl (lv_room (Nat.le_of_ble_eq_true rfl)) dL_rules_476 ⟨Nat.le_of_ble_eq_true rfl, Nat.le_of_ble_eq_true rfl⟩) hD hS hA (rv50v) (wE_z rv50b rv50o rv50t tE.rf aE.rf aE.rf lE.rf rv50f) (fun H locs hP hD hS => ?_)
  refine lv_if_ne (tgt := 676) hx hb dL_rules_479 (by decide) (fun c9 => absurd (by decide) c9) (fun _ => ?_)
  refine lv_aload_n hx hb dL_rules_482 rfl (lv_at hl 1 rfl) ?_
  refine lv_iconst (v := 1) hx hb dL_rules_483 (by decide) ?_
  refine lv_iconst (v := 3) hx hb dL_rules_484 (by decide) ?_
  refine lv_iconst (v := 1) hx hb dL_rules_485 (by decide) ?_
  refine lv_bipush (v := 23) hx hb dL_rules_486 (by decide) ?_
  refine mo_i (va_runV (As := [.int 1, .int 3, .int 1, .int 23]) (rest := []) ⟨hx, hb, hml, hown, hts⟩ (k_X2_set l D cyI cyZ ad rT10 rT34 rT35 rT30 rU7 rR33 rL32 0 1 3 1 23 _ _ rfl rv51x) (cwV 4 hts gL_rules_X2_set rfl rfl rfl (by decide +kernel) ⟨Nat.le_of_ble_eq_true rfl, Nat.le_of_ble_eq_true rfl⟩) (pmV hG hP hD (ci := 2) rfl rfl rfl) rfl rfl hl.1 rfl (lv_room (Nat.le_of_ble_eq_true rfl)) dL_rules_488 ⟨Nat.le_of_ble_eq_true rfl, Nat.le_of_ble_eq_true rfl⟩) hD hS hA (rv51v) (wE_z rv51b rv51o rv51t tE.rf aE.rf aE.rf lE.rf rv51f) (fun H locs hP hD hS => ?_)
  refine lv_if_ne (tgt := 676) hx hb dL_rules_491 (by decide) (fun c9 => absurd (by decide) c9) (fun _ => ?_)
  refine lv_aload_n hx hb dL_rules_494 rfl (lv_at hl 1 rfl) ?_
  refine mo_i (va_runV (As := []) (rest := []) ⟨hx, hb, hml, hown, hts⟩ (k_X2_merge l D cyI cyZ ad rT10 rT36 rT35 rT30 rU7 rR33 rL32 0 _ _ rfl) (cwV 0 hts gL_rules_X2_merge rfl rfl rfl (by decide +kernel) ⟨Nat.le_of_ble_eq_true rfl, Nat.le_of_ble_eq_true rfl⟩) (pmV hG hP hD (ci := 2) rfl rfl rfl) rfl rfl hl.1 rfl (lv_room (Nat.le_of_ble_eq_true rfl)) dL_rules_495 ⟨Nat.le_of_ble_eq_true rfl, Nat.le_of_ble_eq_true rfl⟩) hD hS hA (rv52v) (wE_z tE.rf tE.rf tE.rf rv52q.2.1 aE.rf aE.rf rv52l rv52q.2.2.2) (fun H locs hP hD hS => ?_)
  refine lv_iconst (v := 2) hx hb dL_rules_498 (by decide) ?_
  refine lv_icmp_ne (tgt := 676) hx hb dL_rules_499 (by decide) (fun c9 => absurd (by decide) c9) (fun _ => ?_)
  refine lv_aload_n hx hb dL_rules_502 rfl (lv_at hl 1 rfl) ?_
  refine lv_iconst (v := 3) hx hb dL_rules_503 (by decide) ?_
  refine lv_iconst (v := 0) hx hb dL_rules_504 (by decide) ?_
  refine lv_iconst (v := 1) hx hb dL_rules_505 (by decide) ?_
  refine po_i (va_runV (As := [.int 3, .int 0, .int 1]) (rest := []) ⟨hx, hb, hml, hown, hts⟩ (k_X2_get l D cyI cyZ ad rT10 rT36 rT35 rT37 rU7 rR33 rL32 1 3 0 1 rv53x) (cwV 3 hts gL_rules_X2_get rfl rfl rfl (by decide +kernel) ⟨Nat.le_of_ble_eq_true rfl, Nat.le_of_ble_eq_true rfl⟩) (prV hG hP (ci := 2) rfl rfl rfl) rfl rfl hl.1 rfl (lv_room (Nat.le_of_ble_eq_true rfl)) dL_rules_506 ⟨Nat.le_of_ble_eq_true rfl, Nat.le_of_ble_eq_true rfl⟩) hS hP (rv53v) (fun H locs hP hS => ?_)
  refine lv_iconst (v := (-1)) hx hb dL_rules_509 (by decide) ?_
  refine lv_icmp_ne (tgt := 676) hx hb dL_rules_510 (by decide) (fun c9 => absurd (by decide) c9) (fun _ => ?_)
  refine lv_aload_n hx hb dL_rules_513 rfl (lv_at hl 1 rfl) ?_
  refine lv_iconst (v := 1) hx hb dL_rules_514 (by decide) ?_
  refine lv_bipush (v := 23) hx hb dL_rules_515 (by decide) ?_
  refine mo_i (va_runV (As := [.int 1, .int 23]) (rest := []) ⟨hx, hb, hml, hown, hts⟩ (k_X2_removeRow l D cyI cyZ ad rT10 rT36 rT35 rT37 rU7 rR33 rL32 1 1 23 _ _ rfl rv54x) (cwV 2 hts gL_rules_X2_removeRow rfl rfl rfl (by decide +kernel) ⟨Nat.le_of_ble_eq_true rfl, Nat.le_of_ble_eq_true rfl⟩) (pmV hG hP hD (ci := 2) rfl rfl rfl) rfl rfl hl.1 rfl (lv_room (Nat.le_of_ble_eq_true rfl)) dL_rules_517 ⟨Nat.le_of_ble_eq_true rfl, Nat.le_of_ble_eq_true rfl⟩) hD hS hA (rv54v) (wE_z rv54b rv54o rv54t tE.rf aE.rf aE.rf lE.rf rv54f) (fun H locs hP hD hS => ?_)
  refine lv_iconst (v := 2) hx hb dL_rules_520 (by decide) ?_
  refine lv_icmp_ne (tgt := 676) hx hb dL_rules_521 (by decide) (fun c9 => absurd (by decide) c9) (fun _ => ?_)
  exact KK H locs ls hP hD hS hl
