set_option maxHeartbeats 4000000 in
set_option maxRecDepth 100000 in
theorem lw_set {p : Program} {l : Launch} {e : Env} {s : State} {m : MethodId} {below : List Frame} {meth : Method} {c : Code} {b L : Nat} {xs : Nat → Int32} (C0 : lw_At p s m meth c b L xs) (hlt : l.stackTraces = false) {D : va_G} {cyI cyZ cyJ : ClassId} (hG : gL D cyI cyZ cyJ s) (hz : zq s) (hn : zn s) {ad am : Nat → Nat} {oo j : Nat} (hL : L ≤ 2560) (hj : 5 * j + 5 ≤ L) (KK : lwK p l e s m below meth c b D cyI cyZ cyJ ad am oo j) {zb : Tr} {zo : Tr} {zt : Tr} {zm : Tr} {zu : Nat → Int32} {zr : Nat → Int32} {zl : Lr} {zf : Int32} {mc : Nat → Int32} {mw : Nat → Int32} {mn : Nat → Int32} {me : Nat → Int32} {mu : Nat → Int32} {mr : Nat → Int32} {mz : Kr} {mf : Int32} {mt : Int32} {go : Nat → Int64} (R : Rl zb zo zt zm zu zr zl zf mc mw mn me mu mr mz mf) {H : Heap} {locs : List Loc} {ls : Array Slot} (hP : va_P D vwCl (wA cyI cyZ cyJ ad zb zo zt zm zu zr zl zf oo go am mc mw mn me mu mr mz mf mt) H) (hD : va_D (fun q : Nat => s.heap.size ≤ q) (wA cyI cyZ cyJ ad zb zo zt zm zu zr zl zf oo go am mc mw mn me mu mr mz mf mt)) (hS : va_S (fun q : Nat => s.heap.size ≤ q) s.heap H locs) (hl : lv_has ls 7 [(0, .ref b), (1, .ref (ad 0)), (2, .ref (am 0)), (3, .ref oo), (4, .int (nI (5 * j)))]) : W p l e room_1 s m #[Value.ref b] below meth c H locs (32 + j) (5140 + 6 * j) (lw_Z below #[Value.ref b] s) (F0 m 508 ls []) := by
  obtain ⟨hx, hb, hr, hml, hown, hts, hX, hbl, hlocks, hgv⟩ := C0
  have htl : ∀ w ∈ wsL_law, w.before #[Value.ref b] s = true := fun w h => hts w (wsL_law_in w h)
  have hA : ∀ q : Nat, s.heap.size ≤ q → (fun q : Nat => s.heap.size ≤ q) q := fun _ h => h
  have hbA : ¬ (fun q : Nat => s.heap.size ≤ q) b := Nat.not_le.mpr hbl
  have hv1 : vp_in (nI (5 * j) + 1) L := by rw [show (1 : Int32) = nI 1 from rfl, nI_add]; exact vp_in_nI (by omega) (by omega)
  have hv2 : vp_in (nI (5 * j) + 2) L := by rw [show (2 : Int32) = nI 2 from rfl, nI_add]; exact vp_in_nI (by omega) (by omega)
  have hv3 : vp_in (nI (5 * j) + 3) L := by rw [show (3 : Int32) = nI 3 from rfl, nI_add]; exact vp_in_nI (by omega) (by omega)
  have hv4 : vp_in (nI (5 * j) + 4) L := by rw [show (4 : Int32) = nI 4 from rfl, nI_add]; exact vp_in_nI (by omega) (by omega)
  rcases s_set R (xs ((nI (5 * j)) + 1).toNatClampNeg) (xs ((nI (5 * j)) + 2).toNatClampNeg) (xs ((nI (5 * j)) + 3).toNatClampNeg) (xs ((nI (5 * j)) + 4).toNatClampNeg) with ⟨eX, eT, eA, R'⟩ | ⟨eX0, eT, R'⟩
  · have eC : lg_cmp ((vp_updL go (0 : Int32).toNatClampNeg ((f_X2_set zb zo zt zf (xs ((nI (5 * j)) + 1).toNatClampNeg) (xs ((nI (5 * j)) + 2).toNatClampNeg) (xs ((nI (5 * j)) + 3).toNatClampNeg) (xs ((nI (5 * j)) + 4).toNatClampNeg)).1).toInt64) (0 : Int32).toNatClampNeg) (((f_X3_set mc mw me mf (xs ((nI (5 * j)) + 1).toNatClampNeg) (xs ((nI (5 * j)) + 2).toNatClampNeg) (xs ((nI (5 * j)) + 3).toNatClampNeg) (xs ((nI (5 * j)) + 4).toNatClampNeg)).1).toInt64) = 0 := by rw [pk_uLs, eA]; exact lg_self _
    refine lv_aload_n hx hb dL_law_508 rfl (lv_at hl 1 rfl) ?_
    refine lv_aload_n hx hb dL_law_509 rfl (lv_at hl 0 rfl) ?_
    refine lv_iload hx hb dL_law_510 (lv_at hl 4 rfl) ?_
    refine lv_iconst (v := 1) hx hb dL_law_512 (by decide) ?_
    refine lv_iadd hx hb dL_law_513 ?_
    refine va_sld hx hb hX hbl hbA hS hv1 dL_law_514 ?_
    refine lv_aload_n hx hb dL_law_515 rfl (lv_at hl 0 rfl) ?_
    refine lv_iload hx hb dL_law_516 (lv_at hl 4 rfl) ?_
    refine lv_iconst (v := 2) hx hb dL_law_518 (by decide) ?_
    refine lv_iadd hx hb dL_law_519 ?_
    refine va_sld hx hb hX hbl hbA hS hv2 dL_law_520 ?_
    refine lv_aload_n hx hb dL_law_521 rfl (lv_at hl 0 rfl) ?_
    refine lv_iload hx hb dL_law_522 (lv_at hl 4 rfl) ?_
    refine lv_iconst (v := 3) hx hb dL_law_524 (by decide) ?_
    refine lv_iadd hx hb dL_law_525 ?_
    refine va_sld hx hb hX hbl hbA hS hv3 dL_law_526 ?_
    refine lv_aload_n hx hb dL_law_527 rfl (lv_at hl 0 rfl) ?_
    refine lv_iload hx hb dL_law_528 (lv_at hl 4 rfl) ?_
    refine lv_iconst (v := 4) hx hb dL_law_530 (by decide) ?_
    refine lv_iadd hx hb dL_law_531 ?_
    refine va_sld hx hb hX hbl hbA hS hv4 dL_law_532 ?_
    refine lv_aload_n hx hb dL_law_533 rfl (lv_at hl 3 rfl) ?_
    refine mr_iG (vx_runSW (As := [.ref (ad 0), .int (xs ((nI (5 * j)) + 1).toNatClampNeg), .int (xs ((nI (5 * j)) + 2).toNatClampNeg), .int (xs ((nI (5 * j)) + 3).toNatClampNeg), .int (xs ((nI (5 * j)) + 4).toNatClampNeg), .ref oo]) (rest := []) ⟨hx, hb, hml, hown, htl⟩ (k_L_set l D cyI cyZ cyJ ad oo zb zo zt zm zu zr zl zf go (xs ((nI (5 * j)) + 1).toNatClampNeg) (xs ((nI (5 * j)) + 2).toNatClampNeg) (xs ((nI (5 * j)) + 3).toNatClampNeg) (xs ((nI (5 * j)) + 4).toNatClampNeg) _ _ rfl eX) (vx_cwSW 6 htl gL_law_L_set rfl rfl rfl (by decide +kernel) ⟨Nat.le_of_ble_eq_true rfl, Nat.le_of_ble_eq_true rfl⟩) (poS hG (hz.kept2 hS) hn (hP.sub (ws' := wO cyI cyZ cyJ ad zb zo zt zm zu zr zl zf oo go) [0, 1, 2, 3, 4, 5, 6, 7, 8, 9, 10, 11, 12, 13, 14, 15, 16, 17, 18, 19, 20] rfl) (hD.sub (ws' := wO cyI cyZ cyJ ad zb zo zt zm zu zr zl zf oo go) [0, 1, 2, 3, 4, 5, 6, 7, 8, 9, 10, 11, 12, 13, 14, 15, 16, 17, 18, 19, 20] (by decide) rfl)) rfl rfl hl.1 rfl (lv_room (Nat.le_of_ble_eq_true rfl)) dL_law_534 ⟨by show 32 + j + 0 ≤ 1073; omega, by show 5140 + 6 * j + 0 ≤ 13434; omega⟩) hP hD hS hA [0, 1, 2, 3, 4, 5, 6, 7, 8, 9, 10, 11, 12, 13, 14, 15, 16, 17, 18, 19, 20] [21, 22, 23, 24, 25, 26, 27, 28, 29, 30, 31] [11, 12, 13, 14, 15, 16, 17, 18, 19, 20, 21, 22, 23, 24, 25, 26, 27, 28, 29, 30, 31, 0, 1, 2, 3, 4, 5, 6, 7, 8, 9, 10] rfl rfl (by decide) (by decide) (by decide) (w2 := wA cyI cyZ cyJ ad (f_X2_set zb zo zt zf (xs ((nI (5 * j)) + 1).toNatClampNeg) (xs ((nI (5 * j)) + 2).toNatClampNeg) (xs ((nI (5 * j)) + 3).toNatClampNeg) (xs ((nI (5 * j)) + 4).toNatClampNeg)).2.1 (f_X2_set zb zo zt zf (xs ((nI (5 * j)) + 1).toNatClampNeg) (xs ((nI (5 * j)) + 2).toNatClampNeg) (xs ((nI (5 * j)) + 3).toNatClampNeg) (xs ((nI (5 * j)) + 4).toNatClampNeg)).2.2.1 (f_X2_set zb zo zt zf (xs ((nI (5 * j)) + 1).toNatClampNeg) (xs ((nI (5 * j)) + 2).toNatClampNeg) (xs ((nI (5 * j)) + 3).toNatClampNeg) (xs ((nI (5 * j)) + 4).toNatClampNeg)).2.2.2.1 zm zu zr zl (f_X2_set zb zo zt zf (xs ((nI (5 * j)) + 1).toNatClampNeg) (xs ((nI (5 * j)) + 2).toNatClampNeg) (xs ((nI (5 * j)) + 3).toNatClampNeg) (xs ((nI (5 * j)) + 4).toNatClampNeg)).2.2.2.2 oo (vp_updL go (0 : Int32).toNatClampNeg ((f_X2_set zb zo zt zf (xs ((nI (5 * j)) + 1).toNatClampNeg) (xs ((nI (5 * j)) + 2).toNatClampNeg) (xs ((nI (5 * j)) + 3).toNatClampNeg) (xs ((nI (5 * j)) + 4).toNatClampNeg)).1).toInt64) am mc mw mn me mu mr mz mf mt) rfl (fun H locs hP hD hS => ?_)
    have hP : va_P D vwCl (wA cyI cyZ cyJ ad (f_X2_set zb zo zt zf (xs ((nI (5 * j)) + 1).toNatClampNeg) (xs ((nI (5 * j)) + 2).toNatClampNeg) (xs ((nI (5 * j)) + 3).toNatClampNeg) (xs ((nI (5 * j)) + 4).toNatClampNeg)).2.1 (f_X2_set zb zo zt zf (xs ((nI (5 * j)) + 1).toNatClampNeg) (xs ((nI (5 * j)) + 2).toNatClampNeg) (xs ((nI (5 * j)) + 3).toNatClampNeg) (xs ((nI (5 * j)) + 4).toNatClampNeg)).2.2.1 (f_X2_set zb zo zt zf (xs ((nI (5 * j)) + 1).toNatClampNeg) (xs ((nI (5 * j)) + 2).toNatClampNeg) (xs ((nI (5 * j)) + 3).toNatClampNeg) (xs ((nI (5 * j)) + 4).toNatClampNeg)).2.2.2.1 zm zu zr zl (f_X2_set zb zo zt zf (xs ((nI (5 * j)) + 1).toNatClampNeg) (xs ((nI (5 * j)) + 2).toNatClampNeg) (xs ((nI (5 * j)) + 3).toNatClampNeg) (xs ((nI (5 * j)) + 4).toNatClampNeg)).2.2.2.2 oo (vp_updL go (0 : Int32).toNatClampNeg ((f_X2_set zb zo zt zf (xs ((nI (5 * j)) + 1).toNatClampNeg) (xs ((nI (5 * j)) + 2).toNatClampNeg) (xs ((nI (5 * j)) + 3).toNatClampNeg) (xs ((nI (5 * j)) + 4).toNatClampNeg)).1).toInt64) am mc mw mn me mu mr mz mf mt) H := hP
    have hD : va_D (fun q : Nat => s.heap.size ≤ q) (wA cyI cyZ cyJ ad (f_X2_set zb zo zt zf (xs ((nI (5 * j)) + 1).toNatClampNeg) (xs ((nI (5 * j)) + 2).toNatClampNeg) (xs ((nI (5 * j)) + 3).toNatClampNeg) (xs ((nI (5 * j)) + 4).toNatClampNeg)).2.1 (f_X2_set zb zo zt zf (xs ((nI (5 * j)) + 1).toNatClampNeg) (xs ((nI (5 * j)) + 2).toNatClampNeg) (xs ((nI (5 * j)) + 3).toNatClampNeg) (xs ((nI (5 * j)) + 4).toNatClampNeg)).2.2.1 (f_X2_set zb zo zt zf (xs ((nI (5 * j)) + 1).toNatClampNeg) (xs ((nI (5 * j)) + 2).toNatClampNeg) (xs ((nI (5 * j)) + 3).toNatClampNeg) (xs ((nI (5 * j)) + 4).toNatClampNeg)).2.2.2.1 zm zu zr zl (f_X2_set zb zo zt zf (xs ((nI (5 * j)) + 1).toNatClampNeg) (xs ((nI (5 * j)) + 2).toNatClampNeg) (xs ((nI (5 * j)) + 3).toNatClampNeg) (xs ((nI (5 * j)) + 4).toNatClampNeg)).2.2.2.2 oo (vp_updL go (0 : Int32).toNatClampNeg ((f_X2_set zb zo zt zf (xs ((nI (5 * j)) + 1).toNatClampNeg) (xs ((nI (5 * j)) + 2).toNatClampNeg) (xs ((nI (5 * j)) + 3).toNatClampNeg) (xs ((nI (5 * j)) + 4).toNatClampNeg)).1).toInt64) am mc mw mn me mu mr mz mf mt) := hD
    refine W.widen (k := 32 + j + 1) (n := 5140 + 6 * j + 6) (by omega) (by omega) ?_
    refine lv_istore (lv' := [(5, .int 0), (0, .ref b), (1, .ref (ad 0)), (2, .ref (am 0)), (3, .ref oo), (4, .int (nI (5 * j)))]) hx hb dL_law_537 hl (by decide) rfl (fun ls hl => ?_)
    refine lv_aload_n hx hb dL_law_539 rfl (lv_at hl 3 rfl) ?_
    refine lv_aload_n hx hb dL_law_540 rfl (lv_at hl 1 rfl) ?_
    refine lv_iload hx hb dL_law_541 (lv_at hl 5 rfl) ?_
    refine lv_iconst (v := 1) hx hb dL_law_543 (by decide) ?_
    refine lv_iadd hx hb dL_law_544 ?_
    refine va_sld hx hb hX hbl hbA hS hv1 dL_law_545 ?_
    refine lv_aload_n hx hb dL_law_546 rfl (lv_at hl 1 rfl) ?_
    refine lv_iload hx hb dL_law_547 (lv_at hl 5 rfl) ?_
    refine lv_iconst (v := 2) hx hb dL_law_549 (by decide) ?_
    refine lv_iadd hx hb dL_law_550 ?_
    refine va_sld hx hb hX hbl hbA hS hv2 dL_law_551 ?_
    refine lv_aload_n hx hb dL_law_552 rfl (lv_at hl 1 rfl) ?_
    refine lv_iload hx hb dL_law_553 (lv_at hl 5 rfl) ?_
    refine lv_iconst (v := 3) hx hb dL_law_555 (by decide) ?_
    refine lv_iadd hx hb dL_law_556 ?_
    refine va_sld hx hb hX hbl hbA hS hv3 dL_law_557 ?_
    refine lv_aload_n hx hb dL_law_558 rfl (lv_at hl 1 rfl) ?_
    refine lv_iload hx hb dL_law_559 (lv_at hl 5 rfl) ?_
    refine lv_iconst (v := 4) hx hb dL_law_561 (by decide) ?_
    refine lv_iadd hx hb dL_law_562 ?_
    refine va_sld hx hb hX hbl hbA hS hv4 dL_law_563 ?_
    refine mr_iG (va_runV (As := [.int (xs ((nI (5 * j)) + 1).toNatClampNeg), .int (xs ((nI (5 * j)) + 2).toNatClampNeg), .int (xs ((nI (5 * j)) + 3).toNatClampNeg), .int (xs ((nI (5 * j)) + 4).toNatClampNeg)]) (rest := []) ⟨hx, hb, hml, hown, htl⟩ (k_X3_set l D cyI cyZ am mc mw mn me mu mr mz mf mt (xs ((nI (5 * j)) + 1).toNatClampNeg) (xs ((nI (5 * j)) + 2).toNatClampNeg) (xs ((nI (5 * j)) + 3).toNatClampNeg) (xs ((nI (5 * j)) + 4).toNatClampNeg) _ _ rfl) (cwV 4 htl gL_law_X3_set rfl rfl rfl (by decide +kernel) ⟨Nat.le_of_ble_eq_true rfl, Nat.le_of_ble_eq_true rfl⟩) (pmV hG.1 (hP.sub (ws' := wN cyI cyZ am mc mw mn me mu mr mz mf mt) [21, 22, 23, 24, 25, 26, 27, 28, 29, 30, 31] rfl) (hD.sub (ws' := wN cyI cyZ am mc mw mn me mu mr mz mf mt) [21, 22, 23, 24, 25, 26, 27, 28, 29, 30, 31] (by decide) rfl) (ci := 3) rfl rfl rfl) rfl rfl hl.1 rfl (lv_room (Nat.le_of_ble_eq_true rfl)) dL_law_564 ⟨by show 32 + j + 1 + 0 ≤ 1073; omega, by show 5140 + 6 * j + 6 + 0 ≤ 13434; omega⟩) hP hD hS hA [21, 22, 23, 24, 25, 26, 27, 28, 29, 30, 31] [0, 1, 2, 3, 4, 5, 6, 7, 8, 9, 10, 11, 12, 13, 14, 15, 16, 17, 18, 19, 20] [0, 1, 2, 3, 4, 5, 6, 7, 8, 9, 10, 11, 12, 13, 14, 15, 16, 17, 18, 19, 20, 21, 22, 23, 24, 25, 26, 27, 28, 29, 30, 31] rfl rfl (by decide) (by decide) (by decide) (w2 := wA cyI cyZ cyJ ad (f_X2_set zb zo zt zf (xs ((nI (5 * j)) + 1).toNatClampNeg) (xs ((nI (5 * j)) + 2).toNatClampNeg) (xs ((nI (5 * j)) + 3).toNatClampNeg) (xs ((nI (5 * j)) + 4).toNatClampNeg)).2.1 (f_X2_set zb zo zt zf (xs ((nI (5 * j)) + 1).toNatClampNeg) (xs ((nI (5 * j)) + 2).toNatClampNeg) (xs ((nI (5 * j)) + 3).toNatClampNeg) (xs ((nI (5 * j)) + 4).toNatClampNeg)).2.2.1 (f_X2_set zb zo zt zf (xs ((nI (5 * j)) + 1).toNatClampNeg) (xs ((nI (5 * j)) + 2).toNatClampNeg) (xs ((nI (5 * j)) + 3).toNatClampNeg) (xs ((nI (5 * j)) + 4).toNatClampNeg)).2.2.2.1 zm zu zr zl (f_X2_set zb zo zt zf (xs ((nI (5 * j)) + 1).toNatClampNeg) (xs ((nI (5 * j)) + 2).toNatClampNeg) (xs ((nI (5 * j)) + 3).toNatClampNeg) (xs ((nI (5 * j)) + 4).toNatClampNeg)).2.2.2.2 oo (vp_updL go (0 : Int32).toNatClampNeg ((f_X2_set zb zo zt zf (xs ((nI (5 * j)) + 1).toNatClampNeg) (xs ((nI (5 * j)) + 2).toNatClampNeg) (xs ((nI (5 * j)) + 3).toNatClampNeg) (xs ((nI (5 * j)) + 4).toNatClampNeg)).1).toInt64) am mc mw mn (f_X3_set mc mw me mf (xs ((nI (5 * j)) + 1).toNatClampNeg) (xs ((nI (5 * j)) + 2).toNatClampNeg) (xs ((nI (5 * j)) + 3).toNatClampNeg) (xs ((nI (5 * j)) + 4).toNatClampNeg)).2.1 mu mr mz (f_X3_set mc mw me mf (xs ((nI (5 * j)) + 1).toNatClampNeg) (xs ((nI (5 * j)) + 2).toNatClampNeg) (xs ((nI (5 * j)) + 3).toNatClampNeg) (xs ((nI (5 * j)) + 4).toNatClampNeg)).2.2.1 (f_X3_set mc mw me mf (xs ((nI (5 * j)) + 1).toNatClampNeg) (xs ((nI (5 * j)) + 2).toNatClampNeg) (xs ((nI (5 * j)) + 3).toNatClampNeg) (xs ((nI (5 * j)) + 4).toNatClampNeg)).2.2.2) rfl (fun H locs hP hD hS => ?_)
    have hP : va_P D vwCl (wA cyI cyZ cyJ ad (f_X2_set zb zo zt zf (xs ((nI (5 * j)) + 1).toNatClampNeg) (xs ((nI (5 * j)) + 2).toNatClampNeg) (xs ((nI (5 * j)) + 3).toNatClampNeg) (xs ((nI (5 * j)) + 4).toNatClampNeg)).2.1 (f_X2_set zb zo zt zf (xs ((nI (5 * j)) + 1).toNatClampNeg) (xs ((nI (5 * j)) + 2).toNatClampNeg) (xs ((nI (5 * j)) + 3).toNatClampNeg) (xs ((nI (5 * j)) + 4).toNatClampNeg)).2.2.1 (f_X2_set zb zo zt zf (xs ((nI (5 * j)) + 1).toNatClampNeg) (xs ((nI (5 * j)) + 2).toNatClampNeg) (xs ((nI (5 * j)) + 3).toNatClampNeg) (xs ((nI (5 * j)) + 4).toNatClampNeg)).2.2.2.1 zm zu zr zl (f_X2_set zb zo zt zf (xs ((nI (5 * j)) + 1).toNatClampNeg) (xs ((nI (5 * j)) + 2).toNatClampNeg) (xs ((nI (5 * j)) + 3).toNatClampNeg) (xs ((nI (5 * j)) + 4).toNatClampNeg)).2.2.2.2 oo (vp_updL go (0 : Int32).toNatClampNeg ((f_X2_set zb zo zt zf (xs ((nI (5 * j)) + 1).toNatClampNeg) (xs ((nI (5 * j)) + 2).toNatClampNeg) (xs ((nI (5 * j)) + 3).toNatClampNeg) (xs ((nI (5 * j)) + 4).toNatClampNeg)).1).toInt64) am mc mw mn (f_X3_set mc mw me mf (xs ((nI (5 * j)) + 1).toNatClampNeg) (xs ((nI (5 * j)) + 2).toNatClampNeg) (xs ((nI (5 * j)) + 3).toNatClampNeg) (xs ((nI (5 * j)) + 4).toNatClampNeg)).2.1 mu mr mz (f_X3_set mc mw me mf (xs ((nI (5 * j)) + 1).toNatClampNeg) (xs ((nI (5 * j)) + 2).toNatClampNeg) (xs ((nI (5 * j)) + 3).toNatClampNeg) (xs ((nI (5 * j)) + 4).toNatClampNeg)).2.2.1 (f_X3_set mc mw me mf (xs ((nI (5 * j)) + 1).toNatClampNeg) (xs ((nI (5 * j)) + 2).toNatClampNeg) (xs ((nI (5 * j)) + 3).toNatClampNeg) (xs ((nI (5 * j)) + 4).toNatClampNeg)).2.2.2) H := hP
    have hD : va_D (fun q : Nat => s.heap.size ≤ q) (wA cyI cyZ cyJ ad (f_X2_set zb zo zt zf (xs ((nI (5 * j)) + 1).toNatClampNeg) (xs ((nI (5 * j)) + 2).toNatClampNeg) (xs ((nI (5 * j)) + 3).toNatClampNeg) (xs ((nI (5 * j)) + 4).toNatClampNeg)).2.1 (f_X2_set zb zo zt zf (xs ((nI (5 * j)) + 1).toNatClampNeg) (xs ((nI (5 * j)) + 2).toNatClampNeg) (xs ((nI (5 * j)) + 3).toNatClampNeg) (xs ((nI (5 * j)) + 4).toNatClampNeg)).2.2.1 (f_X2_set zb zo zt zf (xs ((nI (5 * j)) + 1).toNatClampNeg) (xs ((nI (5 * j)) + 2).toNatClampNeg) (xs ((nI (5 * j)) + 3).toNatClampNeg) (xs ((nI (5 * j)) + 4).toNatClampNeg)).2.2.2.1 zm zu zr zl (f_X2_set zb zo zt zf (xs ((nI (5 * j)) + 1).toNatClampNeg) (xs ((nI (5 * j)) + 2).toNatClampNeg) (xs ((nI (5 * j)) + 3).toNatClampNeg) (xs ((nI (5 * j)) + 4).toNatClampNeg)).2.2.2.2 oo (vp_updL go (0 : Int32).toNatClampNeg ((f_X2_set zb zo zt zf (xs ((nI (5 * j)) + 1).toNatClampNeg) (xs ((nI (5 * j)) + 2).toNatClampNeg) (xs ((nI (5 * j)) + 3).toNatClampNeg) (xs ((nI (5 * j)) + 4).toNatClampNeg)).1).toInt64) am mc mw mn (f_X3_set mc mw me mf (xs ((nI (5 * j)) + 1).toNatClampNeg) (xs ((nI (5 * j)) + 2).toNatClampNeg) (xs ((nI (5 * j)) + 3).toNatClampNeg) (xs ((nI (5 * j)) + 4).toNatClampNeg)).2.1 mu mr mz (f_X3_set mc mw me mf (xs ((nI (5 * j)) + 1).toNatClampNeg) (xs ((nI (5 * j)) + 2).toNatClampNeg) (xs ((nI (5 * j)) + 3).toNatClampNeg) (xs ((nI (5 * j)) + 4).toNatClampNeg)).2.2.1 (f_X3_set mc mw me mf (xs ((nI (5 * j)) + 1).toNatClampNeg) (xs ((nI (5 * j)) + 2).toNatClampNeg) (xs ((nI (5 * j)) + 3).toNatClampNeg) (xs ((nI (5 * j)) + 4).toNatClampNeg)).2.2.2) := hD
    refine lv_istore (lv' := [(6, .int ((f_X3_set mc mw me mf (xs ((nI (5 * j)) + 1).toNatClampNeg) (xs ((nI (5 * j)) + 2).toNatClampNeg) (xs ((nI (5 * j)) + 3).toNatClampNeg) (xs ((nI (5 * j)) + 4).toNatClampNeg)).1)), (5, .int 0), (0, .ref b), (1, .ref (ad 0)), (2, .ref (am 0)), (3, .ref oo), (4, .int (nI (5 * j)))]) hx hb dL_law_567 hl (by decide) rfl (fun ls hl => ?_)
    refine lv_aload_n hx hb dL_law_569 rfl (lv_at hl 4 rfl) ?_
    refine pr_i (va_runV (As := []) (rest := []) ⟨hx, hb, hml, hown, htl⟩ (k_X3_thrown l D cyI cyZ am mc mw mn ((f_X3_set mc mw me mf (xs ((nI (5 * j)) + 1).toNatClampNeg) (xs ((nI (5 * j)) + 2).toNatClampNeg) (xs ((nI (5 * j)) + 3).toNatClampNeg) (xs ((nI (5 * j)) + 4).toNatClampNeg)).2.1) mu mr mz ((f_X3_set mc mw me mf (xs ((nI (5 * j)) + 1).toNatClampNeg) (xs ((nI (5 * j)) + 2).toNatClampNeg) (xs ((nI (5 * j)) + 3).toNatClampNeg) (xs ((nI (5 * j)) + 4).toNatClampNeg)).2.2.1) ((f_X3_set mc mw me mf (xs ((nI (5 * j)) + 1).toNatClampNeg) (xs ((nI (5 * j)) + 2).toNatClampNeg) (xs ((nI (5 * j)) + 3).toNatClampNeg) (xs ((nI (5 * j)) + 4).toNatClampNeg)).2.2.2)) (cwV 0 htl gL_law_X3_thrown rfl rfl rfl (by decide +kernel) ⟨Nat.le_of_ble_eq_true rfl, Nat.le_of_ble_eq_true rfl⟩) (prV hG.1 (hP.sub (ws' := wN cyI cyZ am mc mw mn ((f_X3_set mc mw me mf (xs ((nI (5 * j)) + 1).toNatClampNeg) (xs ((nI (5 * j)) + 2).toNatClampNeg) (xs ((nI (5 * j)) + 3).toNatClampNeg) (xs ((nI (5 * j)) + 4).toNatClampNeg)).2.1) mu mr mz ((f_X3_set mc mw me mf (xs ((nI (5 * j)) + 1).toNatClampNeg) (xs ((nI (5 * j)) + 2).toNatClampNeg) (xs ((nI (5 * j)) + 3).toNatClampNeg) (xs ((nI (5 * j)) + 4).toNatClampNeg)).2.2.1) ((f_X3_set mc mw me mf (xs ((nI (5 * j)) + 1).toNatClampNeg) (xs ((nI (5 * j)) + 2).toNatClampNeg) (xs ((nI (5 * j)) + 3).toNatClampNeg) (xs ((nI (5 * j)) + 4).toNatClampNeg)).2.2.2)) [21, 22, 23, 24, 25, 26, 27, 28, 29, 30, 31] rfl) (ci := 3) rfl rfl rfl) rfl rfl hl.1 rfl (lv_room (Nat.le_of_ble_eq_true rfl)) dL_law_570 ⟨by show 32 + j + 1 + 0 ≤ 1073; omega, by show 5140 + 6 * j + 6 + 0 ≤ 13434; omega⟩) hS hP (fun H locs hP hS => ?_)
    refine lv_iload hx hb dL_law_573 (lv_at hl 1 rfl) ?_
    refine lv_icmp_eq (tgt := 580) hx hb dL_law_575 (by decide) (fun c9 => ?_) (fun c9 => ?_)
    · refine lv_iload hx hb dL_law_580 (lv_at hl 1 rfl) ?_
      refine lv_if_ne (tgt := 597) hx hb dL_law_582 (by decide) (fun c9 => ?_) (fun c9 => ?_)
      · exact absurd (rfl) c9
      · refine lv_aload_n hx hb dL_law_585 rfl (lv_at hl 5 rfl) ?_
        refine lv_iconst (v := 0) hx hb dL_law_586 (by decide) ?_
        refine va_lald hx hb hG.2 hP 20 0 rfl rfl (vp_in_nI (n := 0) (by decide) (by decide)) dL_law_587 ?_
        refine lv_iload hx hb dL_law_588 (lv_at hl 0 rfl) ?_
        refine lv_i2l (v := ((f_X3_set mc mw me mf (xs ((nI (5 * j)) + 1).toNatClampNeg) (xs ((nI (5 * j)) + 2).toNatClampNeg) (xs ((nI (5 * j)) + 3).toNatClampNeg) (xs ((nI (5 * j)) + 4).toNatClampNeg)).1).toInt64) hx hb dL_law_590 rfl ?_
        refine W.lcmp hx hb dL_law_591 ?_
        refine lv_if_eq (tgt := 597) hx hb dL_law_592 (by decide) (fun c9 => ?_) (fun c9 => ?_)
        · refine lv_goto (tgt := 1475) hx hb dL_law_597 (by decide) ?_
          exact KK ((f_X2_set zb zo zt zf (xs ((nI (5 * j)) + 1).toNatClampNeg) (xs ((nI (5 * j)) + 2).toNatClampNeg) (xs ((nI (5 * j)) + 3).toNatClampNeg) (xs ((nI (5 * j)) + 4).toNatClampNeg)).2.1) ((f_X2_set zb zo zt zf (xs ((nI (5 * j)) + 1).toNatClampNeg) (xs ((nI (5 * j)) + 2).toNatClampNeg) (xs ((nI (5 * j)) + 3).toNatClampNeg) (xs ((nI (5 * j)) + 4).toNatClampNeg)).2.2.1) ((f_X2_set zb zo zt zf (xs ((nI (5 * j)) + 1).toNatClampNeg) (xs ((nI (5 * j)) + 2).toNatClampNeg) (xs ((nI (5 * j)) + 3).toNatClampNeg) (xs ((nI (5 * j)) + 4).toNatClampNeg)).2.2.2.1) zm zu zr zl ((f_X2_set zb zo zt zf (xs ((nI (5 * j)) + 1).toNatClampNeg) (xs ((nI (5 * j)) + 2).toNatClampNeg) (xs ((nI (5 * j)) + 3).toNatClampNeg) (xs ((nI (5 * j)) + 4).toNatClampNeg)).2.2.2.2) mc mw mn ((f_X3_set mc mw me mf (xs ((nI (5 * j)) + 1).toNatClampNeg) (xs ((nI (5 * j)) + 2).toNatClampNeg) (xs ((nI (5 * j)) + 3).toNatClampNeg) (xs ((nI (5 * j)) + 4).toNatClampNeg)).2.1) mu mr mz ((f_X3_set mc mw me mf (xs ((nI (5 * j)) + 1).toNatClampNeg) (xs ((nI (5 * j)) + 2).toNatClampNeg) (xs ((nI (5 * j)) + 3).toNatClampNeg) (xs ((nI (5 * j)) + 4).toNatClampNeg)).2.2.1) ((f_X3_set mc mw me mf (xs ((nI (5 * j)) + 1).toNatClampNeg) (xs ((nI (5 * j)) + 2).toNatClampNeg) (xs ((nI (5 * j)) + 3).toNatClampNeg) (xs ((nI (5 * j)) + 4).toNatClampNeg)).2.2.2) (vp_updL go (0 : Int32).toNatClampNeg ((f_X2_set zb zo zt zf (xs ((nI (5 * j)) + 1).toNatClampNeg) (xs ((nI (5 * j)) + 2).toNatClampNeg) (xs ((nI (5 * j)) + 3).toNatClampNeg) (xs ((nI (5 * j)) + 4).toNatClampNeg)).1).toInt64) _ _ ls R' hP hD hS (lv_sub hl [2, 3, 4, 5, 6] rfl)
        · exact absurd (eC) c9
    · exact absurd (eT) c9
  · rcases x_set (zb := zb) (zo := zo) (zt := zt) (p1 := (xs ((nI (5 * j)) + 1).toNatClampNeg)) (p2 := (xs ((nI (5 * j)) + 2).toNatClampNeg)) (p3 := (xs ((nI (5 * j)) + 3).toNatClampNeg)) (p4 := (xs ((nI (5 * j)) + 4).toNatClampNeg)) with h9 | h9 | h9
    · exact absurd h9 eX0
    · have eX : f_X2_set_x zb zo zt (xs ((nI (5 * j)) + 1).toNatClampNeg) (xs ((nI (5 * j)) + 2).toNatClampNeg) (xs ((nI (5 * j)) + 3).toNatClampNeg) (xs ((nI (5 * j)) + 4).toNatClampNeg) = 1 := h9
      have eT9 : f_X3_thrown ((f_X3_set mc mw me mf (xs ((nI (5 * j)) + 1).toNatClampNeg) (xs ((nI (5 * j)) + 2).toNatClampNeg) (xs ((nI (5 * j)) + 3).toNatClampNeg) (xs ((nI (5 * j)) + 4).toNatClampNeg)).2.2.2) = 1 := by rw [h9] at eT; exact eT
      refine lv_aload_n hx hb dL_law_508 rfl (lv_at hl 1 rfl) ?_
      refine lv_aload_n hx hb dL_law_509 rfl (lv_at hl 0 rfl) ?_
      refine lv_iload hx hb dL_law_510 (lv_at hl 4 rfl) ?_
      refine lv_iconst (v := 1) hx hb dL_law_512 (by decide) ?_
      refine lv_iadd hx hb dL_law_513 ?_
      refine va_sld hx hb hX hbl hbA hS hv1 dL_law_514 ?_
      refine lv_aload_n hx hb dL_law_515 rfl (lv_at hl 0 rfl) ?_
      refine lv_iload hx hb dL_law_516 (lv_at hl 4 rfl) ?_
      refine lv_iconst (v := 2) hx hb dL_law_518 (by decide) ?_
      refine lv_iadd hx hb dL_law_519 ?_
      refine va_sld hx hb hX hbl hbA hS hv2 dL_law_520 ?_
      refine lv_aload_n hx hb dL_law_521 rfl (lv_at hl 0 rfl) ?_
      refine lv_iload hx hb dL_law_522 (lv_at hl 4 rfl) ?_
      refine lv_iconst (v := 3) hx hb dL_law_524 (by decide) ?_
      refine lv_iadd hx hb dL_law_525 ?_
      refine va_sld hx hb hX hbl hbA hS hv3 dL_law_526 ?_
      refine lv_aload_n hx hb dL_law_527 rfl (lv_at hl 0 rfl) ?_
      refine lv_iload hx hb dL_law_528 (lv_at hl 4 rfl) ?_
      refine lv_iconst (v := 4) hx hb dL_law_530 (by decide) ?_
      refine lv_iadd hx hb dL_law_531 ?_
      refine va_sld hx hb hX hbl hbA hS hv4 dL_law_532 ?_
      refine lv_aload_n hx hb dL_law_533 rfl (lv_at hl 3 rfl) ?_
      refine mr_iG (vx_runSW (As := [.ref (ad 0), .int (xs ((nI (5 * j)) + 1).toNatClampNeg), .int (xs ((nI (5 * j)) + 2).toNatClampNeg), .int (xs ((nI (5 * j)) + 3).toNatClampNeg), .int (xs ((nI (5 * j)) + 4).toNatClampNeg), .ref oo]) (rest := []) ⟨hx, hb, hml, hown, htl⟩ (t_L_set_1 l hlt D cyI cyZ cyJ ad oo zb zo zt zm zu zr zl zf go (xs ((nI (5 * j)) + 1).toNatClampNeg) (xs ((nI (5 * j)) + 2).toNatClampNeg) (xs ((nI (5 * j)) + 3).toNatClampNeg) (xs ((nI (5 * j)) + 4).toNatClampNeg) _ _ rfl eX) (vx_cwSW 6 htl gL_law_L_set rfl rfl rfl (by decide +kernel) ⟨Nat.le_of_ble_eq_true rfl, Nat.le_of_ble_eq_true rfl⟩) (poS hG (hz.kept2 hS) hn (hP.sub (ws' := wO cyI cyZ cyJ ad zb zo zt zm zu zr zl zf oo go) [0, 1, 2, 3, 4, 5, 6, 7, 8, 9, 10, 11, 12, 13, 14, 15, 16, 17, 18, 19, 20] rfl) (hD.sub (ws' := wO cyI cyZ cyJ ad zb zo zt zm zu zr zl zf oo go) [0, 1, 2, 3, 4, 5, 6, 7, 8, 9, 10, 11, 12, 13, 14, 15, 16, 17, 18, 19, 20] (by decide) rfl)) rfl rfl hl.1 rfl (lv_room (Nat.le_of_ble_eq_true rfl)) dL_law_534 ⟨by show 32 + j + 1 ≤ 1073; omega, by show 5140 + 6 * j + 6 ≤ 13434; omega⟩) hP hD hS hA [0, 1, 2, 3, 4, 5, 6, 7, 8, 9, 10, 11, 12, 13, 14, 15, 16, 17, 18, 19, 20] [21, 22, 23, 24, 25, 26, 27, 28, 29, 30, 31] [11, 12, 13, 14, 15, 16, 17, 18, 19, 20, 21, 22, 23, 24, 25, 26, 27, 28, 29, 30, 31, 0, 1, 2, 3, 4, 5, 6, 7, 8, 9, 10] rfl rfl (by decide) (by decide) (by decide) (w2 := wA cyI cyZ cyJ ad zb zo zt zm zu zr zl zf oo go am mc mw mn me mu mr mz mf mt) rfl (fun H locs hP hD hS => ?_)
      have hP : va_P D vwCl (wA cyI cyZ cyJ ad zb zo zt zm zu zr zl zf oo go am mc mw mn me mu mr mz mf mt) H := hP
      have hD : va_D (fun q : Nat => s.heap.size ≤ q) (wA cyI cyZ cyJ ad zb zo zt zm zu zr zl zf oo go am mc mw mn me mu mr mz mf mt) := hD
      refine W.widen (k := 32 + j + 1) (n := 5140 + 6 * j + 6) (by omega) (by omega) ?_
      refine lv_istore (lv' := [(5, .int 1), (0, .ref b), (1, .ref (ad 0)), (2, .ref (am 0)), (3, .ref oo), (4, .int (nI (5 * j)))]) hx hb dL_law_537 hl (by decide) rfl (fun ls hl => ?_)
      refine lv_aload_n hx hb dL_law_539 rfl (lv_at hl 3 rfl) ?_
      refine lv_aload_n hx hb dL_law_540 rfl (lv_at hl 1 rfl) ?_
      refine lv_iload hx hb dL_law_541 (lv_at hl 5 rfl) ?_
      refine lv_iconst (v := 1) hx hb dL_law_543 (by decide) ?_
      refine lv_iadd hx hb dL_law_544 ?_
      refine va_sld hx hb hX hbl hbA hS hv1 dL_law_545 ?_
      refine lv_aload_n hx hb dL_law_546 rfl (lv_at hl 1 rfl) ?_
      refine lv_iload hx hb dL_law_547 (lv_at hl 5 rfl) ?_
      refine lv_iconst (v := 2) hx hb dL_law_549 (by decide) ?_
      refine lv_iadd hx hb dL_law_550 ?_
      refine va_sld hx hb hX hbl hbA hS hv2 dL_law_551 ?_
      refine lv_aload_n hx hb dL_law_552 rfl (lv_at hl 1 rfl) ?_
      refine lv_iload hx hb dL_law_553 (lv_at hl 5 rfl) ?_
      refine lv_iconst (v := 3) hx hb dL_law_555 (by decide) ?_
      refine lv_iadd hx hb dL_law_556 ?_
      refine va_sld hx hb hX hbl hbA hS hv3 dL_law_557 ?_
      refine lv_aload_n hx hb dL_law_558 rfl (lv_at hl 1 rfl) ?_
      refine lv_iload hx hb dL_law_559 (lv_at hl 5 rfl) ?_
      refine lv_iconst (v := 4) hx hb dL_law_561 (by decide) ?_
      refine lv_iadd hx hb dL_law_562 ?_
      refine va_sld hx hb hX hbl hbA hS hv4 dL_law_563 ?_
      refine mr_iG (va_runV (As := [.int (xs ((nI (5 * j)) + 1).toNatClampNeg), .int (xs ((nI (5 * j)) + 2).toNatClampNeg), .int (xs ((nI (5 * j)) + 3).toNatClampNeg), .int (xs ((nI (5 * j)) + 4).toNatClampNeg)]) (rest := []) ⟨hx, hb, hml, hown, htl⟩ (k_X3_set l D cyI cyZ am mc mw mn me mu mr mz mf mt (xs ((nI (5 * j)) + 1).toNatClampNeg) (xs ((nI (5 * j)) + 2).toNatClampNeg) (xs ((nI (5 * j)) + 3).toNatClampNeg) (xs ((nI (5 * j)) + 4).toNatClampNeg) _ _ rfl) (cwV 4 htl gL_law_X3_set rfl rfl rfl (by decide +kernel) ⟨Nat.le_of_ble_eq_true rfl, Nat.le_of_ble_eq_true rfl⟩) (pmV hG.1 (hP.sub (ws' := wN cyI cyZ am mc mw mn me mu mr mz mf mt) [21, 22, 23, 24, 25, 26, 27, 28, 29, 30, 31] rfl) (hD.sub (ws' := wN cyI cyZ am mc mw mn me mu mr mz mf mt) [21, 22, 23, 24, 25, 26, 27, 28, 29, 30, 31] (by decide) rfl) (ci := 3) rfl rfl rfl) rfl rfl hl.1 rfl (lv_room (Nat.le_of_ble_eq_true rfl)) dL_law_564 ⟨by show 32 + j + 1 + 0 ≤ 1073; omega, by show 5140 + 6 * j + 6 + 0 ≤ 13434; omega⟩) hP hD hS hA [21, 22, 23, 24, 25, 26, 27, 28, 29, 30, 31] [0, 1, 2, 3, 4, 5, 6, 7, 8, 9, 10, 11, 12, 13, 14, 15, 16, 17, 18, 19, 20] [0, 1, 2, 3, 4, 5, 6, 7, 8, 9, 10, 11, 12, 13, 14, 15, 16, 17, 18, 19, 20, 21, 22, 23, 24, 25, 26, 27, 28, 29, 30, 31] rfl rfl (by decide) (by decide) (by decide) (w2 := wA cyI cyZ cyJ ad zb zo zt zm zu zr zl zf oo go am mc mw mn (f_X3_set mc mw me mf (xs ((nI (5 * j)) + 1).toNatClampNeg) (xs ((nI (5 * j)) + 2).toNatClampNeg) (xs ((nI (5 * j)) + 3).toNatClampNeg) (xs ((nI (5 * j)) + 4).toNatClampNeg)).2.1 mu mr mz (f_X3_set mc mw me mf (xs ((nI (5 * j)) + 1).toNatClampNeg) (xs ((nI (5 * j)) + 2).toNatClampNeg) (xs ((nI (5 * j)) + 3).toNatClampNeg) (xs ((nI (5 * j)) + 4).toNatClampNeg)).2.2.1 (f_X3_set mc mw me mf (xs ((nI (5 * j)) + 1).toNatClampNeg) (xs ((nI (5 * j)) + 2).toNatClampNeg) (xs ((nI (5 * j)) + 3).toNatClampNeg) (xs ((nI (5 * j)) + 4).toNatClampNeg)).2.2.2) rfl (fun H locs hP hD hS => ?_)
      have hP : va_P D vwCl (wA cyI cyZ cyJ ad zb zo zt zm zu zr zl zf oo go am mc mw mn (f_X3_set mc mw me mf (xs ((nI (5 * j)) + 1).toNatClampNeg) (xs ((nI (5 * j)) + 2).toNatClampNeg) (xs ((nI (5 * j)) + 3).toNatClampNeg) (xs ((nI (5 * j)) + 4).toNatClampNeg)).2.1 mu mr mz (f_X3_set mc mw me mf (xs ((nI (5 * j)) + 1).toNatClampNeg) (xs ((nI (5 * j)) + 2).toNatClampNeg) (xs ((nI (5 * j)) + 3).toNatClampNeg) (xs ((nI (5 * j)) + 4).toNatClampNeg)).2.2.1 (f_X3_set mc mw me mf (xs ((nI (5 * j)) + 1).toNatClampNeg) (xs ((nI (5 * j)) + 2).toNatClampNeg) (xs ((nI (5 * j)) + 3).toNatClampNeg) (xs ((nI (5 * j)) + 4).toNatClampNeg)).2.2.2) H := hP
      have hD : va_D (fun q : Nat => s.heap.size ≤ q) (wA cyI cyZ cyJ ad zb zo zt zm zu zr zl zf oo go am mc mw mn (f_X3_set mc mw me mf (xs ((nI (5 * j)) + 1).toNatClampNeg) (xs ((nI (5 * j)) + 2).toNatClampNeg) (xs ((nI (5 * j)) + 3).toNatClampNeg) (xs ((nI (5 * j)) + 4).toNatClampNeg)).2.1 mu mr mz (f_X3_set mc mw me mf (xs ((nI (5 * j)) + 1).toNatClampNeg) (xs ((nI (5 * j)) + 2).toNatClampNeg) (xs ((nI (5 * j)) + 3).toNatClampNeg) (xs ((nI (5 * j)) + 4).toNatClampNeg)).2.2.1 (f_X3_set mc mw me mf (xs ((nI (5 * j)) + 1).toNatClampNeg) (xs ((nI (5 * j)) + 2).toNatClampNeg) (xs ((nI (5 * j)) + 3).toNatClampNeg) (xs ((nI (5 * j)) + 4).toNatClampNeg)).2.2.2) := hD
      refine lv_istore (lv' := [(6, .int ((f_X3_set mc mw me mf (xs ((nI (5 * j)) + 1).toNatClampNeg) (xs ((nI (5 * j)) + 2).toNatClampNeg) (xs ((nI (5 * j)) + 3).toNatClampNeg) (xs ((nI (5 * j)) + 4).toNatClampNeg)).1)), (5, .int 1), (0, .ref b), (1, .ref (ad 0)), (2, .ref (am 0)), (3, .ref oo), (4, .int (nI (5 * j)))]) hx hb dL_law_567 hl (by decide) rfl (fun ls hl => ?_)
      refine lv_aload_n hx hb dL_law_569 rfl (lv_at hl 4 rfl) ?_
      refine pr_i (va_runV (As := []) (rest := []) ⟨hx, hb, hml, hown, htl⟩ (k_X3_thrown l D cyI cyZ am mc mw mn ((f_X3_set mc mw me mf (xs ((nI (5 * j)) + 1).toNatClampNeg) (xs ((nI (5 * j)) + 2).toNatClampNeg) (xs ((nI (5 * j)) + 3).toNatClampNeg) (xs ((nI (5 * j)) + 4).toNatClampNeg)).2.1) mu mr mz ((f_X3_set mc mw me mf (xs ((nI (5 * j)) + 1).toNatClampNeg) (xs ((nI (5 * j)) + 2).toNatClampNeg) (xs ((nI (5 * j)) + 3).toNatClampNeg) (xs ((nI (5 * j)) + 4).toNatClampNeg)).2.2.1) ((f_X3_set mc mw me mf (xs ((nI (5 * j)) + 1).toNatClampNeg) (xs ((nI (5 * j)) + 2).toNatClampNeg) (xs ((nI (5 * j)) + 3).toNatClampNeg) (xs ((nI (5 * j)) + 4).toNatClampNeg)).2.2.2)) (cwV 0 htl gL_law_X3_thrown rfl rfl rfl (by decide +kernel) ⟨Nat.le_of_ble_eq_true rfl, Nat.le_of_ble_eq_true rfl⟩) (prV hG.1 (hP.sub (ws' := wN cyI cyZ am mc mw mn ((f_X3_set mc mw me mf (xs ((nI (5 * j)) + 1).toNatClampNeg) (xs ((nI (5 * j)) + 2).toNatClampNeg) (xs ((nI (5 * j)) + 3).toNatClampNeg) (xs ((nI (5 * j)) + 4).toNatClampNeg)).2.1) mu mr mz ((f_X3_set mc mw me mf (xs ((nI (5 * j)) + 1).toNatClampNeg) (xs ((nI (5 * j)) + 2).toNatClampNeg) (xs ((nI (5 * j)) + 3).toNatClampNeg) (xs ((nI (5 * j)) + 4).toNatClampNeg)).2.2.1) ((f_X3_set mc mw me mf (xs ((nI (5 * j)) + 1).toNatClampNeg) (xs ((nI (5 * j)) + 2).toNatClampNeg) (xs ((nI (5 * j)) + 3).toNatClampNeg) (xs ((nI (5 * j)) + 4).toNatClampNeg)).2.2.2)) [21, 22, 23, 24, 25, 26, 27, 28, 29, 30, 31] rfl) (ci := 3) rfl rfl rfl) rfl rfl hl.1 rfl (lv_room (Nat.le_of_ble_eq_true rfl)) dL_law_570 ⟨by show 32 + j + 1 + 0 ≤ 1073; omega, by show 5140 + 6 * j + 6 + 0 ≤ 13434; omega⟩) hS hP (fun H locs hP hS => ?_)
      refine lv_iload hx hb dL_law_573 (lv_at hl 1 rfl) ?_
      refine lv_icmp_eq (tgt := 580) hx hb dL_law_575 (by decide) (fun c9 => ?_) (fun c9 => ?_)
      · refine lv_iload hx hb dL_law_580 (lv_at hl 1 rfl) ?_
        refine lv_if_ne (tgt := 597) hx hb dL_law_582 (by decide) (fun c9 => ?_) (fun c9 => ?_)
        · refine lv_goto (tgt := 1475) hx hb dL_law_597 (by decide) ?_
          exact KK zb zo zt zm zu zr zl zf mc mw mn ((f_X3_set mc mw me mf (xs ((nI (5 * j)) + 1).toNatClampNeg) (xs ((nI (5 * j)) + 2).toNatClampNeg) (xs ((nI (5 * j)) + 3).toNatClampNeg) (xs ((nI (5 * j)) + 4).toNatClampNeg)).2.1) mu mr mz ((f_X3_set mc mw me mf (xs ((nI (5 * j)) + 1).toNatClampNeg) (xs ((nI (5 * j)) + 2).toNatClampNeg) (xs ((nI (5 * j)) + 3).toNatClampNeg) (xs ((nI (5 * j)) + 4).toNatClampNeg)).2.2.1) ((f_X3_set mc mw me mf (xs ((nI (5 * j)) + 1).toNatClampNeg) (xs ((nI (5 * j)) + 2).toNatClampNeg) (xs ((nI (5 * j)) + 3).toNatClampNeg) (xs ((nI (5 * j)) + 4).toNatClampNeg)).2.2.2) go _ _ ls R' hP hD hS (lv_sub hl [2, 3, 4, 5, 6] rfl)
        · exact absurd c9 (by decide)
      · exact absurd (eT9) c9
    · have eX : f_X2_set_x zb zo zt (xs ((nI (5 * j)) + 1).toNatClampNeg) (xs ((nI (5 * j)) + 2).toNatClampNeg) (xs ((nI (5 * j)) + 3).toNatClampNeg) (xs ((nI (5 * j)) + 4).toNatClampNeg) = 2 := h9
      have eT9 : f_X3_thrown ((f_X3_set mc mw me mf (xs ((nI (5 * j)) + 1).toNatClampNeg) (xs ((nI (5 * j)) + 2).toNatClampNeg) (xs ((nI (5 * j)) + 3).toNatClampNeg) (xs ((nI (5 * j)) + 4).toNatClampNeg)).2.2.2) = 2 := by rw [h9] at eT; exact eT
      refine lv_aload_n hx hb dL_law_508 rfl (lv_at hl 1 rfl) ?_
      refine lv_aload_n hx hb dL_law_509 rfl (lv_at hl 0 rfl) ?_
      refine lv_iload hx hb dL_law_510 (lv_at hl 4 rfl) ?_
      refine lv_iconst (v := 1) hx hb dL_law_512 (by decide) ?_
      refine lv_iadd hx hb dL_law_513 ?_
      refine va_sld hx hb hX hbl hbA hS hv1 dL_law_514 ?_
      refine lv_aload_n hx hb dL_law_515 rfl (lv_at hl 0 rfl) ?_
      refine lv_iload hx hb dL_law_516 (lv_at hl 4 rfl) ?_
      refine lv_iconst (v := 2) hx hb dL_law_518 (by decide) ?_
      refine lv_iadd hx hb dL_law_519 ?_
      refine va_sld hx hb hX hbl hbA hS hv2 dL_law_520 ?_
      refine lv_aload_n hx hb dL_law_521 rfl (lv_at hl 0 rfl) ?_
      refine lv_iload hx hb dL_law_522 (lv_at hl 4 rfl) ?_
      refine lv_iconst (v := 3) hx hb dL_law_524 (by decide) ?_
      refine lv_iadd hx hb dL_law_525 ?_
      refine va_sld hx hb hX hbl hbA hS hv3 dL_law_526 ?_
      refine lv_aload_n hx hb dL_law_527 rfl (lv_at hl 0 rfl) ?_
      refine lv_iload hx hb dL_law_528 (lv_at hl 4 rfl) ?_
      refine lv_iconst (v := 4) hx hb dL_law_530 (by decide) ?_
      refine lv_iadd hx hb dL_law_531 ?_
      refine va_sld hx hb hX hbl hbA hS hv4 dL_law_532 ?_
      refine lv_aload_n hx hb dL_law_533 rfl (lv_at hl 3 rfl) ?_
      refine mr_iG (vx_runSW (As := [.ref (ad 0), .int (xs ((nI (5 * j)) + 1).toNatClampNeg), .int (xs ((nI (5 * j)) + 2).toNatClampNeg), .int (xs ((nI (5 * j)) + 3).toNatClampNeg), .int (xs ((nI (5 * j)) + 4).toNatClampNeg), .ref oo]) (rest := []) ⟨hx, hb, hml, hown, htl⟩ (t_L_set_2 l hlt D cyI cyZ cyJ ad oo zb zo zt zm zu zr zl zf go (xs ((nI (5 * j)) + 1).toNatClampNeg) (xs ((nI (5 * j)) + 2).toNatClampNeg) (xs ((nI (5 * j)) + 3).toNatClampNeg) (xs ((nI (5 * j)) + 4).toNatClampNeg) _ _ rfl eX) (vx_cwSW 6 htl gL_law_L_set rfl rfl rfl (by decide +kernel) ⟨Nat.le_of_ble_eq_true rfl, Nat.le_of_ble_eq_true rfl⟩) (poS hG (hz.kept2 hS) hn (hP.sub (ws' := wO cyI cyZ cyJ ad zb zo zt zm zu zr zl zf oo go) [0, 1, 2, 3, 4, 5, 6, 7, 8, 9, 10, 11, 12, 13, 14, 15, 16, 17, 18, 19, 20] rfl) (hD.sub (ws' := wO cyI cyZ cyJ ad zb zo zt zm zu zr zl zf oo go) [0, 1, 2, 3, 4, 5, 6, 7, 8, 9, 10, 11, 12, 13, 14, 15, 16, 17, 18, 19, 20] (by decide) rfl)) rfl rfl hl.1 rfl (lv_room (Nat.le_of_ble_eq_true rfl)) dL_law_534 ⟨by show 32 + j + 1 ≤ 1073; omega, by show 5140 + 6 * j + 6 ≤ 13434; omega⟩) hP hD hS hA [0, 1, 2, 3, 4, 5, 6, 7, 8, 9, 10, 11, 12, 13, 14, 15, 16, 17, 18, 19, 20] [21, 22, 23, 24, 25, 26, 27, 28, 29, 30, 31] [11, 12, 13, 14, 15, 16, 17, 18, 19, 20, 21, 22, 23, 24, 25, 26, 27, 28, 29, 30, 31, 0, 1, 2, 3, 4, 5, 6, 7, 8, 9, 10] rfl rfl (by decide) (by decide) (by decide) (w2 := wA cyI cyZ cyJ ad zb zo zt zm zu zr zl zf oo go am mc mw mn me mu mr mz mf mt) rfl (fun H locs hP hD hS => ?_)
      have hP : va_P D vwCl (wA cyI cyZ cyJ ad zb zo zt zm zu zr zl zf oo go am mc mw mn me mu mr mz mf mt) H := hP
      have hD : va_D (fun q : Nat => s.heap.size ≤ q) (wA cyI cyZ cyJ ad zb zo zt zm zu zr zl zf oo go am mc mw mn me mu mr mz mf mt) := hD
      refine W.widen (k := 32 + j + 1) (n := 5140 + 6 * j + 6) (by omega) (by omega) ?_
      refine lv_istore (lv' := [(5, .int 2), (0, .ref b), (1, .ref (ad 0)), (2, .ref (am 0)), (3, .ref oo), (4, .int (nI (5 * j)))]) hx hb dL_law_537 hl (by decide) rfl (fun ls hl => ?_)
      refine lv_aload_n hx hb dL_law_539 rfl (lv_at hl 3 rfl) ?_
      refine lv_aload_n hx hb dL_law_540 rfl (lv_at hl 1 rfl) ?_
      refine lv_iload hx hb dL_law_541 (lv_at hl 5 rfl) ?_
      refine lv_iconst (v := 1) hx hb dL_law_543 (by decide) ?_
      refine lv_iadd hx hb dL_law_544 ?_
      refine va_sld hx hb hX hbl hbA hS hv1 dL_law_545 ?_
      refine lv_aload_n hx hb dL_law_546 rfl (lv_at hl 1 rfl) ?_
      refine lv_iload hx hb dL_law_547 (lv_at hl 5 rfl) ?_
      refine lv_iconst (v := 2) hx hb dL_law_549 (by decide) ?_
      refine lv_iadd hx hb dL_law_550 ?_
      refine va_sld hx hb hX hbl hbA hS hv2 dL_law_551 ?_
      refine lv_aload_n hx hb dL_law_552 rfl (lv_at hl 1 rfl) ?_
      refine lv_iload hx hb dL_law_553 (lv_at hl 5 rfl) ?_
      refine lv_iconst (v := 3) hx hb dL_law_555 (by decide) ?_
      refine lv_iadd hx hb dL_law_556 ?_
      refine va_sld hx hb hX hbl hbA hS hv3 dL_law_557 ?_
      refine lv_aload_n hx hb dL_law_558 rfl (lv_at hl 1 rfl) ?_
      refine lv_iload hx hb dL_law_559 (lv_at hl 5 rfl) ?_
      refine lv_iconst (v := 4) hx hb dL_law_561 (by decide) ?_
      refine lv_iadd hx hb dL_law_562 ?_
      refine va_sld hx hb hX hbl hbA hS hv4 dL_law_563 ?_
      refine mr_iG (va_runV (As := [.int (xs ((nI (5 * j)) + 1).toNatClampNeg), .int (xs ((nI (5 * j)) + 2).toNatClampNeg), .int (xs ((nI (5 * j)) + 3).toNatClampNeg), .int (xs ((nI (5 * j)) + 4).toNatClampNeg)]) (rest := []) ⟨hx, hb, hml, hown, htl⟩ (k_X3_set l D cyI cyZ am mc mw mn me mu mr mz mf mt (xs ((nI (5 * j)) + 1).toNatClampNeg) (xs ((nI (5 * j)) + 2).toNatClampNeg) (xs ((nI (5 * j)) + 3).toNatClampNeg) (xs ((nI (5 * j)) + 4).toNatClampNeg) _ _ rfl) (cwV 4 htl gL_law_X3_set rfl rfl rfl (by decide +kernel) ⟨Nat.le_of_ble_eq_true rfl, Nat.le_of_ble_eq_true rfl⟩) (pmV hG.1 (hP.sub (ws' := wN cyI cyZ am mc mw mn me mu mr mz mf mt) [21, 22, 23, 24, 25, 26, 27, 28, 29, 30, 31] rfl) (hD.sub (ws' := wN cyI cyZ am mc mw mn me mu mr mz mf mt) [21, 22, 23, 24, 25, 26, 27, 28, 29, 30, 31] (by decide) rfl) (ci := 3) rfl rfl rfl) rfl rfl hl.1 rfl (lv_room (Nat.le_of_ble_eq_true rfl)) dL_law_564 ⟨by show 32 + j + 1 + 0 ≤ 1073; omega, by show 5140 + 6 * j + 6 + 0 ≤ 13434; omega⟩) hP hD hS hA [21, 22, 23, 24, 25, 26, 27, 28, 29, 30, 31] [0, 1, 2, 3, 4, 5, 6, 7, 8, 9, 10, 11, 12, 13, 14, 15, 16, 17, 18, 19, 20] [0, 1, 2, 3, 4, 5, 6, 7, 8, 9, 10, 11, 12, 13, 14, 15, 16, 17, 18, 19, 20, 21, 22, 23, 24, 25, 26, 27, 28, 29, 30, 31] rfl rfl (by decide) (by decide) (by decide) (w2 := wA cyI cyZ cyJ ad zb zo zt zm zu zr zl zf oo go am mc mw mn (f_X3_set mc mw me mf (xs ((nI (5 * j)) + 1).toNatClampNeg) (xs ((nI (5 * j)) + 2).toNatClampNeg) (xs ((nI (5 * j)) + 3).toNatClampNeg) (xs ((nI (5 * j)) + 4).toNatClampNeg)).2.1 mu mr mz (f_X3_set mc mw me mf (xs ((nI (5 * j)) + 1).toNatClampNeg) (xs ((nI (5 * j)) + 2).toNatClampNeg) (xs ((nI (5 * j)) + 3).toNatClampNeg) (xs ((nI (5 * j)) + 4).toNatClampNeg)).2.2.1 (f_X3_set mc mw me mf (xs ((nI (5 * j)) + 1).toNatClampNeg) (xs ((nI (5 * j)) + 2).toNatClampNeg) (xs ((nI (5 * j)) + 3).toNatClampNeg) (xs ((nI (5 * j)) + 4).toNatClampNeg)).2.2.2) rfl (fun H locs hP hD hS => ?_)
      have hP : va_P D vwCl (wA cyI cyZ cyJ ad zb zo zt zm zu zr zl zf oo go am mc mw mn (f_X3_set mc mw me mf (xs ((nI (5 * j)) + 1).toNatClampNeg) (xs ((nI (5 * j)) + 2).toNatClampNeg) (xs ((nI (5 * j)) + 3).toNatClampNeg) (xs ((nI (5 * j)) + 4).toNatClampNeg)).2.1 mu mr mz (f_X3_set mc mw me mf (xs ((nI (5 * j)) + 1).toNatClampNeg) (xs ((nI (5 * j)) + 2).toNatClampNeg) (xs ((nI (5 * j)) + 3).toNatClampNeg) (xs ((nI (5 * j)) + 4).toNatClampNeg)).2.2.1 (f_X3_set mc mw me mf (xs ((nI (5 * j)) + 1).toNatClampNeg) (xs ((nI (5 * j)) + 2).toNatClampNeg) (xs ((nI (5 * j)) + 3).toNatClampNeg) (xs ((nI (5 * j)) + 4).toNatClampNeg)).2.2.2) H := hP
      have hD : va_D (fun q : Nat => s.heap.size ≤ q) (wA cyI cyZ cyJ ad zb zo zt zm zu zr zl zf oo go am mc mw mn (f_X3_set mc mw me mf (xs ((nI (5 * j)) + 1).toNatClampNeg) (xs ((nI (5 * j)) + 2).toNatClampNeg) (xs ((nI (5 * j)) + 3).toNatClampNeg) (xs ((nI (5 * j)) + 4).toNatClampNeg)).2.1 mu mr mz (f_X3_set mc mw me mf (xs ((nI (5 * j)) + 1).toNatClampNeg) (xs ((nI (5 * j)) + 2).toNatClampNeg) (xs ((nI (5 * j)) + 3).toNatClampNeg) (xs ((nI (5 * j)) + 4).toNatClampNeg)).2.2.1 (f_X3_set mc mw me mf (xs ((nI (5 * j)) + 1).toNatClampNeg) (xs ((nI (5 * j)) + 2).toNatClampNeg) (xs ((nI (5 * j)) + 3).toNatClampNeg) (xs ((nI (5 * j)) + 4).toNatClampNeg)).2.2.2) := hD
      refine lv_istore (lv' := [(6, .int ((f_X3_set mc mw me mf (xs ((nI (5 * j)) + 1).toNatClampNeg) (xs ((nI (5 * j)) + 2).toNatClampNeg) (xs ((nI (5 * j)) + 3).toNatClampNeg) (xs ((nI (5 * j)) + 4).toNatClampNeg)).1)), (5, .int 2), (0, .ref b), (1, .ref (ad 0)), (2, .ref (am 0)), (3, .ref oo), (4, .int (nI (5 * j)))]) hx hb dL_law_567 hl (by decide) rfl (fun ls hl => ?_)
      refine lv_aload_n hx hb dL_law_569 rfl (lv_at hl 4 rfl) ?_
      refine pr_i (va_runV (As := []) (rest := []) ⟨hx, hb, hml, hown, htl⟩ (k_X3_thrown l D cyI cyZ am mc mw mn ((f_X3_set mc mw me mf (xs ((nI (5 * j)) + 1).toNatClampNeg) (xs ((nI (5 * j)) + 2).toNatClampNeg) (xs ((nI (5 * j)) + 3).toNatClampNeg) (xs ((nI (5 * j)) + 4).toNatClampNeg)).2.1) mu mr mz ((f_X3_set mc mw me mf (xs ((nI (5 * j)) + 1).toNatClampNeg) (xs ((nI (5 * j)) + 2).toNatClampNeg) (xs ((nI (5 * j)) + 3).toNatClampNeg) (xs ((nI (5 * j)) + 4).toNatClampNeg)).2.2.1) ((f_X3_set mc mw me mf (xs ((nI (5 * j)) + 1).toNatClampNeg) (xs ((nI (5 * j)) + 2).toNatClampNeg) (xs ((nI (5 * j)) + 3).toNatClampNeg) (xs ((nI (5 * j)) + 4).toNatClampNeg)).2.2.2)) (cwV 0 htl gL_law_X3_thrown rfl rfl rfl (by decide +kernel) ⟨Nat.le_of_ble_eq_true rfl, Nat.le_of_ble_eq_true rfl⟩) (prV hG.1 (hP.sub (ws' := wN cyI cyZ am mc mw mn ((f_X3_set mc mw me mf (xs ((nI (5 * j)) + 1).toNatClampNeg) (xs ((nI (5 * j)) + 2).toNatClampNeg) (xs ((nI (5 * j)) + 3).toNatClampNeg) (xs ((nI (5 * j)) + 4).toNatClampNeg)).2.1) mu mr mz ((f_X3_set mc mw me mf (xs ((nI (5 * j)) + 1).toNatClampNeg) (xs ((nI (5 * j)) + 2).toNatClampNeg) (xs ((nI (5 * j)) + 3).toNatClampNeg) (xs ((nI (5 * j)) + 4).toNatClampNeg)).2.2.1) ((f_X3_set mc mw me mf (xs ((nI (5 * j)) + 1).toNatClampNeg) (xs ((nI (5 * j)) + 2).toNatClampNeg) (xs ((nI (5 * j)) + 3).toNatClampNeg) (xs ((nI (5 * j)) + 4).toNatClampNeg)).2.2.2)) [21, 22, 23, 24, 25, 26, 27, 28, 29, 30, 31] rfl) (ci := 3) rfl rfl rfl) rfl rfl hl.1 rfl (lv_room (Nat.le_of_ble_eq_true rfl)) dL_law_570 ⟨by show 32 + j + 1 + 0 ≤ 1073; omega, by show 5140 + 6 * j + 6 + 0 ≤ 13434; omega⟩) hS hP (fun H locs hP hS => ?_)
      refine lv_iload hx hb dL_law_573 (lv_at hl 1 rfl) ?_
      refine lv_icmp_eq (tgt := 580) hx hb dL_law_575 (by decide) (fun c9 => ?_) (fun c9 => ?_)
      · refine lv_iload hx hb dL_law_580 (lv_at hl 1 rfl) ?_
        refine lv_if_ne (tgt := 597) hx hb dL_law_582 (by decide) (fun c9 => ?_) (fun c9 => ?_)
        · refine lv_goto (tgt := 1475) hx hb dL_law_597 (by decide) ?_
          exact KK zb zo zt zm zu zr zl zf mc mw mn ((f_X3_set mc mw me mf (xs ((nI (5 * j)) + 1).toNatClampNeg) (xs ((nI (5 * j)) + 2).toNatClampNeg) (xs ((nI (5 * j)) + 3).toNatClampNeg) (xs ((nI (5 * j)) + 4).toNatClampNeg)).2.1) mu mr mz ((f_X3_set mc mw me mf (xs ((nI (5 * j)) + 1).toNatClampNeg) (xs ((nI (5 * j)) + 2).toNatClampNeg) (xs ((nI (5 * j)) + 3).toNatClampNeg) (xs ((nI (5 * j)) + 4).toNatClampNeg)).2.2.1) ((f_X3_set mc mw me mf (xs ((nI (5 * j)) + 1).toNatClampNeg) (xs ((nI (5 * j)) + 2).toNatClampNeg) (xs ((nI (5 * j)) + 3).toNatClampNeg) (xs ((nI (5 * j)) + 4).toNatClampNeg)).2.2.2) go _ _ ls R' hP hD hS (lv_sub hl [2, 3, 4, 5, 6] rfl)
        · exact absurd c9 (by decide)
      · exact absurd (eT9) c9
set_option maxHeartbeats 4000000 in
set_option maxRecDepth 100000 in
theorem lw_setRule {p : Program} {l : Launch} {e : Env} {s : State} {m : MethodId} {below : List Frame} {meth : Method} {c : Code} {b L : Nat} {xs : Nat → Int32} (C0 : lw_At p s m meth c b L xs) (hlt : l.stackTraces = false) {D : va_G} {cyI cyZ cyJ : ClassId} (hG : gL D cyI cyZ cyJ s) (hz : zq s) (hn : zn s) {ad am : Nat → Nat} {oo j : Nat} (hL : L ≤ 2560) (hj : 5 * j + 5 ≤ L) (KK : lwK p l e s m below meth c b D cyI cyZ cyJ ad am oo j) {zb : Tr} {zo : Tr} {zt : Tr} {zm : Tr} {zu : Nat → Int32} {zr : Nat → Int32} {zl : Lr} {zf : Int32} {mc : Nat → Int32} {mw : Nat → Int32} {mn : Nat → Int32} {me : Nat → Int32} {mu : Nat → Int32} {mr : Nat → Int32} {mz : Kr} {mf : Int32} {mt : Int32} {go : Nat → Int64} (R : Rl zb zo zt zm zu zr zl zf mc mw mn me mu mr mz mf) {H : Heap} {locs : List Loc} {ls : Array Slot} (hP : va_P D vwCl (wA cyI cyZ cyJ ad zb zo zt zm zu zr zl zf oo go am mc mw mn me mu mr mz mf mt) H) (hD : va_D (fun q : Nat => s.heap.size ≤ q) (wA cyI cyZ cyJ ad zb zo zt zm zu zr zl zf oo go am mc mw mn me mu mr mz mf mt)) (hS : va_S (fun q : Nat => s.heap.size ≤ q) s.heap H locs) (hl : lv_has ls 7 [(0, .ref b), (1, .ref (ad 0)), (2, .ref (am 0)), (3, .ref oo), (4, .int (nI (5 * j)))]) : W p l e room_1 s m #[Value.ref b] below meth c H locs (32 + j) (5140 + 6 * j) (lw_Z below #[Value.ref b] s) (F0 m 600 ls []) := by
  obtain ⟨hx, hb, hr, hml, hown, hts, hX, hbl, hlocks, hgv⟩ := C0
  have htl : ∀ w ∈ wsL_law, w.before #[Value.ref b] s = true := fun w h => hts w (wsL_law_in w h)
  have hA : ∀ q : Nat, s.heap.size ≤ q → (fun q : Nat => s.heap.size ≤ q) q := fun _ h => h
  have hbA : ¬ (fun q : Nat => s.heap.size ≤ q) b := Nat.not_le.mpr hbl
  have hv1 : vp_in (nI (5 * j) + 1) L := by rw [show (1 : Int32) = nI 1 from rfl, nI_add]; exact vp_in_nI (by omega) (by omega)
  have hv2 : vp_in (nI (5 * j) + 2) L := by rw [show (2 : Int32) = nI 2 from rfl, nI_add]; exact vp_in_nI (by omega) (by omega)
  have hv3 : vp_in (nI (5 * j) + 3) L := by rw [show (3 : Int32) = nI 3 from rfl, nI_add]; exact vp_in_nI (by omega) (by omega)
  have hv4 : vp_in (nI (5 * j) + 4) L := by rw [show (4 : Int32) = nI 4 from rfl, nI_add]; exact vp_in_nI (by omega) (by omega)
  rcases s_setRule R (xs ((nI (5 * j)) + 1).toNatClampNeg) (xs ((nI (5 * j)) + 2).toNatClampNeg) with ⟨eX, eT, eA, R'⟩ | ⟨eX0, eT, R'⟩
  · have eC : lg_cmp ((vp_updL go (0 : Int32).toNatClampNeg ((f_X2_setRule zu zf (xs ((nI (5 * j)) + 1).toNatClampNeg) (xs ((nI (5 * j)) + 2).toNatClampNeg)).1).toInt64) (0 : Int32).toNatClampNeg) (((f_X3_setRule mu mf (xs ((nI (5 * j)) + 1).toNatClampNeg) (xs ((nI (5 * j)) + 2).toNatClampNeg)).1).toInt64) = 0 := by rw [pk_uLs, eA]; exact lg_self _
    refine lv_aload_n hx hb dL_law_600 rfl (lv_at hl 1 rfl) ?_
    refine lv_aload_n hx hb dL_law_601 rfl (lv_at hl 0 rfl) ?_
    refine lv_iload hx hb dL_law_602 (lv_at hl 4 rfl) ?_
    refine lv_iconst (v := 1) hx hb dL_law_604 (by decide) ?_
    refine lv_iadd hx hb dL_law_605 ?_
    refine va_sld hx hb hX hbl hbA hS hv1 dL_law_606 ?_
    refine lv_aload_n hx hb dL_law_607 rfl (lv_at hl 0 rfl) ?_
    refine lv_iload hx hb dL_law_608 (lv_at hl 4 rfl) ?_
    refine lv_iconst (v := 2) hx hb dL_law_610 (by decide) ?_
    refine lv_iadd hx hb dL_law_611 ?_
    refine va_sld hx hb hX hbl hbA hS hv2 dL_law_612 ?_
    refine lv_aload_n hx hb dL_law_613 rfl (lv_at hl 3 rfl) ?_
    refine mr_iG (vx_runSW (As := [.ref (ad 0), .int (xs ((nI (5 * j)) + 1).toNatClampNeg), .int (xs ((nI (5 * j)) + 2).toNatClampNeg), .ref oo]) (rest := []) ⟨hx, hb, hml, hown, htl⟩ (k_L_setRule l D cyI cyZ cyJ ad oo zb zo zt zm zu zr zl zf go (xs ((nI (5 * j)) + 1).toNatClampNeg) (xs ((nI (5 * j)) + 2).toNatClampNeg) _ _ rfl eX) (vx_cwSW 4 htl gL_law_L_setRule rfl rfl rfl (by decide +kernel) ⟨Nat.le_of_ble_eq_true rfl, Nat.le_of_ble_eq_true rfl⟩) (poS hG (hz.kept2 hS) hn (hP.sub (ws' := wO cyI cyZ cyJ ad zb zo zt zm zu zr zl zf oo go) [0, 1, 2, 3, 4, 5, 6, 7, 8, 9, 10, 11, 12, 13, 14, 15, 16, 17, 18, 19, 20] rfl) (hD.sub (ws' := wO cyI cyZ cyJ ad zb zo zt zm zu zr zl zf oo go) [0, 1, 2, 3, 4, 5, 6, 7, 8, 9, 10, 11, 12, 13, 14, 15, 16, 17, 18, 19, 20] (by decide) rfl)) rfl rfl hl.1 rfl (lv_room (Nat.le_of_ble_eq_true rfl)) dL_law_614 ⟨by show 32 + j + 0 ≤ 1073; omega, by show 5140 + 6 * j + 0 ≤ 13434; omega⟩) hP hD hS hA [0, 1, 2, 3, 4, 5, 6, 7, 8, 9, 10, 11, 12, 13, 14, 15, 16, 17, 18, 19, 20] [21, 22, 23, 24, 25, 26, 27, 28, 29, 30, 31] [11, 12, 13, 14, 15, 16, 17, 18, 19, 20, 21, 22, 23, 24, 25, 26, 27, 28, 29, 30, 31, 0, 1, 2, 3, 4, 5, 6, 7, 8, 9, 10] rfl rfl (by decide) (by decide) (by decide) (w2 := wA cyI cyZ cyJ ad zb zo zt zm (f_X2_setRule zu zf (xs ((nI (5 * j)) + 1).toNatClampNeg) (xs ((nI (5 * j)) + 2).toNatClampNeg)).2.1 zr zl (f_X2_setRule zu zf (xs ((nI (5 * j)) + 1).toNatClampNeg) (xs ((nI (5 * j)) + 2).toNatClampNeg)).2.2 oo (vp_updL go (0 : Int32).toNatClampNeg ((f_X2_setRule zu zf (xs ((nI (5 * j)) + 1).toNatClampNeg) (xs ((nI (5 * j)) + 2).toNatClampNeg)).1).toInt64) am mc mw mn me mu mr mz mf mt) rfl (fun H locs hP hD hS => ?_)
    have hP : va_P D vwCl (wA cyI cyZ cyJ ad zb zo zt zm (f_X2_setRule zu zf (xs ((nI (5 * j)) + 1).toNatClampNeg) (xs ((nI (5 * j)) + 2).toNatClampNeg)).2.1 zr zl (f_X2_setRule zu zf (xs ((nI (5 * j)) + 1).toNatClampNeg) (xs ((nI (5 * j)) + 2).toNatClampNeg)).2.2 oo (vp_updL go (0 : Int32).toNatClampNeg ((f_X2_setRule zu zf (xs ((nI (5 * j)) + 1).toNatClampNeg) (xs ((nI (5 * j)) + 2).toNatClampNeg)).1).toInt64) am mc mw mn me mu mr mz mf mt) H := hP
    have hD : va_D (fun q : Nat => s.heap.size ≤ q) (wA cyI cyZ cyJ ad zb zo zt zm (f_X2_setRule zu zf (xs ((nI (5 * j)) + 1).toNatClampNeg) (xs ((nI (5 * j)) + 2).toNatClampNeg)).2.1 zr zl (f_X2_setRule zu zf (xs ((nI (5 * j)) + 1).toNatClampNeg) (xs ((nI (5 * j)) + 2).toNatClampNeg)).2.2 oo (vp_updL go (0 : Int32).toNatClampNeg ((f_X2_setRule zu zf (xs ((nI (5 * j)) + 1).toNatClampNeg) (xs ((nI (5 * j)) + 2).toNatClampNeg)).1).toInt64) am mc mw mn me mu mr mz mf mt) := hD
    refine W.widen (k := 32 + j + 1) (n := 5140 + 6 * j + 6) (by omega) (by omega) ?_
    refine lv_istore (lv' := [(5, .int 0), (0, .ref b), (1, .ref (ad 0)), (2, .ref (am 0)), (3, .ref oo), (4, .int (nI (5 * j)))]) hx hb dL_law_617 hl (by decide) rfl (fun ls hl => ?_)
    refine lv_aload_n hx hb dL_law_619 rfl (lv_at hl 3 rfl) ?_
    refine lv_aload_n hx hb dL_law_620 rfl (lv_at hl 1 rfl) ?_
    refine lv_iload hx hb dL_law_621 (lv_at hl 5 rfl) ?_
    refine lv_iconst (v := 1) hx hb dL_law_623 (by decide) ?_
    refine lv_iadd hx hb dL_law_624 ?_
    refine va_sld hx hb hX hbl hbA hS hv1 dL_law_625 ?_
    refine lv_aload_n hx hb dL_law_626 rfl (lv_at hl 1 rfl) ?_
    refine lv_iload hx hb dL_law_627 (lv_at hl 5 rfl) ?_
    refine lv_iconst (v := 2) hx hb dL_law_629 (by decide) ?_
    refine lv_iadd hx hb dL_law_630 ?_
    refine va_sld hx hb hX hbl hbA hS hv2 dL_law_631 ?_
    refine mr_iG (va_runV (As := [.int (xs ((nI (5 * j)) + 1).toNatClampNeg), .int (xs ((nI (5 * j)) + 2).toNatClampNeg)]) (rest := []) ⟨hx, hb, hml, hown, htl⟩ (k_X3_setRule l D cyI cyZ am mc mw mn me mu mr mz mf mt (xs ((nI (5 * j)) + 1).toNatClampNeg) (xs ((nI (5 * j)) + 2).toNatClampNeg) _ _ rfl) (cwV 2 htl gL_law_X3_setRule rfl rfl rfl (by decide +kernel) ⟨Nat.le_of_ble_eq_true rfl, Nat.le_of_ble_eq_true rfl⟩) (pmV hG.1 (hP.sub (ws' := wN cyI cyZ am mc mw mn me mu mr mz mf mt) [21, 22, 23, 24, 25, 26, 27, 28, 29, 30, 31] rfl) (hD.sub (ws' := wN cyI cyZ am mc mw mn me mu mr mz mf mt) [21, 22, 23, 24, 25, 26, 27, 28, 29, 30, 31] (by decide) rfl) (ci := 3) rfl rfl rfl) rfl rfl hl.1 rfl (lv_room (Nat.le_of_ble_eq_true rfl)) dL_law_632 ⟨by show 32 + j + 1 + 0 ≤ 1073; omega, by show 5140 + 6 * j + 6 + 0 ≤ 13434; omega⟩) hP hD hS hA [21, 22, 23, 24, 25, 26, 27, 28, 29, 30, 31] [0, 1, 2, 3, 4, 5, 6, 7, 8, 9, 10, 11, 12, 13, 14, 15, 16, 17, 18, 19, 20] [0, 1, 2, 3, 4, 5, 6, 7, 8, 9, 10, 11, 12, 13, 14, 15, 16, 17, 18, 19, 20, 21, 22, 23, 24, 25, 26, 27, 28, 29, 30, 31] rfl rfl (by decide) (by decide) (by decide) (w2 := wA cyI cyZ cyJ ad zb zo zt zm (f_X2_setRule zu zf (xs ((nI (5 * j)) + 1).toNatClampNeg) (xs ((nI (5 * j)) + 2).toNatClampNeg)).2.1 zr zl (f_X2_setRule zu zf (xs ((nI (5 * j)) + 1).toNatClampNeg) (xs ((nI (5 * j)) + 2).toNatClampNeg)).2.2 oo (vp_updL go (0 : Int32).toNatClampNeg ((f_X2_setRule zu zf (xs ((nI (5 * j)) + 1).toNatClampNeg) (xs ((nI (5 * j)) + 2).toNatClampNeg)).1).toInt64) am mc mw mn me (f_X3_setRule mu mf (xs ((nI (5 * j)) + 1).toNatClampNeg) (xs ((nI (5 * j)) + 2).toNatClampNeg)).2.1 mr mz (f_X3_setRule mu mf (xs ((nI (5 * j)) + 1).toNatClampNeg) (xs ((nI (5 * j)) + 2).toNatClampNeg)).2.2.1 (f_X3_setRule mu mf (xs ((nI (5 * j)) + 1).toNatClampNeg) (xs ((nI (5 * j)) + 2).toNatClampNeg)).2.2.2) rfl (fun H locs hP hD hS => ?_)
    have hP : va_P D vwCl (wA cyI cyZ cyJ ad zb zo zt zm (f_X2_setRule zu zf (xs ((nI (5 * j)) + 1).toNatClampNeg) (xs ((nI (5 * j)) + 2).toNatClampNeg)).2.1 zr zl (f_X2_setRule zu zf (xs ((nI (5 * j)) + 1).toNatClampNeg) (xs ((nI (5 * j)) + 2).toNatClampNeg)).2.2 oo (vp_updL go (0 : Int32).toNatClampNeg ((f_X2_setRule zu zf (xs ((nI (5 * j)) + 1).toNatClampNeg) (xs ((nI (5 * j)) + 2).toNatClampNeg)).1).toInt64) am mc mw mn me (f_X3_setRule mu mf (xs ((nI (5 * j)) + 1).toNatClampNeg) (xs ((nI (5 * j)) + 2).toNatClampNeg)).2.1 mr mz (f_X3_setRule mu mf (xs ((nI (5 * j)) + 1).toNatClampNeg) (xs ((nI (5 * j)) + 2).toNatClampNeg)).2.2.1 (f_X3_setRule mu mf (xs ((nI (5 * j)) + 1).toNatClampNeg) (xs ((nI (5 * j)) + 2).toNatClampNeg)).2.2.2) H := hP
    have hD : va_D (fun q : Nat => s.heap.size ≤ q) (wA cyI cyZ cyJ ad zb zo zt zm (f_X2_setRule zu zf (xs ((nI (5 * j)) + 1).toNatClampNeg) (xs ((nI (5 * j)) + 2).toNatClampNeg)).2.1 zr zl (f_X2_setRule zu zf (xs ((nI (5 * j)) + 1).toNatClampNeg) (xs ((nI (5 * j)) + 2).toNatClampNeg)).2.2 oo (vp_updL go (0 : Int32).toNatClampNeg ((f_X2_setRule zu zf (xs ((nI (5 * j)) + 1).toNatClampNeg) (xs ((nI (5 * j)) + 2).toNatClampNeg)).1).toInt64) am mc mw mn me (f_X3_setRule mu mf (xs ((nI (5 * j)) + 1).toNatClampNeg) (xs ((nI (5 * j)) + 2).toNatClampNeg)).2.1 mr mz (f_X3_setRule mu mf (xs ((nI (5 * j)) + 1).toNatClampNeg) (xs ((nI (5 * j)) + 2).toNatClampNeg)).2.2.1 (f_X3_setRule mu mf (xs ((nI (5 * j)) + 1).toNatClampNeg) (xs ((nI (5 * j)) + 2).toNatClampNeg)).2.2.2) := hD
    refine lv_istore (lv' := [(6, .int ((f_X3_setRule mu mf (xs ((nI (5 * j)) + 1).toNatClampNeg) (xs ((nI (5 * j)) + 2).toNatClampNeg)).1)), (5, .int 0), (0, .ref b), (1, .ref (ad 0)), (2, .ref (am 0)), (3, .ref oo), (4, .int (nI (5 * j)))]) hx hb dL_law_635 hl (by decide) rfl (fun ls hl => ?_)
    refine lv_aload_n hx hb dL_law_637 rfl (lv_at hl 4 rfl) ?_
    refine pr_i (va_runV (As := []) (rest := []) ⟨hx, hb, hml, hown, htl⟩ (k_X3_thrown l D cyI cyZ am mc mw mn me ((f_X3_setRule mu mf (xs ((nI (5 * j)) + 1).toNatClampNeg) (xs ((nI (5 * j)) + 2).toNatClampNeg)).2.1) mr mz ((f_X3_setRule mu mf (xs ((nI (5 * j)) + 1).toNatClampNeg) (xs ((nI (5 * j)) + 2).toNatClampNeg)).2.2.1) ((f_X3_setRule mu mf (xs ((nI (5 * j)) + 1).toNatClampNeg) (xs ((nI (5 * j)) + 2).toNatClampNeg)).2.2.2)) (cwV 0 htl gL_law_X3_thrown rfl rfl rfl (by decide +kernel) ⟨Nat.le_of_ble_eq_true rfl, Nat.le_of_ble_eq_true rfl⟩) (prV hG.1 (hP.sub (ws' := wN cyI cyZ am mc mw mn me ((f_X3_setRule mu mf (xs ((nI (5 * j)) + 1).toNatClampNeg) (xs ((nI (5 * j)) + 2).toNatClampNeg)).2.1) mr mz ((f_X3_setRule mu mf (xs ((nI (5 * j)) + 1).toNatClampNeg) (xs ((nI (5 * j)) + 2).toNatClampNeg)).2.2.1) ((f_X3_setRule mu mf (xs ((nI (5 * j)) + 1).toNatClampNeg) (xs ((nI (5 * j)) + 2).toNatClampNeg)).2.2.2)) [21, 22, 23, 24, 25, 26, 27, 28, 29, 30, 31] rfl) (ci := 3) rfl rfl rfl) rfl rfl hl.1 rfl (lv_room (Nat.le_of_ble_eq_true rfl)) dL_law_638 ⟨by show 32 + j + 1 + 0 ≤ 1073; omega, by show 5140 + 6 * j + 6 + 0 ≤ 13434; omega⟩) hS hP (fun H locs hP hS => ?_)
    refine lv_iload hx hb dL_law_641 (lv_at hl 1 rfl) ?_
    refine lv_icmp_eq (tgt := 648) hx hb dL_law_643 (by decide) (fun c9 => ?_) (fun c9 => ?_)
    · refine lv_iload hx hb dL_law_648 (lv_at hl 1 rfl) ?_
      refine lv_if_ne (tgt := 665) hx hb dL_law_650 (by decide) (fun c9 => ?_) (fun c9 => ?_)
      · exact absurd (rfl) c9
      · refine lv_aload_n hx hb dL_law_653 rfl (lv_at hl 5 rfl) ?_
        refine lv_iconst (v := 0) hx hb dL_law_654 (by decide) ?_
        refine va_lald hx hb hG.2 hP 20 0 rfl rfl (vp_in_nI (n := 0) (by decide) (by decide)) dL_law_655 ?_
        refine lv_iload hx hb dL_law_656 (lv_at hl 0 rfl) ?_
        refine lv_i2l (v := ((f_X3_setRule mu mf (xs ((nI (5 * j)) + 1).toNatClampNeg) (xs ((nI (5 * j)) + 2).toNatClampNeg)).1).toInt64) hx hb dL_law_658 rfl ?_
        refine W.lcmp hx hb dL_law_659 ?_
        refine lv_if_eq (tgt := 665) hx hb dL_law_660 (by decide) (fun c9 => ?_) (fun c9 => ?_)
        · refine lv_goto (tgt := 1475) hx hb dL_law_665 (by decide) ?_
          exact KK zb zo zt zm ((f_X2_setRule zu zf (xs ((nI (5 * j)) + 1).toNatClampNeg) (xs ((nI (5 * j)) + 2).toNatClampNeg)).2.1) zr zl ((f_X2_setRule zu zf (xs ((nI (5 * j)) + 1).toNatClampNeg) (xs ((nI (5 * j)) + 2).toNatClampNeg)).2.2) mc mw mn me ((f_X3_setRule mu mf (xs ((nI (5 * j)) + 1).toNatClampNeg) (xs ((nI (5 * j)) + 2).toNatClampNeg)).2.1) mr mz ((f_X3_setRule mu mf (xs ((nI (5 * j)) + 1).toNatClampNeg) (xs ((nI (5 * j)) + 2).toNatClampNeg)).2.2.1) ((f_X3_setRule mu mf (xs ((nI (5 * j)) + 1).toNatClampNeg) (xs ((nI (5 * j)) + 2).toNatClampNeg)).2.2.2) (vp_updL go (0 : Int32).toNatClampNeg ((f_X2_setRule zu zf (xs ((nI (5 * j)) + 1).toNatClampNeg) (xs ((nI (5 * j)) + 2).toNatClampNeg)).1).toInt64) _ _ ls R' hP hD hS (lv_sub hl [2, 3, 4, 5, 6] rfl)
        · exact absurd (eC) c9
    · exact absurd (eT) c9
  · rcases x_setRule (p1 := (xs ((nI (5 * j)) + 1).toNatClampNeg)) (p2 := (xs ((nI (5 * j)) + 2).toNatClampNeg)) with h9 | h9 | h9
    · exact absurd h9 eX0
    · have eX : f_X2_setRule_x (xs ((nI (5 * j)) + 1).toNatClampNeg) (xs ((nI (5 * j)) + 2).toNatClampNeg) = 1 := h9
      have eT9 : f_X3_thrown ((f_X3_setRule mu mf (xs ((nI (5 * j)) + 1).toNatClampNeg) (xs ((nI (5 * j)) + 2).toNatClampNeg)).2.2.2) = 1 := by rw [h9] at eT; exact eT
      refine lv_aload_n hx hb dL_law_600 rfl (lv_at hl 1 rfl) ?_
      refine lv_aload_n hx hb dL_law_601 rfl (lv_at hl 0 rfl) ?_
      refine lv_iload hx hb dL_law_602 (lv_at hl 4 rfl) ?_
      refine lv_iconst (v := 1) hx hb dL_law_604 (by decide) ?_
      refine lv_iadd hx hb dL_law_605 ?_
      refine va_sld hx hb hX hbl hbA hS hv1 dL_law_606 ?_
      refine lv_aload_n hx hb dL_law_607 rfl (lv_at hl 0 rfl) ?_
      refine lv_iload hx hb dL_law_608 (lv_at hl 4 rfl) ?_
      refine lv_iconst (v := 2) hx hb dL_law_610 (by decide) ?_
      refine lv_iadd hx hb dL_law_611 ?_
      refine va_sld hx hb hX hbl hbA hS hv2 dL_law_612 ?_
      refine lv_aload_n hx hb dL_law_613 rfl (lv_at hl 3 rfl) ?_
      refine mr_iG (vx_runSW (As := [.ref (ad 0), .int (xs ((nI (5 * j)) + 1).toNatClampNeg), .int (xs ((nI (5 * j)) + 2).toNatClampNeg), .ref oo]) (rest := []) ⟨hx, hb, hml, hown, htl⟩ (t_L_setRule_1 l hlt D cyI cyZ cyJ ad oo zb zo zt zm zu zr zl zf go (xs ((nI (5 * j)) + 1).toNatClampNeg) (xs ((nI (5 * j)) + 2).toNatClampNeg) _ _ rfl eX) (vx_cwSW 4 htl gL_law_L_setRule rfl rfl rfl (by decide +kernel) ⟨Nat.le_of_ble_eq_true rfl, Nat.le_of_ble_eq_true rfl⟩) (poS hG (hz.kept2 hS) hn (hP.sub (ws' := wO cyI cyZ cyJ ad zb zo zt zm zu zr zl zf oo go) [0, 1, 2, 3, 4, 5, 6, 7, 8, 9, 10, 11, 12, 13, 14, 15, 16, 17, 18, 19, 20] rfl) (hD.sub (ws' := wO cyI cyZ cyJ ad zb zo zt zm zu zr zl zf oo go) [0, 1, 2, 3, 4, 5, 6, 7, 8, 9, 10, 11, 12, 13, 14, 15, 16, 17, 18, 19, 20] (by decide) rfl)) rfl rfl hl.1 rfl (lv_room (Nat.le_of_ble_eq_true rfl)) dL_law_614 ⟨by show 32 + j + 1 ≤ 1073; omega, by show 5140 + 6 * j + 6 ≤ 13434; omega⟩) hP hD hS hA [0, 1, 2, 3, 4, 5, 6, 7, 8, 9, 10, 11, 12, 13, 14, 15, 16, 17, 18, 19, 20] [21, 22, 23, 24, 25, 26, 27, 28, 29, 30, 31] [11, 12, 13, 14, 15, 16, 17, 18, 19, 20, 21, 22, 23, 24, 25, 26, 27, 28, 29, 30, 31, 0, 1, 2, 3, 4, 5, 6, 7, 8, 9, 10] rfl rfl (by decide) (by decide) (by decide) (w2 := wA cyI cyZ cyJ ad zb zo zt zm zu zr zl zf oo go am mc mw mn me mu mr mz mf mt) rfl (fun H locs hP hD hS => ?_)
      have hP : va_P D vwCl (wA cyI cyZ cyJ ad zb zo zt zm zu zr zl zf oo go am mc mw mn me mu mr mz mf mt) H := hP
      have hD : va_D (fun q : Nat => s.heap.size ≤ q) (wA cyI cyZ cyJ ad zb zo zt zm zu zr zl zf oo go am mc mw mn me mu mr mz mf mt) := hD
      refine W.widen (k := 32 + j + 1) (n := 5140 + 6 * j + 6) (by omega) (by omega) ?_
      refine lv_istore (lv' := [(5, .int 1), (0, .ref b), (1, .ref (ad 0)), (2, .ref (am 0)), (3, .ref oo), (4, .int (nI (5 * j)))]) hx hb dL_law_617 hl (by decide) rfl (fun ls hl => ?_)
      refine lv_aload_n hx hb dL_law_619 rfl (lv_at hl 3 rfl) ?_
      refine lv_aload_n hx hb dL_law_620 rfl (lv_at hl 1 rfl) ?_
      refine lv_iload hx hb dL_law_621 (lv_at hl 5 rfl) ?_
      refine lv_iconst (v := 1) hx hb dL_law_623 (by decide) ?_
      refine lv_iadd hx hb dL_law_624 ?_
      refine va_sld hx hb hX hbl hbA hS hv1 dL_law_625 ?_
      refine lv_aload_n hx hb dL_law_626 rfl (lv_at hl 1 rfl) ?_
      refine lv_iload hx hb dL_law_627 (lv_at hl 5 rfl) ?_
      refine lv_iconst (v := 2) hx hb dL_law_629 (by decide) ?_
      refine lv_iadd hx hb dL_law_630 ?_
      refine va_sld hx hb hX hbl hbA hS hv2 dL_law_631 ?_
      refine mr_iG (va_runV (As := [.int (xs ((nI (5 * j)) + 1).toNatClampNeg), .int (xs ((nI (5 * j)) + 2).toNatClampNeg)]) (rest := []) ⟨hx, hb, hml, hown, htl⟩ (k_X3_setRule l D cyI cyZ am mc mw mn me mu mr mz mf mt (xs ((nI (5 * j)) + 1).toNatClampNeg) (xs ((nI (5 * j)) + 2).toNatClampNeg) _ _ rfl) (cwV 2 htl gL_law_X3_setRule rfl rfl rfl (by decide +kernel) ⟨Nat.le_of_ble_eq_true rfl, Nat.le_of_ble_eq_true rfl⟩) (pmV hG.1 (hP.sub (ws' := wN cyI cyZ am mc mw mn me mu mr mz mf mt) [21, 22, 23, 24, 25, 26, 27, 28, 29, 30, 31] rfl) (hD.sub (ws' := wN cyI cyZ am mc mw mn me mu mr mz mf mt) [21, 22, 23, 24, 25, 26, 27, 28, 29, 30, 31] (by decide) rfl) (ci := 3) rfl rfl rfl) rfl rfl hl.1 rfl (lv_room (Nat.le_of_ble_eq_true rfl)) dL_law_632 ⟨by show 32 + j + 1 + 0 ≤ 1073; omega, by show 5140 + 6 * j + 6 + 0 ≤ 13434; omega⟩) hP hD hS hA [21, 22, 23, 24, 25, 26, 27, 28, 29, 30, 31] [0, 1, 2, 3, 4, 5, 6, 7, 8, 9, 10, 11, 12, 13, 14, 15, 16, 17, 18, 19, 20] [0, 1, 2, 3, 4, 5, 6, 7, 8, 9, 10, 11, 12, 13, 14, 15, 16, 17, 18, 19, 20, 21, 22, 23, 24, 25, 26, 27, 28, 29, 30, 31] rfl rfl (by decide) (by decide) (by decide) (w2 := wA cyI cyZ cyJ ad zb zo zt zm zu zr zl zf oo go am mc mw mn me (f_X3_setRule mu mf (xs ((nI (5 * j)) + 1).toNatClampNeg) (xs ((nI (5 * j)) + 2).toNatClampNeg)).2.1 mr mz (f_X3_setRule mu mf (xs ((nI (5 * j)) + 1).toNatClampNeg) (xs ((nI (5 * j)) + 2).toNatClampNeg)).2.2.1 (f_X3_setRule mu mf (xs ((nI (5 * j)) + 1).toNatClampNeg) (xs ((nI (5 * j)) + 2).toNatClampNeg)).2.2.2) rfl (fun H locs hP hD hS => ?_)
      have hP : va_P D vwCl (wA cyI cyZ cyJ ad zb zo zt zm zu zr zl zf oo go am mc mw mn me (f_X3_setRule mu mf (xs ((nI (5 * j)) + 1).toNatClampNeg) (xs ((nI (5 * j)) + 2).toNatClampNeg)).2.1 mr mz (f_X3_setRule mu mf (xs ((nI (5 * j)) + 1).toNatClampNeg) (xs ((nI (5 * j)) + 2).toNatClampNeg)).2.2.1 (f_X3_setRule mu mf (xs ((nI (5 * j)) + 1).toNatClampNeg) (xs ((nI (5 * j)) + 2).toNatClampNeg)).2.2.2) H := hP
      have hD : va_D (fun q : Nat => s.heap.size ≤ q) (wA cyI cyZ cyJ ad zb zo zt zm zu zr zl zf oo go am mc mw mn me (f_X3_setRule mu mf (xs ((nI (5 * j)) + 1).toNatClampNeg) (xs ((nI (5 * j)) + 2).toNatClampNeg)).2.1 mr mz (f_X3_setRule mu mf (xs ((nI (5 * j)) + 1).toNatClampNeg) (xs ((nI (5 * j)) + 2).toNatClampNeg)).2.2.1 (f_X3_setRule mu mf (xs ((nI (5 * j)) + 1).toNatClampNeg) (xs ((nI (5 * j)) + 2).toNatClampNeg)).2.2.2) := hD
      refine lv_istore (lv' := [(6, .int ((f_X3_setRule mu mf (xs ((nI (5 * j)) + 1).toNatClampNeg) (xs ((nI (5 * j)) + 2).toNatClampNeg)).1)), (5, .int 1), (0, .ref b), (1, .ref (ad 0)), (2, .ref (am 0)), (3, .ref oo), (4, .int (nI (5 * j)))]) hx hb dL_law_635 hl (by decide) rfl (fun ls hl => ?_)
      refine lv_aload_n hx hb dL_law_637 rfl (lv_at hl 4 rfl) ?_
      refine pr_i (va_runV (As := []) (rest := []) ⟨hx, hb, hml, hown, htl⟩ (k_X3_thrown l D cyI cyZ am mc mw mn me ((f_X3_setRule mu mf (xs ((nI (5 * j)) + 1).toNatClampNeg) (xs ((nI (5 * j)) + 2).toNatClampNeg)).2.1) mr mz ((f_X3_setRule mu mf (xs ((nI (5 * j)) + 1).toNatClampNeg) (xs ((nI (5 * j)) + 2).toNatClampNeg)).2.2.1) ((f_X3_setRule mu mf (xs ((nI (5 * j)) + 1).toNatClampNeg) (xs ((nI (5 * j)) + 2).toNatClampNeg)).2.2.2)) (cwV 0 htl gL_law_X3_thrown rfl rfl rfl (by decide +kernel) ⟨Nat.le_of_ble_eq_true rfl, Nat.le_of_ble_eq_true rfl⟩) (prV hG.1 (hP.sub (ws' := wN cyI cyZ am mc mw mn me ((f_X3_setRule mu mf (xs ((nI (5 * j)) + 1).toNatClampNeg) (xs ((nI (5 * j)) + 2).toNatClampNeg)).2.1) mr mz ((f_X3_setRule mu mf (xs ((nI (5 * j)) + 1).toNatClampNeg) (xs ((nI (5 * j)) + 2).toNatClampNeg)).2.2.1) ((f_X3_setRule mu mf (xs ((nI (5 * j)) + 1).toNatClampNeg) (xs ((nI (5 * j)) + 2).toNatClampNeg)).2.2.2)) [21, 22, 23, 24, 25, 26, 27, 28, 29, 30, 31] rfl) (ci := 3) rfl rfl rfl) rfl rfl hl.1 rfl (lv_room (Nat.le_of_ble_eq_true rfl)) dL_law_638 ⟨by show 32 + j + 1 + 0 ≤ 1073; omega, by show 5140 + 6 * j + 6 + 0 ≤ 13434; omega⟩) hS hP (fun H locs hP hS => ?_)
      refine lv_iload hx hb dL_law_641 (lv_at hl 1 rfl) ?_
      refine lv_icmp_eq (tgt := 648) hx hb dL_law_643 (by decide) (fun c9 => ?_) (fun c9 => ?_)
      · refine lv_iload hx hb dL_law_648 (lv_at hl 1 rfl) ?_
        refine lv_if_ne (tgt := 665) hx hb dL_law_650 (by decide) (fun c9 => ?_) (fun c9 => ?_)
        · refine lv_goto (tgt := 1475) hx hb dL_law_665 (by decide) ?_
          exact KK zb zo zt zm zu zr zl zf mc mw mn me ((f_X3_setRule mu mf (xs ((nI (5 * j)) + 1).toNatClampNeg) (xs ((nI (5 * j)) + 2).toNatClampNeg)).2.1) mr mz ((f_X3_setRule mu mf (xs ((nI (5 * j)) + 1).toNatClampNeg) (xs ((nI (5 * j)) + 2).toNatClampNeg)).2.2.1) ((f_X3_setRule mu mf (xs ((nI (5 * j)) + 1).toNatClampNeg) (xs ((nI (5 * j)) + 2).toNatClampNeg)).2.2.2) go _ _ ls R' hP hD hS (lv_sub hl [2, 3, 4, 5, 6] rfl)
        · exact absurd c9 (by decide)
      · exact absurd (eT9) c9
    · have eX : f_X2_setRule_x (xs ((nI (5 * j)) + 1).toNatClampNeg) (xs ((nI (5 * j)) + 2).toNatClampNeg) = 2 := h9
      have eT9 : f_X3_thrown ((f_X3_setRule mu mf (xs ((nI (5 * j)) + 1).toNatClampNeg) (xs ((nI (5 * j)) + 2).toNatClampNeg)).2.2.2) = 2 := by rw [h9] at eT; exact eT
      refine lv_aload_n hx hb dL_law_600 rfl (lv_at hl 1 rfl) ?_
      refine lv_aload_n hx hb dL_law_601 rfl (lv_at hl 0 rfl) ?_
      refine lv_iload hx hb dL_law_602 (lv_at hl 4 rfl) ?_
      refine lv_iconst (v := 1) hx hb dL_law_604 (by decide) ?_
      refine lv_iadd hx hb dL_law_605 ?_
      refine va_sld hx hb hX hbl hbA hS hv1 dL_law_606 ?_
      refine lv_aload_n hx hb dL_law_607 rfl (lv_at hl 0 rfl) ?_
      refine lv_iload hx hb dL_law_608 (lv_at hl 4 rfl) ?_
      refine lv_iconst (v := 2) hx hb dL_law_610 (by decide) ?_
      refine lv_iadd hx hb dL_law_611 ?_
      refine va_sld hx hb hX hbl hbA hS hv2 dL_law_612 ?_
      refine lv_aload_n hx hb dL_law_613 rfl (lv_at hl 3 rfl) ?_
      refine mr_iG (vx_runSW (As := [.ref (ad 0), .int (xs ((nI (5 * j)) + 1).toNatClampNeg), .int (xs ((nI (5 * j)) + 2).toNatClampNeg), .ref oo]) (rest := []) ⟨hx, hb, hml, hown, htl⟩ (t_L_setRule_2 l hlt D cyI cyZ cyJ ad oo zb zo zt zm zu zr zl zf go (xs ((nI (5 * j)) + 1).toNatClampNeg) (xs ((nI (5 * j)) + 2).toNatClampNeg) _ _ rfl eX) (vx_cwSW 4 htl gL_law_L_setRule rfl rfl rfl (by decide +kernel) ⟨Nat.le_of_ble_eq_true rfl, Nat.le_of_ble_eq_true rfl⟩) (poS hG (hz.kept2 hS) hn (hP.sub (ws' := wO cyI cyZ cyJ ad zb zo zt zm zu zr zl zf oo go) [0, 1, 2, 3, 4, 5, 6, 7, 8, 9, 10, 11, 12, 13, 14, 15, 16, 17, 18, 19, 20] rfl) (hD.sub (ws' := wO cyI cyZ cyJ ad zb zo zt zm zu zr zl zf oo go) [0, 1, 2, 3, 4, 5, 6, 7, 8, 9, 10, 11, 12, 13, 14, 15, 16, 17, 18, 19, 20] (by decide) rfl)) rfl rfl hl.1 rfl (lv_room (Nat.le_of_ble_eq_true rfl)) dL_law_614 ⟨by show 32 + j + 1 ≤ 1073; omega, by show 5140 + 6 * j + 6 ≤ 13434; omega⟩) hP hD hS hA [0, 1, 2, 3, 4, 5, 6, 7, 8, 9, 10, 11, 12, 13, 14, 15, 16, 17, 18, 19, 20] [21, 22, 23, 24, 25, 26, 27, 28, 29, 30, 31] [11, 12, 13, 14, 15, 16, 17, 18, 19, 20, 21, 22, 23, 24, 25, 26, 27, 28, 29, 30, 31, 0, 1, 2, 3, 4, 5, 6, 7, 8, 9, 10] rfl rfl (by decide) (by decide) (by decide) (w2 := wA cyI cyZ cyJ ad zb zo zt zm zu zr zl zf oo go am mc mw mn me mu mr mz mf mt) rfl (fun H locs hP hD hS => ?_)
      have hP : va_P D vwCl (wA cyI cyZ cyJ ad zb zo zt zm zu zr zl zf oo go am mc mw mn me mu mr mz mf mt) H := hP
      have hD : va_D (fun q : Nat => s.heap.size ≤ q) (wA cyI cyZ cyJ ad zb zo zt zm zu zr zl zf oo go am mc mw mn me mu mr mz mf mt) := hD
      refine W.widen (k := 32 + j + 1) (n := 5140 + 6 * j + 6) (by omega) (by omega) ?_
      refine lv_istore (lv' := [(5, .int 2), (0, .ref b), (1, .ref (ad 0)), (2, .ref (am 0)), (3, .ref oo), (4, .int (nI (5 * j)))]) hx hb dL_law_617 hl (by decide) rfl (fun ls hl => ?_)
      refine lv_aload_n hx hb dL_law_619 rfl (lv_at hl 3 rfl) ?_
      refine lv_aload_n hx hb dL_law_620 rfl (lv_at hl 1 rfl) ?_
      refine lv_iload hx hb dL_law_621 (lv_at hl 5 rfl) ?_
      refine lv_iconst (v := 1) hx hb dL_law_623 (by decide) ?_
      refine lv_iadd hx hb dL_law_624 ?_
      refine va_sld hx hb hX hbl hbA hS hv1 dL_law_625 ?_
      refine lv_aload_n hx hb dL_law_626 rfl (lv_at hl 1 rfl) ?_
      refine lv_iload hx hb dL_law_627 (lv_at hl 5 rfl) ?_
      refine lv_iconst (v := 2) hx hb dL_law_629 (by decide) ?_
      refine lv_iadd hx hb dL_law_630 ?_
      refine va_sld hx hb hX hbl hbA hS hv2 dL_law_631 ?_
      refine mr_iG (va_runV (As := [.int (xs ((nI (5 * j)) + 1).toNatClampNeg), .int (xs ((nI (5 * j)) + 2).toNatClampNeg)]) (rest := []) ⟨hx, hb, hml, hown, htl⟩ (k_X3_setRule l D cyI cyZ am mc mw mn me mu mr mz mf mt (xs ((nI (5 * j)) + 1).toNatClampNeg) (xs ((nI (5 * j)) + 2).toNatClampNeg) _ _ rfl) (cwV 2 htl gL_law_X3_setRule rfl rfl rfl (by decide +kernel) ⟨Nat.le_of_ble_eq_true rfl, Nat.le_of_ble_eq_true rfl⟩) (pmV hG.1 (hP.sub (ws' := wN cyI cyZ am mc mw mn me mu mr mz mf mt) [21, 22, 23, 24, 25, 26, 27, 28, 29, 30, 31] rfl) (hD.sub (ws' := wN cyI cyZ am mc mw mn me mu mr mz mf mt) [21, 22, 23, 24, 25, 26, 27, 28, 29, 30, 31] (by decide) rfl) (ci := 3) rfl rfl rfl) rfl rfl hl.1 rfl (lv_room (Nat.le_of_ble_eq_true rfl)) dL_law_632 ⟨by show 32 + j + 1 + 0 ≤ 1073; omega, by show 5140 + 6 * j + 6 + 0 ≤ 13434; omega⟩) hP hD hS hA [21, 22, 23, 24, 25, 26, 27, 28, 29, 30, 31] [0, 1, 2, 3, 4, 5, 6, 7, 8, 9, 10, 11, 12, 13, 14, 15, 16, 17, 18, 19, 20] [0, 1, 2, 3, 4, 5, 6, 7, 8, 9, 10, 11, 12, 13, 14, 15, 16, 17, 18, 19, 20, 21, 22, 23, 24, 25, 26, 27, 28, 29, 30, 31] rfl rfl (by decide) (by decide) (by decide) (w2 := wA cyI cyZ cyJ ad zb zo zt zm zu zr zl zf oo go am mc mw mn me (f_X3_setRule mu mf (xs ((nI (5 * j)) + 1).toNatClampNeg) (xs ((nI (5 * j)) + 2).toNatClampNeg)).2.1 mr mz (f_X3_setRule mu mf (xs ((nI (5 * j)) + 1).toNatClampNeg) (xs ((nI (5 * j)) + 2).toNatClampNeg)).2.2.1 (f_X3_setRule mu mf (xs ((nI (5 * j)) + 1).toNatClampNeg) (xs ((nI (5 * j)) + 2).toNatClampNeg)).2.2.2) rfl (fun H locs hP hD hS => ?_)
      have hP : va_P D vwCl (wA cyI cyZ cyJ ad zb zo zt zm zu zr zl zf oo go am mc mw mn me (f_X3_setRule mu mf (xs ((nI (5 * j)) + 1).toNatClampNeg) (xs ((nI (5 * j)) + 2).toNatClampNeg)).2.1 mr mz (f_X3_setRule mu mf (xs ((nI (5 * j)) + 1).toNatClampNeg) (xs ((nI (5 * j)) + 2).toNatClampNeg)).2.2.1 (f_X3_setRule mu mf (xs ((nI (5 * j)) + 1).toNatClampNeg) (xs ((nI (5 * j)) + 2).toNatClampNeg)).2.2.2) H := hP
      have hD : va_D (fun q : Nat => s.heap.size ≤ q) (wA cyI cyZ cyJ ad zb zo zt zm zu zr zl zf oo go am mc mw mn me (f_X3_setRule mu mf (xs ((nI (5 * j)) + 1).toNatClampNeg) (xs ((nI (5 * j)) + 2).toNatClampNeg)).2.1 mr mz (f_X3_setRule mu mf (xs ((nI (5 * j)) + 1).toNatClampNeg) (xs ((nI (5 * j)) + 2).toNatClampNeg)).2.2.1 (f_X3_setRule mu mf (xs ((nI (5 * j)) + 1).toNatClampNeg) (xs ((nI (5 * j)) + 2).toNatClampNeg)).2.2.2) := hD
      refine lv_istore (lv' := [(6, .int ((f_X3_setRule mu mf (xs ((nI (5 * j)) + 1).toNatClampNeg) (xs ((nI (5 * j)) + 2).toNatClampNeg)).1)), (5, .int 2), (0, .ref b), (1, .ref (ad 0)), (2, .ref (am 0)), (3, .ref oo), (4, .int (nI (5 * j)))]) hx hb dL_law_635 hl (by decide) rfl (fun ls hl => ?_)
      refine lv_aload_n hx hb dL_law_637 rfl (lv_at hl 4 rfl) ?_
      refine pr_i (va_runV (As := []) (rest := []) ⟨hx, hb, hml, hown, htl⟩ (k_X3_thrown l D cyI cyZ am mc mw mn me ((f_X3_setRule mu mf (xs ((nI (5 * j)) + 1).toNatClampNeg) (xs ((nI (5 * j)) + 2).toNatClampNeg)).2.1) mr mz ((f_X3_setRule mu mf (xs ((nI (5 * j)) + 1).toNatClampNeg) (xs ((nI (5 * j)) + 2).toNatClampNeg)).2.2.1) ((f_X3_setRule mu mf (xs ((nI (5 * j)) + 1).toNatClampNeg) (xs ((nI (5 * j)) + 2).toNatClampNeg)).2.2.2)) (cwV 0 htl gL_law_X3_thrown rfl rfl rfl (by decide +kernel) ⟨Nat.le_of_ble_eq_true rfl, Nat.le_of_ble_eq_true rfl⟩) (prV hG.1 (hP.sub (ws' := wN cyI cyZ am mc mw mn me ((f_X3_setRule mu mf (xs ((nI (5 * j)) + 1).toNatClampNeg) (xs ((nI (5 * j)) + 2).toNatClampNeg)).2.1) mr mz ((f_X3_setRule mu mf (xs ((nI (5 * j)) + 1).toNatClampNeg) (xs ((nI (5 * j)) + 2).toNatClampNeg)).2.2.1) ((f_X3_setRule mu mf (xs ((nI (5 * j)) + 1).toNatClampNeg) (xs ((nI (5 * j)) + 2).toNatClampNeg)).2.2.2)) [21, 22, 23, 24, 25, 26, 27, 28, 29, 30, 31] rfl) (ci := 3) rfl rfl rfl) rfl rfl hl.1 rfl (lv_room (Nat.le_of_ble_eq_true rfl)) dL_law_638 ⟨by show 32 + j + 1 + 0 ≤ 1073; omega, by show 5140 + 6 * j + 6 + 0 ≤ 13434; omega⟩) hS hP (fun H locs hP hS => ?_)
      refine lv_iload hx hb dL_law_641 (lv_at hl 1 rfl) ?_
      refine lv_icmp_eq (tgt := 648) hx hb dL_law_643 (by decide) (fun c9 => ?_) (fun c9 => ?_)
      · refine lv_iload hx hb dL_law_648 (lv_at hl 1 rfl) ?_
        refine lv_if_ne (tgt := 665) hx hb dL_law_650 (by decide) (fun c9 => ?_) (fun c9 => ?_)
        · refine lv_goto (tgt := 1475) hx hb dL_law_665 (by decide) ?_
          exact KK zb zo zt zm zu zr zl zf mc mw mn me ((f_X3_setRule mu mf (xs ((nI (5 * j)) + 1).toNatClampNeg) (xs ((nI (5 * j)) + 2).toNatClampNeg)).2.1) mr mz ((f_X3_setRule mu mf (xs ((nI (5 * j)) + 1).toNatClampNeg) (xs ((nI (5 * j)) + 2).toNatClampNeg)).2.2.1) ((f_X3_setRule mu mf (xs ((nI (5 * j)) + 1).toNatClampNeg) (xs ((nI (5 * j)) + 2).toNatClampNeg)).2.2.2) go _ _ ls R' hP hD hS (lv_sub hl [2, 3, 4, 5, 6] rfl)
        · exact absurd c9 (by decide)
      · exact absurd (eT9) c9
set_option maxHeartbeats 4000000 in
set_option maxRecDepth 100000 in
theorem lw_setReference {p : Program} {l : Launch} {e : Env} {s : State} {m : MethodId} {below : List Frame} {meth : Method} {c : Code} {b L : Nat} {xs : Nat → Int32} (C0 : lw_At p s m meth c b L xs) (hlt : l.stackTraces = false) {D : va_G} {cyI cyZ cyJ : ClassId} (hG : gL D cyI cyZ cyJ s) (hz : zq s) (hn : zn s) {ad am : Nat → Nat} {oo j : Nat} (hL : L ≤ 2560) (hj : 5 * j + 5 ≤ L) (KK : lwK p l e s m below meth c b D cyI cyZ cyJ ad am oo j) {zb : Tr} {zo : Tr} {zt : Tr} {zm : Tr} {zu : Nat → Int32} {zr : Nat → Int32} {zl : Lr} {zf : Int32} {mc : Nat → Int32} {mw : Nat → Int32} {mn : Nat → Int32} {me : Nat → Int32} {mu : Nat → Int32} {mr : Nat → Int32} {mz : Kr} {mf : Int32} {mt : Int32} {go : Nat → Int64} (R : Rl zb zo zt zm zu zr zl zf mc mw mn me mu mr mz mf) {H : Heap} {locs : List Loc} {ls : Array Slot} (hP : va_P D vwCl (wA cyI cyZ cyJ ad zb zo zt zm zu zr zl zf oo go am mc mw mn me mu mr mz mf mt) H) (hD : va_D (fun q : Nat => s.heap.size ≤ q) (wA cyI cyZ cyJ ad zb zo zt zm zu zr zl zf oo go am mc mw mn me mu mr mz mf mt)) (hS : va_S (fun q : Nat => s.heap.size ≤ q) s.heap H locs) (hl : lv_has ls 7 [(0, .ref b), (1, .ref (ad 0)), (2, .ref (am 0)), (3, .ref oo), (4, .int (nI (5 * j)))]) : W p l e room_1 s m #[Value.ref b] below meth c H locs (32 + j) (5140 + 6 * j) (lw_Z below #[Value.ref b] s) (F0 m 668 ls []) := by
  obtain ⟨hx, hb, hr, hml, hown, hts, hX, hbl, hlocks, hgv⟩ := C0
  have htl : ∀ w ∈ wsL_law, w.before #[Value.ref b] s = true := fun w h => hts w (wsL_law_in w h)
  have hA : ∀ q : Nat, s.heap.size ≤ q → (fun q : Nat => s.heap.size ≤ q) q := fun _ h => h
  have hbA : ¬ (fun q : Nat => s.heap.size ≤ q) b := Nat.not_le.mpr hbl
  have hv1 : vp_in (nI (5 * j) + 1) L := by rw [show (1 : Int32) = nI 1 from rfl, nI_add]; exact vp_in_nI (by omega) (by omega)
  have hv2 : vp_in (nI (5 * j) + 2) L := by rw [show (2 : Int32) = nI 2 from rfl, nI_add]; exact vp_in_nI (by omega) (by omega)
  have hv3 : vp_in (nI (5 * j) + 3) L := by rw [show (3 : Int32) = nI 3 from rfl, nI_add]; exact vp_in_nI (by omega) (by omega)
  have hv4 : vp_in (nI (5 * j) + 4) L := by rw [show (4 : Int32) = nI 4 from rfl, nI_add]; exact vp_in_nI (by omega) (by omega)
  by_cases cz : (xs ((nI (5 * j)) + 2).toNatClampNeg) = 0
  · rcases s_setReference R (xs ((nI (5 * j)) + 1).toNatClampNeg) 0 (Or.inl rfl) with ⟨eX, eT, eA, R'⟩ | ⟨eX0, eT, R'⟩
    · by_cases cb : (f_X3_setReference mr mf (xs ((nI (5 * j)) + 1).toNatClampNeg) 0).1 = 0
      · have eC : lg_cmp ((vp_updL go (0 : Int32).toNatClampNeg (if (f_X2_setReference zr zf (xs ((nI (5 * j)) + 1).toNatClampNeg) 0).1 = 0 then (0 : Int64) else 1)) (0 : Int32).toNatClampNeg) 0 = 0 := by rw [pk_uLs, eA, if_pos cb]; exact lg_self _
        refine lv_aload_n hx hb dL_law_668 rfl (lv_at hl 1 rfl) ?_
        refine lv_aload_n hx hb dL_law_669 rfl (lv_at hl 0 rfl) ?_
        refine lv_iload hx hb dL_law_670 (lv_at hl 4 rfl) ?_
        refine lv_iconst (v := 1) hx hb dL_law_672 (by decide) ?_
        refine lv_iadd hx hb dL_law_673 ?_
        refine va_sld hx hb hX hbl hbA hS hv1 dL_law_674 ?_
        refine lv_aload_n hx hb dL_law_675 rfl (lv_at hl 0 rfl) ?_
        refine lv_iload hx hb dL_law_676 (lv_at hl 4 rfl) ?_
        refine lv_iconst (v := 2) hx hb dL_law_678 (by decide) ?_
        refine lv_iadd hx hb dL_law_679 ?_
        refine va_sld hx hb hX hbl hbA hS hv2 dL_law_680 ?_
        refine lv_if_eq (tgt := 688) hx hb dL_law_681 (by decide) (fun c9 => ?_) (fun c9 => ?_)
        · refine lv_iconst (v := 0) hx hb dL_law_688 (by decide) ?_
          refine lv_aload_n hx hb dL_law_689 rfl (lv_at hl 3 rfl) ?_
          refine mr_iG (vx_runSW (As := [.ref (ad 0), .int (xs ((nI (5 * j)) + 1).toNatClampNeg), .int 0, .ref oo]) (rest := []) ⟨hx, hb, hml, hown, htl⟩ (k_L_setReference l D cyI cyZ cyJ ad oo zb zo zt zm zu zr zl zf go (xs ((nI (5 * j)) + 1).toNatClampNeg) 0 _ _ rfl (Or.inl rfl) eX) (vx_cwSW 4 htl gL_law_L_setReference rfl rfl rfl (by decide +kernel) ⟨Nat.le_of_ble_eq_true rfl, Nat.le_of_ble_eq_true rfl⟩) (poS hG (hz.kept2 hS) hn (hP.sub (ws' := wO cyI cyZ cyJ ad zb zo zt zm zu zr zl zf oo go) [0, 1, 2, 3, 4, 5, 6, 7, 8, 9, 10, 11, 12, 13, 14, 15, 16, 17, 18, 19, 20] rfl) (hD.sub (ws' := wO cyI cyZ cyJ ad zb zo zt zm zu zr zl zf oo go) [0, 1, 2, 3, 4, 5, 6, 7, 8, 9, 10, 11, 12, 13, 14, 15, 16, 17, 18, 19, 20] (by decide) rfl)) rfl rfl hl.1 rfl (lv_room (Nat.le_of_ble_eq_true rfl)) dL_law_690 ⟨by show 32 + j + 0 ≤ 1073; omega, by show 5140 + 6 * j + 0 ≤ 13434; omega⟩) hP hD hS hA [0, 1, 2, 3, 4, 5, 6, 7, 8, 9, 10, 11, 12, 13, 14, 15, 16, 17, 18, 19, 20] [21, 22, 23, 24, 25, 26, 27, 28, 29, 30, 31] [11, 12, 13, 14, 15, 16, 17, 18, 19, 20, 21, 22, 23, 24, 25, 26, 27, 28, 29, 30, 31, 0, 1, 2, 3, 4, 5, 6, 7, 8, 9, 10] rfl rfl (by decide) (by decide) (by decide) (w2 := wA cyI cyZ cyJ ad zb zo zt zm zu (f_X2_setReference zr zf (xs ((nI (5 * j)) + 1).toNatClampNeg) 0).2.1 zl (f_X2_setReference zr zf (xs ((nI (5 * j)) + 1).toNatClampNeg) 0).2.2 oo (vp_updL go (0 : Int32).toNatClampNeg (if (f_X2_setReference zr zf (xs ((nI (5 * j)) + 1).toNatClampNeg) 0).1 = 0 then (0 : Int64) else 1)) am mc mw mn me mu mr mz mf mt) rfl (fun H locs hP hD hS => ?_)
          have hP : va_P D vwCl (wA cyI cyZ cyJ ad zb zo zt zm zu (f_X2_setReference zr zf (xs ((nI (5 * j)) + 1).toNatClampNeg) 0).2.1 zl (f_X2_setReference zr zf (xs ((nI (5 * j)) + 1).toNatClampNeg) 0).2.2 oo (vp_updL go (0 : Int32).toNatClampNeg (if (f_X2_setReference zr zf (xs ((nI (5 * j)) + 1).toNatClampNeg) 0).1 = 0 then (0 : Int64) else 1)) am mc mw mn me mu mr mz mf mt) H := hP
          have hD : va_D (fun q : Nat => s.heap.size ≤ q) (wA cyI cyZ cyJ ad zb zo zt zm zu (f_X2_setReference zr zf (xs ((nI (5 * j)) + 1).toNatClampNeg) 0).2.1 zl (f_X2_setReference zr zf (xs ((nI (5 * j)) + 1).toNatClampNeg) 0).2.2 oo (vp_updL go (0 : Int32).toNatClampNeg (if (f_X2_setReference zr zf (xs ((nI (5 * j)) + 1).toNatClampNeg) 0).1 = 0 then (0 : Int64) else 1)) am mc mw mn me mu mr mz mf mt) := hD
          refine W.widen (k := 32 + j + 1) (n := 5140 + 6 * j + 6) (by omega) (by omega) ?_
          refine lv_istore (lv' := [(5, .int 0), (0, .ref b), (1, .ref (ad 0)), (2, .ref (am 0)), (3, .ref oo), (4, .int (nI (5 * j)))]) hx hb dL_law_693 hl (by decide) rfl (fun ls hl => ?_)
          refine lv_aload_n hx hb dL_law_695 rfl (lv_at hl 3 rfl) ?_
          refine lv_aload_n hx hb dL_law_696 rfl (lv_at hl 1 rfl) ?_
          refine lv_iload hx hb dL_law_697 (lv_at hl 5 rfl) ?_
          refine lv_iconst (v := 1) hx hb dL_law_699 (by decide) ?_
          refine lv_iadd hx hb dL_law_700 ?_
          refine va_sld hx hb hX hbl hbA hS hv1 dL_law_701 ?_
          refine lv_aload_n hx hb dL_law_702 rfl (lv_at hl 1 rfl) ?_
          refine lv_iload hx hb dL_law_703 (lv_at hl 5 rfl) ?_
          refine lv_iconst (v := 2) hx hb dL_law_705 (by decide) ?_
          refine lv_iadd hx hb dL_law_706 ?_
          refine va_sld hx hb hX hbl hbA hS hv2 dL_law_707 ?_
          refine lv_if_eq (tgt := 715) hx hb dL_law_708 (by decide) (fun c9 => ?_) (fun c9 => ?_)
          · refine lv_iconst (v := 0) hx hb dL_law_715 (by decide) ?_
            refine mr_iG (va_runV (As := [.int (xs ((nI (5 * j)) + 1).toNatClampNeg), .int 0]) (rest := []) ⟨hx, hb, hml, hown, htl⟩ (k_X3_setReference l D cyI cyZ am mc mw mn me mu mr mz mf mt (xs ((nI (5 * j)) + 1).toNatClampNeg) 0 _ _ rfl (Or.inl rfl)) (cwV 2 htl gL_law_X3_setReference rfl rfl rfl (by decide +kernel) ⟨Nat.le_of_ble_eq_true rfl, Nat.le_of_ble_eq_true rfl⟩) (pmV hG.1 (hP.sub (ws' := wN cyI cyZ am mc mw mn me mu mr mz mf mt) [21, 22, 23, 24, 25, 26, 27, 28, 29, 30, 31] rfl) (hD.sub (ws' := wN cyI cyZ am mc mw mn me mu mr mz mf mt) [21, 22, 23, 24, 25, 26, 27, 28, 29, 30, 31] (by decide) rfl) (ci := 3) rfl rfl rfl) rfl rfl hl.1 rfl (lv_room (Nat.le_of_ble_eq_true rfl)) dL_law_716 ⟨by show 32 + j + 1 + 0 ≤ 1073; omega, by show 5140 + 6 * j + 6 + 0 ≤ 13434; omega⟩) hP hD hS hA [21, 22, 23, 24, 25, 26, 27, 28, 29, 30, 31] [0, 1, 2, 3, 4, 5, 6, 7, 8, 9, 10, 11, 12, 13, 14, 15, 16, 17, 18, 19, 20] [0, 1, 2, 3, 4, 5, 6, 7, 8, 9, 10, 11, 12, 13, 14, 15, 16, 17, 18, 19, 20, 21, 22, 23, 24, 25, 26, 27, 28, 29, 30, 31] rfl rfl (by decide) (by decide) (by decide) (w2 := wA cyI cyZ cyJ ad zb zo zt zm zu (f_X2_setReference zr zf (xs ((nI (5 * j)) + 1).toNatClampNeg) 0).2.1 zl (f_X2_setReference zr zf (xs ((nI (5 * j)) + 1).toNatClampNeg) 0).2.2 oo (vp_updL go (0 : Int32).toNatClampNeg (if (f_X2_setReference zr zf (xs ((nI (5 * j)) + 1).toNatClampNeg) 0).1 = 0 then (0 : Int64) else 1)) am mc mw mn me mu (f_X3_setReference mr mf (xs ((nI (5 * j)) + 1).toNatClampNeg) 0).2.1 mz (f_X3_setReference mr mf (xs ((nI (5 * j)) + 1).toNatClampNeg) 0).2.2.1 (f_X3_setReference mr mf (xs ((nI (5 * j)) + 1).toNatClampNeg) 0).2.2.2) rfl (fun H locs hP hD hS => ?_)
            have hP : va_P D vwCl (wA cyI cyZ cyJ ad zb zo zt zm zu (f_X2_setReference zr zf (xs ((nI (5 * j)) + 1).toNatClampNeg) 0).2.1 zl (f_X2_setReference zr zf (xs ((nI (5 * j)) + 1).toNatClampNeg) 0).2.2 oo (vp_updL go (0 : Int32).toNatClampNeg (if (f_X2_setReference zr zf (xs ((nI (5 * j)) + 1).toNatClampNeg) 0).1 = 0 then (0 : Int64) else 1)) am mc mw mn me mu (f_X3_setReference mr mf (xs ((nI (5 * j)) + 1).toNatClampNeg) 0).2.1 mz (f_X3_setReference mr mf (xs ((nI (5 * j)) + 1).toNatClampNeg) 0).2.2.1 (f_X3_setReference mr mf (xs ((nI (5 * j)) + 1).toNatClampNeg) 0).2.2.2) H := hP
            have hD : va_D (fun q : Nat => s.heap.size ≤ q) (wA cyI cyZ cyJ ad zb zo zt zm zu (f_X2_setReference zr zf (xs ((nI (5 * j)) + 1).toNatClampNeg) 0).2.1 zl (f_X2_setReference zr zf (xs ((nI (5 * j)) + 1).toNatClampNeg) 0).2.2 oo (vp_updL go (0 : Int32).toNatClampNeg (if (f_X2_setReference zr zf (xs ((nI (5 * j)) + 1).toNatClampNeg) 0).1 = 0 then (0 : Int64) else 1)) am mc mw mn me mu (f_X3_setReference mr mf (xs ((nI (5 * j)) + 1).toNatClampNeg) 0).2.1 mz (f_X3_setReference mr mf (xs ((nI (5 * j)) + 1).toNatClampNeg) 0).2.2.1 (f_X3_setReference mr mf (xs ((nI (5 * j)) + 1).toNatClampNeg) 0).2.2.2) := hD
            refine lv_istore (lv' := [(6, .int ((f_X3_setReference mr mf (xs ((nI (5 * j)) + 1).toNatClampNeg) 0).1)), (5, .int 0), (0, .ref b), (1, .ref (ad 0)), (2, .ref (am 0)), (3, .ref oo), (4, .int (nI (5 * j)))]) hx hb dL_law_719 hl (by decide) rfl (fun ls hl => ?_)
            refine lv_aload_n hx hb dL_law_721 rfl (lv_at hl 4 rfl) ?_
            refine pr_i (va_runV (As := []) (rest := []) ⟨hx, hb, hml, hown, htl⟩ (k_X3_thrown l D cyI cyZ am mc mw mn me mu ((f_X3_setReference mr mf (xs ((nI (5 * j)) + 1).toNatClampNeg) 0).2.1) mz ((f_X3_setReference mr mf (xs ((nI (5 * j)) + 1).toNatClampNeg) 0).2.2.1) ((f_X3_setReference mr mf (xs ((nI (5 * j)) + 1).toNatClampNeg) 0).2.2.2)) (cwV 0 htl gL_law_X3_thrown rfl rfl rfl (by decide +kernel) ⟨Nat.le_of_ble_eq_true rfl, Nat.le_of_ble_eq_true rfl⟩) (prV hG.1 (hP.sub (ws' := wN cyI cyZ am mc mw mn me mu ((f_X3_setReference mr mf (xs ((nI (5 * j)) + 1).toNatClampNeg) 0).2.1) mz ((f_X3_setReference mr mf (xs ((nI (5 * j)) + 1).toNatClampNeg) 0).2.2.1) ((f_X3_setReference mr mf (xs ((nI (5 * j)) + 1).toNatClampNeg) 0).2.2.2)) [21, 22, 23, 24, 25, 26, 27, 28, 29, 30, 31] rfl) (ci := 3) rfl rfl rfl) rfl rfl hl.1 rfl (lv_room (Nat.le_of_ble_eq_true rfl)) dL_law_722 ⟨by show 32 + j + 1 + 0 ≤ 1073; omega, by show 5140 + 6 * j + 6 + 0 ≤ 13434; omega⟩) hS hP (fun H locs hP hS => ?_)
            refine lv_iload hx hb dL_law_725 (lv_at hl 1 rfl) ?_
            refine lv_icmp_eq (tgt := 732) hx hb dL_law_727 (by decide) (fun c9 => ?_) (fun c9 => ?_)
            · refine lv_iload hx hb dL_law_732 (lv_at hl 1 rfl) ?_
              refine lv_if_ne (tgt := 756) hx hb dL_law_734 (by decide) (fun c9 => ?_) (fun c9 => ?_)
              · exact absurd (rfl) c9
              · refine lv_aload_n hx hb dL_law_737 rfl (lv_at hl 5 rfl) ?_
                refine lv_iconst (v := 0) hx hb dL_law_738 (by decide) ?_
                refine va_lald hx hb hG.2 hP 20 0 rfl rfl (vp_in_nI (n := 0) (by decide) (by decide)) dL_law_739 ?_
                refine lv_iload hx hb dL_law_740 (lv_at hl 0 rfl) ?_
                refine lv_if_eq (tgt := 749) hx hb dL_law_742 (by decide) (fun c9 => ?_) (fun c9 => ?_)
                · refine lv_lconst (v := 0) hx hb dL_law_749 rfl ?_
                  refine W.lcmp hx hb dL_law_750 ?_
                  refine lv_if_eq (tgt := 756) hx hb dL_law_751 (by decide) (fun c9 => ?_) (fun c9 => ?_)
                  · refine lv_goto (tgt := 1475) hx hb dL_law_756 (by decide) ?_
                    exact KK zb zo zt zm zu ((f_X2_setReference zr zf (xs ((nI (5 * j)) + 1).toNatClampNeg) 0).2.1) zl ((f_X2_setReference zr zf (xs ((nI (5 * j)) + 1).toNatClampNeg) 0).2.2) mc mw mn me mu ((f_X3_setReference mr mf (xs ((nI (5 * j)) + 1).toNatClampNeg) 0).2.1) mz ((f_X3_setReference mr mf (xs ((nI (5 * j)) + 1).toNatClampNeg) 0).2.2.1) ((f_X3_setReference mr mf (xs ((nI (5 * j)) + 1).toNatClampNeg) 0).2.2.2) (vp_updL go (0 : Int32).toNatClampNeg (if (f_X2_setReference zr zf (xs ((nI (5 * j)) + 1).toNatClampNeg) 0).1 = 0 then (0 : Int64) else 1)) _ _ ls R' hP hD hS (lv_sub hl [2, 3, 4, 5, 6] rfl)
                  · exact absurd (eC) c9
                · exact absurd (cb) c9
            · exact absurd (eT) c9
          · exact absurd (cz) c9
        · exact absurd (cz) c9
      · have eC : lg_cmp ((vp_updL go (0 : Int32).toNatClampNeg (if (f_X2_setReference zr zf (xs ((nI (5 * j)) + 1).toNatClampNeg) 0).1 = 0 then (0 : Int64) else 1)) (0 : Int32).toNatClampNeg) 1 = 0 := by rw [pk_uLs, eA, if_neg cb]; exact lg_self _
        refine lv_aload_n hx hb dL_law_668 rfl (lv_at hl 1 rfl) ?_
        refine lv_aload_n hx hb dL_law_669 rfl (lv_at hl 0 rfl) ?_
        refine lv_iload hx hb dL_law_670 (lv_at hl 4 rfl) ?_
        refine lv_iconst (v := 1) hx hb dL_law_672 (by decide) ?_
        refine lv_iadd hx hb dL_law_673 ?_
        refine va_sld hx hb hX hbl hbA hS hv1 dL_law_674 ?_
        refine lv_aload_n hx hb dL_law_675 rfl (lv_at hl 0 rfl) ?_
        refine lv_iload hx hb dL_law_676 (lv_at hl 4 rfl) ?_
        refine lv_iconst (v := 2) hx hb dL_law_678 (by decide) ?_
        refine lv_iadd hx hb dL_law_679 ?_
        refine va_sld hx hb hX hbl hbA hS hv2 dL_law_680 ?_
        refine lv_if_eq (tgt := 688) hx hb dL_law_681 (by decide) (fun c9 => ?_) (fun c9 => ?_)
        · refine lv_iconst (v := 0) hx hb dL_law_688 (by decide) ?_
          refine lv_aload_n hx hb dL_law_689 rfl (lv_at hl 3 rfl) ?_
          refine mr_iG (vx_runSW (As := [.ref (ad 0), .int (xs ((nI (5 * j)) + 1).toNatClampNeg), .int 0, .ref oo]) (rest := []) ⟨hx, hb, hml, hown, htl⟩ (k_L_setReference l D cyI cyZ cyJ ad oo zb zo zt zm zu zr zl zf go (xs ((nI (5 * j)) + 1).toNatClampNeg) 0 _ _ rfl (Or.inl rfl) eX) (vx_cwSW 4 htl gL_law_L_setReference rfl rfl rfl (by decide +kernel) ⟨Nat.le_of_ble_eq_true rfl, Nat.le_of_ble_eq_true rfl⟩) (poS hG (hz.kept2 hS) hn (hP.sub (ws' := wO cyI cyZ cyJ ad zb zo zt zm zu zr zl zf oo go) [0, 1, 2, 3, 4, 5, 6, 7, 8, 9, 10, 11, 12, 13, 14, 15, 16, 17, 18, 19, 20] rfl) (hD.sub (ws' := wO cyI cyZ cyJ ad zb zo zt zm zu zr zl zf oo go) [0, 1, 2, 3, 4, 5, 6, 7, 8, 9, 10, 11, 12, 13, 14, 15, 16, 17, 18, 19, 20] (by decide) rfl)) rfl rfl hl.1 rfl (lv_room (Nat.le_of_ble_eq_true rfl)) dL_law_690 ⟨by show 32 + j + 0 ≤ 1073; omega, by show 5140 + 6 * j + 0 ≤ 13434; omega⟩) hP hD hS hA [0, 1, 2, 3, 4, 5, 6, 7, 8, 9, 10, 11, 12, 13, 14, 15, 16, 17, 18, 19, 20] [21, 22, 23, 24, 25, 26, 27, 28, 29, 30, 31] [11, 12, 13, 14, 15, 16, 17, 18, 19, 20, 21, 22, 23, 24, 25, 26, 27, 28, 29, 30, 31, 0, 1, 2, 3, 4, 5, 6, 7, 8, 9, 10] rfl rfl (by decide) (by decide) (by decide) (w2 := wA cyI cyZ cyJ ad zb zo zt zm zu (f_X2_setReference zr zf (xs ((nI (5 * j)) + 1).toNatClampNeg) 0).2.1 zl (f_X2_setReference zr zf (xs ((nI (5 * j)) + 1).toNatClampNeg) 0).2.2 oo (vp_updL go (0 : Int32).toNatClampNeg (if (f_X2_setReference zr zf (xs ((nI (5 * j)) + 1).toNatClampNeg) 0).1 = 0 then (0 : Int64) else 1)) am mc mw mn me mu mr mz mf mt) rfl (fun H locs hP hD hS => ?_)
          have hP : va_P D vwCl (wA cyI cyZ cyJ ad zb zo zt zm zu (f_X2_setReference zr zf (xs ((nI (5 * j)) + 1).toNatClampNeg) 0).2.1 zl (f_X2_setReference zr zf (xs ((nI (5 * j)) + 1).toNatClampNeg) 0).2.2 oo (vp_updL go (0 : Int32).toNatClampNeg (if (f_X2_setReference zr zf (xs ((nI (5 * j)) + 1).toNatClampNeg) 0).1 = 0 then (0 : Int64) else 1)) am mc mw mn me mu mr mz mf mt) H := hP
          have hD : va_D (fun q : Nat => s.heap.size ≤ q) (wA cyI cyZ cyJ ad zb zo zt zm zu (f_X2_setReference zr zf (xs ((nI (5 * j)) + 1).toNatClampNeg) 0).2.1 zl (f_X2_setReference zr zf (xs ((nI (5 * j)) + 1).toNatClampNeg) 0).2.2 oo (vp_updL go (0 : Int32).toNatClampNeg (if (f_X2_setReference zr zf (xs ((nI (5 * j)) + 1).toNatClampNeg) 0).1 = 0 then (0 : Int64) else 1)) am mc mw mn me mu mr mz mf mt) := hD
          refine W.widen (k := 32 + j + 1) (n := 5140 + 6 * j + 6) (by omega) (by omega) ?_
          refine lv_istore (lv' := [(5, .int 0), (0, .ref b), (1, .ref (ad 0)), (2, .ref (am 0)), (3, .ref oo), (4, .int (nI (5 * j)))]) hx hb dL_law_693 hl (by decide) rfl (fun ls hl => ?_)
          refine lv_aload_n hx hb dL_law_695 rfl (lv_at hl 3 rfl) ?_
          refine lv_aload_n hx hb dL_law_696 rfl (lv_at hl 1 rfl) ?_
          refine lv_iload hx hb dL_law_697 (lv_at hl 5 rfl) ?_
          refine lv_iconst (v := 1) hx hb dL_law_699 (by decide) ?_
          refine lv_iadd hx hb dL_law_700 ?_
          refine va_sld hx hb hX hbl hbA hS hv1 dL_law_701 ?_
          refine lv_aload_n hx hb dL_law_702 rfl (lv_at hl 1 rfl) ?_
          refine lv_iload hx hb dL_law_703 (lv_at hl 5 rfl) ?_
          refine lv_iconst (v := 2) hx hb dL_law_705 (by decide) ?_
          refine lv_iadd hx hb dL_law_706 ?_
          refine va_sld hx hb hX hbl hbA hS hv2 dL_law_707 ?_
          refine lv_if_eq (tgt := 715) hx hb dL_law_708 (by decide) (fun c9 => ?_) (fun c9 => ?_)
          · refine lv_iconst (v := 0) hx hb dL_law_715 (by decide) ?_
            refine mr_iG (va_runV (As := [.int (xs ((nI (5 * j)) + 1).toNatClampNeg), .int 0]) (rest := []) ⟨hx, hb, hml, hown, htl⟩ (k_X3_setReference l D cyI cyZ am mc mw mn me mu mr mz mf mt (xs ((nI (5 * j)) + 1).toNatClampNeg) 0 _ _ rfl (Or.inl rfl)) (cwV 2 htl gL_law_X3_setReference rfl rfl rfl (by decide +kernel) ⟨Nat.le_of_ble_eq_true rfl, Nat.le_of_ble_eq_true rfl⟩) (pmV hG.1 (hP.sub (ws' := wN cyI cyZ am mc mw mn me mu mr mz mf mt) [21, 22, 23, 24, 25, 26, 27, 28, 29, 30, 31] rfl) (hD.sub (ws' := wN cyI cyZ am mc mw mn me mu mr mz mf mt) [21, 22, 23, 24, 25, 26, 27, 28, 29, 30, 31] (by decide) rfl) (ci := 3) rfl rfl rfl) rfl rfl hl.1 rfl (lv_room (Nat.le_of_ble_eq_true rfl)) dL_law_716 ⟨by show 32 + j + 1 + 0 ≤ 1073; omega, by show 5140 + 6 * j + 6 + 0 ≤ 13434; omega⟩) hP hD hS hA [21, 22, 23, 24, 25, 26, 27, 28, 29, 30, 31] [0, 1, 2, 3, 4, 5, 6, 7, 8, 9, 10, 11, 12, 13, 14, 15, 16, 17, 18, 19, 20] [0, 1, 2, 3, 4, 5, 6, 7, 8, 9, 10, 11, 12, 13, 14, 15, 16, 17, 18, 19, 20, 21, 22, 23, 24, 25, 26, 27, 28, 29, 30, 31] rfl rfl (by decide) (by decide) (by decide) (w2 := wA cyI cyZ cyJ ad zb zo zt zm zu (f_X2_setReference zr zf (xs ((nI (5 * j)) + 1).toNatClampNeg) 0).2.1 zl (f_X2_setReference zr zf (xs ((nI (5 * j)) + 1).toNatClampNeg) 0).2.2 oo (vp_updL go (0 : Int32).toNatClampNeg (if (f_X2_setReference zr zf (xs ((nI (5 * j)) + 1).toNatClampNeg) 0).1 = 0 then (0 : Int64) else 1)) am mc mw mn me mu (f_X3_setReference mr mf (xs ((nI (5 * j)) + 1).toNatClampNeg) 0).2.1 mz (f_X3_setReference mr mf (xs ((nI (5 * j)) + 1).toNatClampNeg) 0).2.2.1 (f_X3_setReference mr mf (xs ((nI (5 * j)) + 1).toNatClampNeg) 0).2.2.2) rfl (fun H locs hP hD hS => ?_)
            have hP : va_P D vwCl (wA cyI cyZ cyJ ad zb zo zt zm zu (f_X2_setReference zr zf (xs ((nI (5 * j)) + 1).toNatClampNeg) 0).2.1 zl (f_X2_setReference zr zf (xs ((nI (5 * j)) + 1).toNatClampNeg) 0).2.2 oo (vp_updL go (0 : Int32).toNatClampNeg (if (f_X2_setReference zr zf (xs ((nI (5 * j)) + 1).toNatClampNeg) 0).1 = 0 then (0 : Int64) else 1)) am mc mw mn me mu (f_X3_setReference mr mf (xs ((nI (5 * j)) + 1).toNatClampNeg) 0).2.1 mz (f_X3_setReference mr mf (xs ((nI (5 * j)) + 1).toNatClampNeg) 0).2.2.1 (f_X3_setReference mr mf (xs ((nI (5 * j)) + 1).toNatClampNeg) 0).2.2.2) H := hP
            have hD : va_D (fun q : Nat => s.heap.size ≤ q) (wA cyI cyZ cyJ ad zb zo zt zm zu (f_X2_setReference zr zf (xs ((nI (5 * j)) + 1).toNatClampNeg) 0).2.1 zl (f_X2_setReference zr zf (xs ((nI (5 * j)) + 1).toNatClampNeg) 0).2.2 oo (vp_updL go (0 : Int32).toNatClampNeg (if (f_X2_setReference zr zf (xs ((nI (5 * j)) + 1).toNatClampNeg) 0).1 = 0 then (0 : Int64) else 1)) am mc mw mn me mu (f_X3_setReference mr mf (xs ((nI (5 * j)) + 1).toNatClampNeg) 0).2.1 mz (f_X3_setReference mr mf (xs ((nI (5 * j)) + 1).toNatClampNeg) 0).2.2.1 (f_X3_setReference mr mf (xs ((nI (5 * j)) + 1).toNatClampNeg) 0).2.2.2) := hD
            refine lv_istore (lv' := [(6, .int ((f_X3_setReference mr mf (xs ((nI (5 * j)) + 1).toNatClampNeg) 0).1)), (5, .int 0), (0, .ref b), (1, .ref (ad 0)), (2, .ref (am 0)), (3, .ref oo), (4, .int (nI (5 * j)))]) hx hb dL_law_719 hl (by decide) rfl (fun ls hl => ?_)
            refine lv_aload_n hx hb dL_law_721 rfl (lv_at hl 4 rfl) ?_
            refine pr_i (va_runV (As := []) (rest := []) ⟨hx, hb, hml, hown, htl⟩ (k_X3_thrown l D cyI cyZ am mc mw mn me mu ((f_X3_setReference mr mf (xs ((nI (5 * j)) + 1).toNatClampNeg) 0).2.1) mz ((f_X3_setReference mr mf (xs ((nI (5 * j)) + 1).toNatClampNeg) 0).2.2.1) ((f_X3_setReference mr mf (xs ((nI (5 * j)) + 1).toNatClampNeg) 0).2.2.2)) (cwV 0 htl gL_law_X3_thrown rfl rfl rfl (by decide +kernel) ⟨Nat.le_of_ble_eq_true rfl, Nat.le_of_ble_eq_true rfl⟩) (prV hG.1 (hP.sub (ws' := wN cyI cyZ am mc mw mn me mu ((f_X3_setReference mr mf (xs ((nI (5 * j)) + 1).toNatClampNeg) 0).2.1) mz ((f_X3_setReference mr mf (xs ((nI (5 * j)) + 1).toNatClampNeg) 0).2.2.1) ((f_X3_setReference mr mf (xs ((nI (5 * j)) + 1).toNatClampNeg) 0).2.2.2)) [21, 22, 23, 24, 25, 26, 27, 28, 29, 30, 31] rfl) (ci := 3) rfl rfl rfl) rfl rfl hl.1 rfl (lv_room (Nat.le_of_ble_eq_true rfl)) dL_law_722 ⟨by show 32 + j + 1 + 0 ≤ 1073; omega, by show 5140 + 6 * j + 6 + 0 ≤ 13434; omega⟩) hS hP (fun H locs hP hS => ?_)
            refine lv_iload hx hb dL_law_725 (lv_at hl 1 rfl) ?_
            refine lv_icmp_eq (tgt := 732) hx hb dL_law_727 (by decide) (fun c9 => ?_) (fun c9 => ?_)
            · refine lv_iload hx hb dL_law_732 (lv_at hl 1 rfl) ?_
              refine lv_if_ne (tgt := 756) hx hb dL_law_734 (by decide) (fun c9 => ?_) (fun c9 => ?_)
              · exact absurd (rfl) c9
              · refine lv_aload_n hx hb dL_law_737 rfl (lv_at hl 5 rfl) ?_
                refine lv_iconst (v := 0) hx hb dL_law_738 (by decide) ?_
                refine va_lald hx hb hG.2 hP 20 0 rfl rfl (vp_in_nI (n := 0) (by decide) (by decide)) dL_law_739 ?_
                refine lv_iload hx hb dL_law_740 (lv_at hl 0 rfl) ?_
                refine lv_if_eq (tgt := 749) hx hb dL_law_742 (by decide) (fun c9 => ?_) (fun c9 => ?_)
                · exact absurd c9 (cb)
                · refine lv_lconst (v := 1) hx hb dL_law_745 rfl ?_
                  refine lv_goto (tgt := 750) hx hb dL_law_746 (by decide) ?_
                  refine W.lcmp hx hb dL_law_750 ?_
                  refine lv_if_eq (tgt := 756) hx hb dL_law_751 (by decide) (fun c9 => ?_) (fun c9 => ?_)
                  · refine lv_goto (tgt := 1475) hx hb dL_law_756 (by decide) ?_
                    exact KK zb zo zt zm zu ((f_X2_setReference zr zf (xs ((nI (5 * j)) + 1).toNatClampNeg) 0).2.1) zl ((f_X2_setReference zr zf (xs ((nI (5 * j)) + 1).toNatClampNeg) 0).2.2) mc mw mn me mu ((f_X3_setReference mr mf (xs ((nI (5 * j)) + 1).toNatClampNeg) 0).2.1) mz ((f_X3_setReference mr mf (xs ((nI (5 * j)) + 1).toNatClampNeg) 0).2.2.1) ((f_X3_setReference mr mf (xs ((nI (5 * j)) + 1).toNatClampNeg) 0).2.2.2) (vp_updL go (0 : Int32).toNatClampNeg (if (f_X2_setReference zr zf (xs ((nI (5 * j)) + 1).toNatClampNeg) 0).1 = 0 then (0 : Int64) else 1)) _ _ ls R' hP hD hS (lv_sub hl [2, 3, 4, 5, 6] rfl)
                  · exact absurd (eC) c9
            · exact absurd (eT) c9
          · exact absurd (cz) c9
        · exact absurd (cz) c9
    · rcases x_setReference (p1 := (xs ((nI (5 * j)) + 1).toNatClampNeg)) with h9 | h9
      · exact absurd h9 eX0
      · have eX : f_X2_setReference_x (xs ((nI (5 * j)) + 1).toNatClampNeg) = 1 := h9
        have eT9 : f_X3_thrown ((f_X3_setReference mr mf (xs ((nI (5 * j)) + 1).toNatClampNeg) 0).2.2.2) = 1 := by rw [h9] at eT; exact eT
        refine lv_aload_n hx hb dL_law_668 rfl (lv_at hl 1 rfl) ?_
        refine lv_aload_n hx hb dL_law_669 rfl (lv_at hl 0 rfl) ?_
        refine lv_iload hx hb dL_law_670 (lv_at hl 4 rfl) ?_
        refine lv_iconst (v := 1) hx hb dL_law_672 (by decide) ?_
        refine lv_iadd hx hb dL_law_673 ?_
        refine va_sld hx hb hX hbl hbA hS hv1 dL_law_674 ?_
        refine lv_aload_n hx hb dL_law_675 rfl (lv_at hl 0 rfl) ?_
        refine lv_iload hx hb dL_law_676 (lv_at hl 4 rfl) ?_
        refine lv_iconst (v := 2) hx hb dL_law_678 (by decide) ?_
        refine lv_iadd hx hb dL_law_679 ?_
        refine va_sld hx hb hX hbl hbA hS hv2 dL_law_680 ?_
        refine lv_if_eq (tgt := 688) hx hb dL_law_681 (by decide) (fun c9 => ?_) (fun c9 => ?_)
        · refine lv_iconst (v := 0) hx hb dL_law_688 (by decide) ?_
          refine lv_aload_n hx hb dL_law_689 rfl (lv_at hl 3 rfl) ?_
          refine mr_iG (vx_runSW (As := [.ref (ad 0), .int (xs ((nI (5 * j)) + 1).toNatClampNeg), .int 0, .ref oo]) (rest := []) ⟨hx, hb, hml, hown, htl⟩ (t_L_setReference_1 l hlt D cyI cyZ cyJ ad oo zb zo zt zm zu zr zl zf go (xs ((nI (5 * j)) + 1).toNatClampNeg) 0 _ _ rfl (Or.inl rfl) eX) (vx_cwSW 4 htl gL_law_L_setReference rfl rfl rfl (by decide +kernel) ⟨Nat.le_of_ble_eq_true rfl, Nat.le_of_ble_eq_true rfl⟩) (poS hG (hz.kept2 hS) hn (hP.sub (ws' := wO cyI cyZ cyJ ad zb zo zt zm zu zr zl zf oo go) [0, 1, 2, 3, 4, 5, 6, 7, 8, 9, 10, 11, 12, 13, 14, 15, 16, 17, 18, 19, 20] rfl) (hD.sub (ws' := wO cyI cyZ cyJ ad zb zo zt zm zu zr zl zf oo go) [0, 1, 2, 3, 4, 5, 6, 7, 8, 9, 10, 11, 12, 13, 14, 15, 16, 17, 18, 19, 20] (by decide) rfl)) rfl rfl hl.1 rfl (lv_room (Nat.le_of_ble_eq_true rfl)) dL_law_690 ⟨by show 32 + j + 1 ≤ 1073; omega, by show 5140 + 6 * j + 6 ≤ 13434; omega⟩) hP hD hS hA [0, 1, 2, 3, 4, 5, 6, 7, 8, 9, 10, 11, 12, 13, 14, 15, 16, 17, 18, 19, 20] [21, 22, 23, 24, 25, 26, 27, 28, 29, 30, 31] [11, 12, 13, 14, 15, 16, 17, 18, 19, 20, 21, 22, 23, 24, 25, 26, 27, 28, 29, 30, 31, 0, 1, 2, 3, 4, 5, 6, 7, 8, 9, 10] rfl rfl (by decide) (by decide) (by decide) (w2 := wA cyI cyZ cyJ ad zb zo zt zm zu zr zl zf oo go am mc mw mn me mu mr mz mf mt) rfl (fun H locs hP hD hS => ?_)
          have hP : va_P D vwCl (wA cyI cyZ cyJ ad zb zo zt zm zu zr zl zf oo go am mc mw mn me mu mr mz mf mt) H := hP
          have hD : va_D (fun q : Nat => s.heap.size ≤ q) (wA cyI cyZ cyJ ad zb zo zt zm zu zr zl zf oo go am mc mw mn me mu mr mz mf mt) := hD
          refine W.widen (k := 32 + j + 1) (n := 5140 + 6 * j + 6) (by omega) (by omega) ?_
          refine lv_istore (lv' := [(5, .int 1), (0, .ref b), (1, .ref (ad 0)), (2, .ref (am 0)), (3, .ref oo), (4, .int (nI (5 * j)))]) hx hb dL_law_693 hl (by decide) rfl (fun ls hl => ?_)
          refine lv_aload_n hx hb dL_law_695 rfl (lv_at hl 3 rfl) ?_
          refine lv_aload_n hx hb dL_law_696 rfl (lv_at hl 1 rfl) ?_
          refine lv_iload hx hb dL_law_697 (lv_at hl 5 rfl) ?_
          refine lv_iconst (v := 1) hx hb dL_law_699 (by decide) ?_
          refine lv_iadd hx hb dL_law_700 ?_
          refine va_sld hx hb hX hbl hbA hS hv1 dL_law_701 ?_
          refine lv_aload_n hx hb dL_law_702 rfl (lv_at hl 1 rfl) ?_
          refine lv_iload hx hb dL_law_703 (lv_at hl 5 rfl) ?_
          refine lv_iconst (v := 2) hx hb dL_law_705 (by decide) ?_
          refine lv_iadd hx hb dL_law_706 ?_
          refine va_sld hx hb hX hbl hbA hS hv2 dL_law_707 ?_
          refine lv_if_eq (tgt := 715) hx hb dL_law_708 (by decide) (fun c9 => ?_) (fun c9 => ?_)
          · refine lv_iconst (v := 0) hx hb dL_law_715 (by decide) ?_
            refine mr_iG (va_runV (As := [.int (xs ((nI (5 * j)) + 1).toNatClampNeg), .int 0]) (rest := []) ⟨hx, hb, hml, hown, htl⟩ (k_X3_setReference l D cyI cyZ am mc mw mn me mu mr mz mf mt (xs ((nI (5 * j)) + 1).toNatClampNeg) 0 _ _ rfl (Or.inl rfl)) (cwV 2 htl gL_law_X3_setReference rfl rfl rfl (by decide +kernel) ⟨Nat.le_of_ble_eq_true rfl, Nat.le_of_ble_eq_true rfl⟩) (pmV hG.1 (hP.sub (ws' := wN cyI cyZ am mc mw mn me mu mr mz mf mt) [21, 22, 23, 24, 25, 26, 27, 28, 29, 30, 31] rfl) (hD.sub (ws' := wN cyI cyZ am mc mw mn me mu mr mz mf mt) [21, 22, 23, 24, 25, 26, 27, 28, 29, 30, 31] (by decide) rfl) (ci := 3) rfl rfl rfl) rfl rfl hl.1 rfl (lv_room (Nat.le_of_ble_eq_true rfl)) dL_law_716 ⟨by show 32 + j + 1 + 0 ≤ 1073; omega, by show 5140 + 6 * j + 6 + 0 ≤ 13434; omega⟩) hP hD hS hA [21, 22, 23, 24, 25, 26, 27, 28, 29, 30, 31] [0, 1, 2, 3, 4, 5, 6, 7, 8, 9, 10, 11, 12, 13, 14, 15, 16, 17, 18, 19, 20] [0, 1, 2, 3, 4, 5, 6, 7, 8, 9, 10, 11, 12, 13, 14, 15, 16, 17, 18, 19, 20, 21, 22, 23, 24, 25, 26, 27, 28, 29, 30, 31] rfl rfl (by decide) (by decide) (by decide) (w2 := wA cyI cyZ cyJ ad zb zo zt zm zu zr zl zf oo go am mc mw mn me mu (f_X3_setReference mr mf (xs ((nI (5 * j)) + 1).toNatClampNeg) 0).2.1 mz (f_X3_setReference mr mf (xs ((nI (5 * j)) + 1).toNatClampNeg) 0).2.2.1 (f_X3_setReference mr mf (xs ((nI (5 * j)) + 1).toNatClampNeg) 0).2.2.2) rfl (fun H locs hP hD hS => ?_)
            have hP : va_P D vwCl (wA cyI cyZ cyJ ad zb zo zt zm zu zr zl zf oo go am mc mw mn me mu (f_X3_setReference mr mf (xs ((nI (5 * j)) + 1).toNatClampNeg) 0).2.1 mz (f_X3_setReference mr mf (xs ((nI (5 * j)) + 1).toNatClampNeg) 0).2.2.1 (f_X3_setReference mr mf (xs ((nI (5 * j)) + 1).toNatClampNeg) 0).2.2.2) H := hP
            have hD : va_D (fun q : Nat => s.heap.size ≤ q) (wA cyI cyZ cyJ ad zb zo zt zm zu zr zl zf oo go am mc mw mn me mu (f_X3_setReference mr mf (xs ((nI (5 * j)) + 1).toNatClampNeg) 0).2.1 mz (f_X3_setReference mr mf (xs ((nI (5 * j)) + 1).toNatClampNeg) 0).2.2.1 (f_X3_setReference mr mf (xs ((nI (5 * j)) + 1).toNatClampNeg) 0).2.2.2) := hD
            refine lv_istore (lv' := [(6, .int ((f_X3_setReference mr mf (xs ((nI (5 * j)) + 1).toNatClampNeg) 0).1)), (5, .int 1), (0, .ref b), (1, .ref (ad 0)), (2, .ref (am 0)), (3, .ref oo), (4, .int (nI (5 * j)))]) hx hb dL_law_719 hl (by decide) rfl (fun ls hl => ?_)
            refine lv_aload_n hx hb dL_law_721 rfl (lv_at hl 4 rfl) ?_
            refine pr_i (va_runV (As := []) (rest := []) ⟨hx, hb, hml, hown, htl⟩ (k_X3_thrown l D cyI cyZ am mc mw mn me mu ((f_X3_setReference mr mf (xs ((nI (5 * j)) + 1).toNatClampNeg) 0).2.1) mz ((f_X3_setReference mr mf (xs ((nI (5 * j)) + 1).toNatClampNeg) 0).2.2.1) ((f_X3_setReference mr mf (xs ((nI (5 * j)) + 1).toNatClampNeg) 0).2.2.2)) (cwV 0 htl gL_law_X3_thrown rfl rfl rfl (by decide +kernel) ⟨Nat.le_of_ble_eq_true rfl, Nat.le_of_ble_eq_true rfl⟩) (prV hG.1 (hP.sub (ws' := wN cyI cyZ am mc mw mn me mu ((f_X3_setReference mr mf (xs ((nI (5 * j)) + 1).toNatClampNeg) 0).2.1) mz ((f_X3_setReference mr mf (xs ((nI (5 * j)) + 1).toNatClampNeg) 0).2.2.1) ((f_X3_setReference mr mf (xs ((nI (5 * j)) + 1).toNatClampNeg) 0).2.2.2)) [21, 22, 23, 24, 25, 26, 27, 28, 29, 30, 31] rfl) (ci := 3) rfl rfl rfl) rfl rfl hl.1 rfl (lv_room (Nat.le_of_ble_eq_true rfl)) dL_law_722 ⟨by show 32 + j + 1 + 0 ≤ 1073; omega, by show 5140 + 6 * j + 6 + 0 ≤ 13434; omega⟩) hS hP (fun H locs hP hS => ?_)
            refine lv_iload hx hb dL_law_725 (lv_at hl 1 rfl) ?_
            refine lv_icmp_eq (tgt := 732) hx hb dL_law_727 (by decide) (fun c9 => ?_) (fun c9 => ?_)
            · refine lv_iload hx hb dL_law_732 (lv_at hl 1 rfl) ?_
              refine lv_if_ne (tgt := 756) hx hb dL_law_734 (by decide) (fun c9 => ?_) (fun c9 => ?_)
              · refine lv_goto (tgt := 1475) hx hb dL_law_756 (by decide) ?_
                exact KK zb zo zt zm zu zr zl zf mc mw mn me mu ((f_X3_setReference mr mf (xs ((nI (5 * j)) + 1).toNatClampNeg) 0).2.1) mz ((f_X3_setReference mr mf (xs ((nI (5 * j)) + 1).toNatClampNeg) 0).2.2.1) ((f_X3_setReference mr mf (xs ((nI (5 * j)) + 1).toNatClampNeg) 0).2.2.2) go _ _ ls R' hP hD hS (lv_sub hl [2, 3, 4, 5, 6] rfl)
              · exact absurd c9 (by decide)
            · exact absurd (eT9) c9
          · exact absurd (cz) c9
        · exact absurd (cz) c9
  · rcases s_setReference R (xs ((nI (5 * j)) + 1).toNatClampNeg) 1 (Or.inr rfl) with ⟨eX, eT, eA, R'⟩ | ⟨eX0, eT, R'⟩
    · by_cases cb : (f_X3_setReference mr mf (xs ((nI (5 * j)) + 1).toNatClampNeg) 1).1 = 0
      · have eC : lg_cmp ((vp_updL go (0 : Int32).toNatClampNeg (if (f_X2_setReference zr zf (xs ((nI (5 * j)) + 1).toNatClampNeg) 1).1 = 0 then (0 : Int64) else 1)) (0 : Int32).toNatClampNeg) 0 = 0 := by rw [pk_uLs, eA, if_pos cb]; exact lg_self _
        refine lv_aload_n hx hb dL_law_668 rfl (lv_at hl 1 rfl) ?_
        refine lv_aload_n hx hb dL_law_669 rfl (lv_at hl 0 rfl) ?_
        refine lv_iload hx hb dL_law_670 (lv_at hl 4 rfl) ?_
        refine lv_iconst (v := 1) hx hb dL_law_672 (by decide) ?_
        refine lv_iadd hx hb dL_law_673 ?_
        refine va_sld hx hb hX hbl hbA hS hv1 dL_law_674 ?_
        refine lv_aload_n hx hb dL_law_675 rfl (lv_at hl 0 rfl) ?_
        refine lv_iload hx hb dL_law_676 (lv_at hl 4 rfl) ?_
        refine lv_iconst (v := 2) hx hb dL_law_678 (by decide) ?_
        refine lv_iadd hx hb dL_law_679 ?_
        refine va_sld hx hb hX hbl hbA hS hv2 dL_law_680 ?_
        refine lv_if_eq (tgt := 688) hx hb dL_law_681 (by decide) (fun c9 => ?_) (fun c9 => ?_)
        · exact absurd c9 (cz)
        · refine lv_iconst (v := 1) hx hb dL_law_684 (by decide) ?_
          refine lv_goto (tgt := 689) hx hb dL_law_685 (by decide) ?_
          refine lv_aload_n hx hb dL_law_689 rfl (lv_at hl 3 rfl) ?_
          refine mr_iG (vx_runSW (As := [.ref (ad 0), .int (xs ((nI (5 * j)) + 1).toNatClampNeg), .int 1, .ref oo]) (rest := []) ⟨hx, hb, hml, hown, htl⟩ (k_L_setReference l D cyI cyZ cyJ ad oo zb zo zt zm zu zr zl zf go (xs ((nI (5 * j)) + 1).toNatClampNeg) 1 _ _ rfl (Or.inr rfl) eX) (vx_cwSW 4 htl gL_law_L_setReference rfl rfl rfl (by decide +kernel) ⟨Nat.le_of_ble_eq_true rfl, Nat.le_of_ble_eq_true rfl⟩) (poS hG (hz.kept2 hS) hn (hP.sub (ws' := wO cyI cyZ cyJ ad zb zo zt zm zu zr zl zf oo go) [0, 1, 2, 3, 4, 5, 6, 7, 8, 9, 10, 11, 12, 13, 14, 15, 16, 17, 18, 19, 20] rfl) (hD.sub (ws' := wO cyI cyZ cyJ ad zb zo zt zm zu zr zl zf oo go) [0, 1, 2, 3, 4, 5, 6, 7, 8, 9, 10, 11, 12, 13, 14, 15, 16, 17, 18, 19, 20] (by decide) rfl)) rfl rfl hl.1 rfl (lv_room (Nat.le_of_ble_eq_true rfl)) dL_law_690 ⟨by show 32 + j + 0 ≤ 1073; omega, by show 5140 + 6 * j + 0 ≤ 13434; omega⟩) hP hD hS hA [0, 1, 2, 3, 4, 5, 6, 7, 8, 9, 10, 11, 12, 13, 14, 15, 16, 17, 18, 19, 20] [21, 22, 23, 24, 25, 26, 27, 28, 29, 30, 31] [11, 12, 13, 14, 15, 16, 17, 18, 19, 20, 21, 22, 23, 24, 25, 26, 27, 28, 29, 30, 31, 0, 1, 2, 3, 4, 5, 6, 7, 8, 9, 10] rfl rfl (by decide) (by decide) (by decide) (w2 := wA cyI cyZ cyJ ad zb zo zt zm zu (f_X2_setReference zr zf (xs ((nI (5 * j)) + 1).toNatClampNeg) 1).2.1 zl (f_X2_setReference zr zf (xs ((nI (5 * j)) + 1).toNatClampNeg) 1).2.2 oo (vp_updL go (0 : Int32).toNatClampNeg (if (f_X2_setReference zr zf (xs ((nI (5 * j)) + 1).toNatClampNeg) 1).1 = 0 then (0 : Int64) else 1)) am mc mw mn me mu mr mz mf mt) rfl (fun H locs hP hD hS => ?_)
          have hP : va_P D vwCl (wA cyI cyZ cyJ ad zb zo zt zm zu (f_X2_setReference zr zf (xs ((nI (5 * j)) + 1).toNatClampNeg) 1).2.1 zl (f_X2_setReference zr zf (xs ((nI (5 * j)) + 1).toNatClampNeg) 1).2.2 oo (vp_updL go (0 : Int32).toNatClampNeg (if (f_X2_setReference zr zf (xs ((nI (5 * j)) + 1).toNatClampNeg) 1).1 = 0 then (0 : Int64) else 1)) am mc mw mn me mu mr mz mf mt) H := hP
          have hD : va_D (fun q : Nat => s.heap.size ≤ q) (wA cyI cyZ cyJ ad zb zo zt zm zu (f_X2_setReference zr zf (xs ((nI (5 * j)) + 1).toNatClampNeg) 1).2.1 zl (f_X2_setReference zr zf (xs ((nI (5 * j)) + 1).toNatClampNeg) 1).2.2 oo (vp_updL go (0 : Int32).toNatClampNeg (if (f_X2_setReference zr zf (xs ((nI (5 * j)) + 1).toNatClampNeg) 1).1 = 0 then (0 : Int64) else 1)) am mc mw mn me mu mr mz mf mt) := hD
          refine W.widen (k := 32 + j + 1) (n := 5140 + 6 * j + 6) (by omega) (by omega) ?_
          refine lv_istore (lv' := [(5, .int 0), (0, .ref b), (1, .ref (ad 0)), (2, .ref (am 0)), (3, .ref oo), (4, .int (nI (5 * j)))]) hx hb dL_law_693 hl (by decide) rfl (fun ls hl => ?_)
          refine lv_aload_n hx hb dL_law_695 rfl (lv_at hl 3 rfl) ?_
          refine lv_aload_n hx hb dL_law_696 rfl (lv_at hl 1 rfl) ?_
          refine lv_iload hx hb dL_law_697 (lv_at hl 5 rfl) ?_
          refine lv_iconst (v := 1) hx hb dL_law_699 (by decide) ?_
          refine lv_iadd hx hb dL_law_700 ?_
          refine va_sld hx hb hX hbl hbA hS hv1 dL_law_701 ?_
          refine lv_aload_n hx hb dL_law_702 rfl (lv_at hl 1 rfl) ?_
          refine lv_iload hx hb dL_law_703 (lv_at hl 5 rfl) ?_
          refine lv_iconst (v := 2) hx hb dL_law_705 (by decide) ?_
          refine lv_iadd hx hb dL_law_706 ?_
          refine va_sld hx hb hX hbl hbA hS hv2 dL_law_707 ?_
          refine lv_if_eq (tgt := 715) hx hb dL_law_708 (by decide) (fun c9 => ?_) (fun c9 => ?_)
          · exact absurd c9 (cz)
          · refine lv_iconst (v := 1) hx hb dL_law_711 (by decide) ?_
            refine lv_goto (tgt := 716) hx hb dL_law_712 (by decide) ?_
            refine mr_iG (va_runV (As := [.int (xs ((nI (5 * j)) + 1).toNatClampNeg), .int 1]) (rest := []) ⟨hx, hb, hml, hown, htl⟩ (k_X3_setReference l D cyI cyZ am mc mw mn me mu mr mz mf mt (xs ((nI (5 * j)) + 1).toNatClampNeg) 1 _ _ rfl (Or.inr rfl)) (cwV 2 htl gL_law_X3_setReference rfl rfl rfl (by decide +kernel) ⟨Nat.le_of_ble_eq_true rfl, Nat.le_of_ble_eq_true rfl⟩) (pmV hG.1 (hP.sub (ws' := wN cyI cyZ am mc mw mn me mu mr mz mf mt) [21, 22, 23, 24, 25, 26, 27, 28, 29, 30, 31] rfl) (hD.sub (ws' := wN cyI cyZ am mc mw mn me mu mr mz mf mt) [21, 22, 23, 24, 25, 26, 27, 28, 29, 30, 31] (by decide) rfl) (ci := 3) rfl rfl rfl) rfl rfl hl.1 rfl (lv_room (Nat.le_of_ble_eq_true rfl)) dL_law_716 ⟨by show 32 + j + 1 + 0 ≤ 1073; omega, by show 5140 + 6 * j + 6 + 0 ≤ 13434; omega⟩) hP hD hS hA [21, 22, 23, 24, 25, 26, 27, 28, 29, 30, 31] [0, 1, 2, 3, 4, 5, 6, 7, 8, 9, 10, 11, 12, 13, 14, 15, 16, 17, 18, 19, 20] [0, 1, 2, 3, 4, 5, 6, 7, 8, 9, 10, 11, 12, 13, 14, 15, 16, 17, 18, 19, 20, 21, 22, 23, 24, 25, 26, 27, 28, 29, 30, 31] rfl rfl (by decide) (by decide) (by decide) (w2 := wA cyI cyZ cyJ ad zb zo zt zm zu (f_X2_setReference zr zf (xs ((nI (5 * j)) + 1).toNatClampNeg) 1).2.1 zl (f_X2_setReference zr zf (xs ((nI (5 * j)) + 1).toNatClampNeg) 1).2.2 oo (vp_updL go (0 : Int32).toNatClampNeg (if (f_X2_setReference zr zf (xs ((nI (5 * j)) + 1).toNatClampNeg) 1).1 = 0 then (0 : Int64) else 1)) am mc mw mn me mu (f_X3_setReference mr mf (xs ((nI (5 * j)) + 1).toNatClampNeg) 1).2.1 mz (f_X3_setReference mr mf (xs ((nI (5 * j)) + 1).toNatClampNeg) 1).2.2.1 (f_X3_setReference mr mf (xs ((nI (5 * j)) + 1).toNatClampNeg) 1).2.2.2) rfl (fun H locs hP hD hS => ?_)
            have hP : va_P D vwCl (wA cyI cyZ cyJ ad zb zo zt zm zu (f_X2_setReference zr zf (xs ((nI (5 * j)) + 1).toNatClampNeg) 1).2.1 zl (f_X2_setReference zr zf (xs ((nI (5 * j)) + 1).toNatClampNeg) 1).2.2 oo (vp_updL go (0 : Int32).toNatClampNeg (if (f_X2_setReference zr zf (xs ((nI (5 * j)) + 1).toNatClampNeg) 1).1 = 0 then (0 : Int64) else 1)) am mc mw mn me mu (f_X3_setReference mr mf (xs ((nI (5 * j)) + 1).toNatClampNeg) 1).2.1 mz (f_X3_setReference mr mf (xs ((nI (5 * j)) + 1).toNatClampNeg) 1).2.2.1 (f_X3_setReference mr mf (xs ((nI (5 * j)) + 1).toNatClampNeg) 1).2.2.2) H := hP
            have hD : va_D (fun q : Nat => s.heap.size ≤ q) (wA cyI cyZ cyJ ad zb zo zt zm zu (f_X2_setReference zr zf (xs ((nI (5 * j)) + 1).toNatClampNeg) 1).2.1 zl (f_X2_setReference zr zf (xs ((nI (5 * j)) + 1).toNatClampNeg) 1).2.2 oo (vp_updL go (0 : Int32).toNatClampNeg (if (f_X2_setReference zr zf (xs ((nI (5 * j)) + 1).toNatClampNeg) 1).1 = 0 then (0 : Int64) else 1)) am mc mw mn me mu (f_X3_setReference mr mf (xs ((nI (5 * j)) + 1).toNatClampNeg) 1).2.1 mz (f_X3_setReference mr mf (xs ((nI (5 * j)) + 1).toNatClampNeg) 1).2.2.1 (f_X3_setReference mr mf (xs ((nI (5 * j)) + 1).toNatClampNeg) 1).2.2.2) := hD
            refine lv_istore (lv' := [(6, .int ((f_X3_setReference mr mf (xs ((nI (5 * j)) + 1).toNatClampNeg) 1).1)), (5, .int 0), (0, .ref b), (1, .ref (ad 0)), (2, .ref (am 0)), (3, .ref oo), (4, .int (nI (5 * j)))]) hx hb dL_law_719 hl (by decide) rfl (fun ls hl => ?_)
            refine lv_aload_n hx hb dL_law_721 rfl (lv_at hl 4 rfl) ?_
            refine pr_i (va_runV (As := []) (rest := []) ⟨hx, hb, hml, hown, htl⟩ (k_X3_thrown l D cyI cyZ am mc mw mn me mu ((f_X3_setReference mr mf (xs ((nI (5 * j)) + 1).toNatClampNeg) 1).2.1) mz ((f_X3_setReference mr mf (xs ((nI (5 * j)) + 1).toNatClampNeg) 1).2.2.1) ((f_X3_setReference mr mf (xs ((nI (5 * j)) + 1).toNatClampNeg) 1).2.2.2)) (cwV 0 htl gL_law_X3_thrown rfl rfl rfl (by decide +kernel) ⟨Nat.le_of_ble_eq_true rfl, Nat.le_of_ble_eq_true rfl⟩) (prV hG.1 (hP.sub (ws' := wN cyI cyZ am mc mw mn me mu ((f_X3_setReference mr mf (xs ((nI (5 * j)) + 1).toNatClampNeg) 1).2.1) mz ((f_X3_setReference mr mf (xs ((nI (5 * j)) + 1).toNatClampNeg) 1).2.2.1) ((f_X3_setReference mr mf (xs ((nI (5 * j)) + 1).toNatClampNeg) 1).2.2.2)) [21, 22, 23, 24, 25, 26, 27, 28, 29, 30, 31] rfl) (ci := 3) rfl rfl rfl) rfl rfl hl.1 rfl (lv_room (Nat.le_of_ble_eq_true rfl)) dL_law_722 ⟨by show 32 + j + 1 + 0 ≤ 1073; omega, by show 5140 + 6 * j + 6 + 0 ≤ 13434; omega⟩) hS hP (fun H locs hP hS => ?_)
            refine lv_iload hx hb dL_law_725 (lv_at hl 1 rfl) ?_
            refine lv_icmp_eq (tgt := 732) hx hb dL_law_727 (by decide) (fun c9 => ?_) (fun c9 => ?_)
            · refine lv_iload hx hb dL_law_732 (lv_at hl 1 rfl) ?_
              refine lv_if_ne (tgt := 756) hx hb dL_law_734 (by decide) (fun c9 => ?_) (fun c9 => ?_)
              · exact absurd (rfl) c9
              · refine lv_aload_n hx hb dL_law_737 rfl (lv_at hl 5 rfl) ?_
                refine lv_iconst (v := 0) hx hb dL_law_738 (by decide) ?_
                refine va_lald hx hb hG.2 hP 20 0 rfl rfl (vp_in_nI (n := 0) (by decide) (by decide)) dL_law_739 ?_
                refine lv_iload hx hb dL_law_740 (lv_at hl 0 rfl) ?_
                refine lv_if_eq (tgt := 749) hx hb dL_law_742 (by decide) (fun c9 => ?_) (fun c9 => ?_)
                · refine lv_lconst (v := 0) hx hb dL_law_749 rfl ?_
                  refine W.lcmp hx hb dL_law_750 ?_
                  refine lv_if_eq (tgt := 756) hx hb dL_law_751 (by decide) (fun c9 => ?_) (fun c9 => ?_)
                  · refine lv_goto (tgt := 1475) hx hb dL_law_756 (by decide) ?_
                    exact KK zb zo zt zm zu ((f_X2_setReference zr zf (xs ((nI (5 * j)) + 1).toNatClampNeg) 1).2.1) zl ((f_X2_setReference zr zf (xs ((nI (5 * j)) + 1).toNatClampNeg) 1).2.2) mc mw mn me mu ((f_X3_setReference mr mf (xs ((nI (5 * j)) + 1).toNatClampNeg) 1).2.1) mz ((f_X3_setReference mr mf (xs ((nI (5 * j)) + 1).toNatClampNeg) 1).2.2.1) ((f_X3_setReference mr mf (xs ((nI (5 * j)) + 1).toNatClampNeg) 1).2.2.2) (vp_updL go (0 : Int32).toNatClampNeg (if (f_X2_setReference zr zf (xs ((nI (5 * j)) + 1).toNatClampNeg) 1).1 = 0 then (0 : Int64) else 1)) _ _ ls R' hP hD hS (lv_sub hl [2, 3, 4, 5, 6] rfl)
                  · exact absurd (eC) c9
                · exact absurd (cb) c9
            · exact absurd (eT) c9
      · have eC : lg_cmp ((vp_updL go (0 : Int32).toNatClampNeg (if (f_X2_setReference zr zf (xs ((nI (5 * j)) + 1).toNatClampNeg) 1).1 = 0 then (0 : Int64) else 1)) (0 : Int32).toNatClampNeg) 1 = 0 := by rw [pk_uLs, eA, if_neg cb]; exact lg_self _
        refine lv_aload_n hx hb dL_law_668 rfl (lv_at hl 1 rfl) ?_
        refine lv_aload_n hx hb dL_law_669 rfl (lv_at hl 0 rfl) ?_
        refine lv_iload hx hb dL_law_670 (lv_at hl 4 rfl) ?_
        refine lv_iconst (v := 1) hx hb dL_law_672 (by decide) ?_
        refine lv_iadd hx hb dL_law_673 ?_
        refine va_sld hx hb hX hbl hbA hS hv1 dL_law_674 ?_
        refine lv_aload_n hx hb dL_law_675 rfl (lv_at hl 0 rfl) ?_
        refine lv_iload hx hb dL_law_676 (lv_at hl 4 rfl) ?_
        refine lv_iconst (v := 2) hx hb dL_law_678 (by decide) ?_
        refine lv_iadd hx hb dL_law_679 ?_
        refine va_sld hx hb hX hbl hbA hS hv2 dL_law_680 ?_
        refine lv_if_eq (tgt := 688) hx hb dL_law_681 (by decide) (fun c9 => ?_) (fun c9 => ?_)
        · exact absurd c9 (cz)
        · refine lv_iconst (v := 1) hx hb dL_law_684 (by decide) ?_
          refine lv_goto (tgt := 689) hx hb dL_law_685 (by decide) ?_
          refine lv_aload_n hx hb dL_law_689 rfl (lv_at hl 3 rfl) ?_
          refine mr_iG (vx_runSW (As := [.ref (ad 0), .int (xs ((nI (5 * j)) + 1).toNatClampNeg), .int 1, .ref oo]) (rest := []) ⟨hx, hb, hml, hown, htl⟩ (k_L_setReference l D cyI cyZ cyJ ad oo zb zo zt zm zu zr zl zf go (xs ((nI (5 * j)) + 1).toNatClampNeg) 1 _ _ rfl (Or.inr rfl) eX) (vx_cwSW 4 htl gL_law_L_setReference rfl rfl rfl (by decide +kernel) ⟨Nat.le_of_ble_eq_true rfl, Nat.le_of_ble_eq_true rfl⟩) (poS hG (hz.kept2 hS) hn (hP.sub (ws' := wO cyI cyZ cyJ ad zb zo zt zm zu zr zl zf oo go) [0, 1, 2, 3, 4, 5, 6, 7, 8, 9, 10, 11, 12, 13, 14, 15, 16, 17, 18, 19, 20] rfl) (hD.sub (ws' := wO cyI cyZ cyJ ad zb zo zt zm zu zr zl zf oo go) [0, 1, 2, 3, 4, 5, 6, 7, 8, 9, 10, 11, 12, 13, 14, 15, 16, 17, 18, 19, 20] (by decide) rfl)) rfl rfl hl.1 rfl (lv_room (Nat.le_of_ble_eq_true rfl)) dL_law_690 ⟨by show 32 + j + 0 ≤ 1073; omega, by show 5140 + 6 * j + 0 ≤ 13434; omega⟩) hP hD hS hA [0, 1, 2, 3, 4, 5, 6, 7, 8, 9, 10, 11, 12, 13, 14, 15, 16, 17, 18, 19, 20] [21, 22, 23, 24, 25, 26, 27, 28, 29, 30, 31] [11, 12, 13, 14, 15, 16, 17, 18, 19, 20, 21, 22, 23, 24, 25, 26, 27, 28, 29, 30, 31, 0, 1, 2, 3, 4, 5, 6, 7, 8, 9, 10] rfl rfl (by decide) (by decide) (by decide) (w2 := wA cyI cyZ cyJ ad zb zo zt zm zu (f_X2_setReference zr zf (xs ((nI (5 * j)) + 1).toNatClampNeg) 1).2.1 zl (f_X2_setReference zr zf (xs ((nI (5 * j)) + 1).toNatClampNeg) 1).2.2 oo (vp_updL go (0 : Int32).toNatClampNeg (if (f_X2_setReference zr zf (xs ((nI (5 * j)) + 1).toNatClampNeg) 1).1 = 0 then (0 : Int64) else 1)) am mc mw mn me mu mr mz mf mt) rfl (fun H locs hP hD hS => ?_)
          have hP : va_P D vwCl (wA cyI cyZ cyJ ad zb zo zt zm zu (f_X2_setReference zr zf (xs ((nI (5 * j)) + 1).toNatClampNeg) 1).2.1 zl (f_X2_setReference zr zf (xs ((nI (5 * j)) + 1).toNatClampNeg) 1).2.2 oo (vp_updL go (0 : Int32).toNatClampNeg (if (f_X2_setReference zr zf (xs ((nI (5 * j)) + 1).toNatClampNeg) 1).1 = 0 then (0 : Int64) else 1)) am mc mw mn me mu mr mz mf mt) H := hP
          have hD : va_D (fun q : Nat => s.heap.size ≤ q) (wA cyI cyZ cyJ ad zb zo zt zm zu (f_X2_setReference zr zf (xs ((nI (5 * j)) + 1).toNatClampNeg) 1).2.1 zl (f_X2_setReference zr zf (xs ((nI (5 * j)) + 1).toNatClampNeg) 1).2.2 oo (vp_updL go (0 : Int32).toNatClampNeg (if (f_X2_setReference zr zf (xs ((nI (5 * j)) + 1).toNatClampNeg) 1).1 = 0 then (0 : Int64) else 1)) am mc mw mn me mu mr mz mf mt) := hD
          refine W.widen (k := 32 + j + 1) (n := 5140 + 6 * j + 6) (by omega) (by omega) ?_
          refine lv_istore (lv' := [(5, .int 0), (0, .ref b), (1, .ref (ad 0)), (2, .ref (am 0)), (3, .ref oo), (4, .int (nI (5 * j)))]) hx hb dL_law_693 hl (by decide) rfl (fun ls hl => ?_)
          refine lv_aload_n hx hb dL_law_695 rfl (lv_at hl 3 rfl) ?_
          refine lv_aload_n hx hb dL_law_696 rfl (lv_at hl 1 rfl) ?_
          refine lv_iload hx hb dL_law_697 (lv_at hl 5 rfl) ?_
          refine lv_iconst (v := 1) hx hb dL_law_699 (by decide) ?_
          refine lv_iadd hx hb dL_law_700 ?_
          refine va_sld hx hb hX hbl hbA hS hv1 dL_law_701 ?_
          refine lv_aload_n hx hb dL_law_702 rfl (lv_at hl 1 rfl) ?_
          refine lv_iload hx hb dL_law_703 (lv_at hl 5 rfl) ?_
          refine lv_iconst (v := 2) hx hb dL_law_705 (by decide) ?_
          refine lv_iadd hx hb dL_law_706 ?_
          refine va_sld hx hb hX hbl hbA hS hv2 dL_law_707 ?_
          refine lv_if_eq (tgt := 715) hx hb dL_law_708 (by decide) (fun c9 => ?_) (fun c9 => ?_)
          · exact absurd c9 (cz)
          · refine lv_iconst (v := 1) hx hb dL_law_711 (by decide) ?_
            refine lv_goto (tgt := 716) hx hb dL_law_712 (by decide) ?_
            refine mr_iG (va_runV (As := [.int (xs ((nI (5 * j)) + 1).toNatClampNeg), .int 1]) (rest := []) ⟨hx, hb, hml, hown, htl⟩ (k_X3_setReference l D cyI cyZ am mc mw mn me mu mr mz mf mt (xs ((nI (5 * j)) + 1).toNatClampNeg) 1 _ _ rfl (Or.inr rfl)) (cwV 2 htl gL_law_X3_setReference rfl rfl rfl (by decide +kernel) ⟨Nat.le_of_ble_eq_true rfl, Nat.le_of_ble_eq_true rfl⟩) (pmV hG.1 (hP.sub (ws' := wN cyI cyZ am mc mw mn me mu mr mz mf mt) [21, 22, 23, 24, 25, 26, 27, 28, 29, 30, 31] rfl) (hD.sub (ws' := wN cyI cyZ am mc mw mn me mu mr mz mf mt) [21, 22, 23, 24, 25, 26, 27, 28, 29, 30, 31] (by decide) rfl) (ci := 3) rfl rfl rfl) rfl rfl hl.1 rfl (lv_room (Nat.le_of_ble_eq_true rfl)) dL_law_716 ⟨by show 32 + j + 1 + 0 ≤ 1073; omega, by show 5140 + 6 * j + 6 + 0 ≤ 13434; omega⟩) hP hD hS hA [21, 22, 23, 24, 25, 26, 27, 28, 29, 30, 31] [0, 1, 2, 3, 4, 5, 6, 7, 8, 9, 10, 11, 12, 13, 14, 15, 16, 17, 18, 19, 20] [0, 1, 2, 3, 4, 5, 6, 7, 8, 9, 10, 11, 12, 13, 14, 15, 16, 17, 18, 19, 20, 21, 22, 23, 24, 25, 26, 27, 28, 29, 30, 31] rfl rfl (by decide) (by decide) (by decide) (w2 := wA cyI cyZ cyJ ad zb zo zt zm zu (f_X2_setReference zr zf (xs ((nI (5 * j)) + 1).toNatClampNeg) 1).2.1 zl (f_X2_setReference zr zf (xs ((nI (5 * j)) + 1).toNatClampNeg) 1).2.2 oo (vp_updL go (0 : Int32).toNatClampNeg (if (f_X2_setReference zr zf (xs ((nI (5 * j)) + 1).toNatClampNeg) 1).1 = 0 then (0 : Int64) else 1)) am mc mw mn me mu (f_X3_setReference mr mf (xs ((nI (5 * j)) + 1).toNatClampNeg) 1).2.1 mz (f_X3_setReference mr mf (xs ((nI (5 * j)) + 1).toNatClampNeg) 1).2.2.1 (f_X3_setReference mr mf (xs ((nI (5 * j)) + 1).toNatClampNeg) 1).2.2.2) rfl (fun H locs hP hD hS => ?_)
            have hP : va_P D vwCl (wA cyI cyZ cyJ ad zb zo zt zm zu (f_X2_setReference zr zf (xs ((nI (5 * j)) + 1).toNatClampNeg) 1).2.1 zl (f_X2_setReference zr zf (xs ((nI (5 * j)) + 1).toNatClampNeg) 1).2.2 oo (vp_updL go (0 : Int32).toNatClampNeg (if (f_X2_setReference zr zf (xs ((nI (5 * j)) + 1).toNatClampNeg) 1).1 = 0 then (0 : Int64) else 1)) am mc mw mn me mu (f_X3_setReference mr mf (xs ((nI (5 * j)) + 1).toNatClampNeg) 1).2.1 mz (f_X3_setReference mr mf (xs ((nI (5 * j)) + 1).toNatClampNeg) 1).2.2.1 (f_X3_setReference mr mf (xs ((nI (5 * j)) + 1).toNatClampNeg) 1).2.2.2) H := hP
            have hD : va_D (fun q : Nat => s.heap.size ≤ q) (wA cyI cyZ cyJ ad zb zo zt zm zu (f_X2_setReference zr zf (xs ((nI (5 * j)) + 1).toNatClampNeg) 1).2.1 zl (f_X2_setReference zr zf (xs ((nI (5 * j)) + 1).toNatClampNeg) 1).2.2 oo (vp_updL go (0 : Int32).toNatClampNeg (if (f_X2_setReference zr zf (xs ((nI (5 * j)) + 1).toNatClampNeg) 1).1 = 0 then (0 : Int64) else 1)) am mc mw mn me mu (f_X3_setReference mr mf (xs ((nI (5 * j)) + 1).toNatClampNeg) 1).2.1 mz (f_X3_setReference mr mf (xs ((nI (5 * j)) + 1).toNatClampNeg) 1).2.2.1 (f_X3_setReference mr mf (xs ((nI (5 * j)) + 1).toNatClampNeg) 1).2.2.2) := hD
            refine lv_istore (lv' := [(6, .int ((f_X3_setReference mr mf (xs ((nI (5 * j)) + 1).toNatClampNeg) 1).1)), (5, .int 0), (0, .ref b), (1, .ref (ad 0)), (2, .ref (am 0)), (3, .ref oo), (4, .int (nI (5 * j)))]) hx hb dL_law_719 hl (by decide) rfl (fun ls hl => ?_)
            refine lv_aload_n hx hb dL_law_721 rfl (lv_at hl 4 rfl) ?_
            refine pr_i (va_runV (As := []) (rest := []) ⟨hx, hb, hml, hown, htl⟩ (k_X3_thrown l D cyI cyZ am mc mw mn me mu ((f_X3_setReference mr mf (xs ((nI (5 * j)) + 1).toNatClampNeg) 1).2.1) mz ((f_X3_setReference mr mf (xs ((nI (5 * j)) + 1).toNatClampNeg) 1).2.2.1) ((f_X3_setReference mr mf (xs ((nI (5 * j)) + 1).toNatClampNeg) 1).2.2.2)) (cwV 0 htl gL_law_X3_thrown rfl rfl rfl (by decide +kernel) ⟨Nat.le_of_ble_eq_true rfl, Nat.le_of_ble_eq_true rfl⟩) (prV hG.1 (hP.sub (ws' := wN cyI cyZ am mc mw mn me mu ((f_X3_setReference mr mf (xs ((nI (5 * j)) + 1).toNatClampNeg) 1).2.1) mz ((f_X3_setReference mr mf (xs ((nI (5 * j)) + 1).toNatClampNeg) 1).2.2.1) ((f_X3_setReference mr mf (xs ((nI (5 * j)) + 1).toNatClampNeg) 1).2.2.2)) [21, 22, 23, 24, 25, 26, 27, 28, 29, 30, 31] rfl) (ci := 3) rfl rfl rfl) rfl rfl hl.1 rfl (lv_room (Nat.le_of_ble_eq_true rfl)) dL_law_722 ⟨by show 32 + j + 1 + 0 ≤ 1073; omega, by show 5140 + 6 * j + 6 + 0 ≤ 13434; omega⟩) hS hP (fun H locs hP hS => ?_)
            refine lv_iload hx hb dL_law_725 (lv_at hl 1 rfl) ?_
            refine lv_icmp_eq (tgt := 732) hx hb dL_law_727 (by decide) (fun c9 => ?_) (fun c9 => ?_)
            · refine lv_iload hx hb dL_law_732 (lv_at hl 1 rfl) ?_
              refine lv_if_ne (tgt := 756) hx hb dL_law_734 (by decide) (fun c9 => ?_) (fun c9 => ?_)
              · exact absurd (rfl) c9
              · refine lv_aload_n hx hb dL_law_737 rfl (lv_at hl 5 rfl) ?_
                refine lv_iconst (v := 0) hx hb dL_law_738 (by decide) ?_
                refine va_lald hx hb hG.2 hP 20 0 rfl rfl (vp_in_nI (n := 0) (by decide) (by decide)) dL_law_739 ?_
                refine lv_iload hx hb dL_law_740 (lv_at hl 0 rfl) ?_
                refine lv_if_eq (tgt := 749) hx hb dL_law_742 (by decide) (fun c9 => ?_) (fun c9 => ?_)
                · exact absurd c9 (cb)
                · refine lv_lconst (v := 1) hx hb dL_law_745 rfl ?_
                  refine lv_goto (tgt := 750) hx hb dL_law_746 (by decide) ?_
                  refine W.lcmp hx hb dL_law_750 ?_
                  refine lv_if_eq (tgt := 756) hx hb dL_law_751 (by decide) (fun c9 => ?_) (fun c9 => ?_)
                  · refine lv_goto (tgt := 1475) hx hb dL_law_756 (by decide) ?_
                    exact KK zb zo zt zm zu ((f_X2_setReference zr zf (xs ((nI (5 * j)) + 1).toNatClampNeg) 1).2.1) zl ((f_X2_setReference zr zf (xs ((nI (5 * j)) + 1).toNatClampNeg) 1).2.2) mc mw mn me mu ((f_X3_setReference mr mf (xs ((nI (5 * j)) + 1).toNatClampNeg) 1).2.1) mz ((f_X3_setReference mr mf (xs ((nI (5 * j)) + 1).toNatClampNeg) 1).2.2.1) ((f_X3_setReference mr mf (xs ((nI (5 * j)) + 1).toNatClampNeg) 1).2.2.2) (vp_updL go (0 : Int32).toNatClampNeg (if (f_X2_setReference zr zf (xs ((nI (5 * j)) + 1).toNatClampNeg) 1).1 = 0 then (0 : Int64) else 1)) _ _ ls R' hP hD hS (lv_sub hl [2, 3, 4, 5, 6] rfl)
                  · exact absurd (eC) c9
            · exact absurd (eT) c9
    · rcases x_setReference (p1 := (xs ((nI (5 * j)) + 1).toNatClampNeg)) with h9 | h9
      · exact absurd h9 eX0
      · have eX : f_X2_setReference_x (xs ((nI (5 * j)) + 1).toNatClampNeg) = 1 := h9
        have eT9 : f_X3_thrown ((f_X3_setReference mr mf (xs ((nI (5 * j)) + 1).toNatClampNeg) 1).2.2.2) = 1 := by rw [h9] at eT; exact eT
        refine lv_aload_n hx hb dL_law_668 rfl (lv_at hl 1 rfl) ?_
        refine lv_aload_n hx hb dL_law_669 rfl (lv_at hl 0 rfl) ?_
        refine lv_iload hx hb dL_law_670 (lv_at hl 4 rfl) ?_
        refine lv_iconst (v := 1) hx hb dL_law_672 (by decide) ?_
        refine lv_iadd hx hb dL_law_673 ?_
        refine va_sld hx hb hX hbl hbA hS hv1 dL_law_674 ?_
        refine lv_aload_n hx hb dL_law_675 rfl (lv_at hl 0 rfl) ?_
        refine lv_iload hx hb dL_law_676 (lv_at hl 4 rfl) ?_
        refine lv_iconst (v := 2) hx hb dL_law_678 (by decide) ?_
        refine lv_iadd hx hb dL_law_679 ?_
        refine va_sld hx hb hX hbl hbA hS hv2 dL_law_680 ?_
        refine lv_if_eq (tgt := 688) hx hb dL_law_681 (by decide) (fun c9 => ?_) (fun c9 => ?_)
        · exact absurd c9 (cz)
        · refine lv_iconst (v := 1) hx hb dL_law_684 (by decide) ?_
          refine lv_goto (tgt := 689) hx hb dL_law_685 (by decide) ?_
          refine lv_aload_n hx hb dL_law_689 rfl (lv_at hl 3 rfl) ?_
          refine mr_iG (vx_runSW (As := [.ref (ad 0), .int (xs ((nI (5 * j)) + 1).toNatClampNeg), .int 1, .ref oo]) (rest := []) ⟨hx, hb, hml, hown, htl⟩ (t_L_setReference_1 l hlt D cyI cyZ cyJ ad oo zb zo zt zm zu zr zl zf go (xs ((nI (5 * j)) + 1).toNatClampNeg) 1 _ _ rfl (Or.inr rfl) eX) (vx_cwSW 4 htl gL_law_L_setReference rfl rfl rfl (by decide +kernel) ⟨Nat.le_of_ble_eq_true rfl, Nat.le_of_ble_eq_true rfl⟩) (poS hG (hz.kept2 hS) hn (hP.sub (ws' := wO cyI cyZ cyJ ad zb zo zt zm zu zr zl zf oo go) [0, 1, 2, 3, 4, 5, 6, 7, 8, 9, 10, 11, 12, 13, 14, 15, 16, 17, 18, 19, 20] rfl) (hD.sub (ws' := wO cyI cyZ cyJ ad zb zo zt zm zu zr zl zf oo go) [0, 1, 2, 3, 4, 5, 6, 7, 8, 9, 10, 11, 12, 13, 14, 15, 16, 17, 18, 19, 20] (by decide) rfl)) rfl rfl hl.1 rfl (lv_room (Nat.le_of_ble_eq_true rfl)) dL_law_690 ⟨by show 32 + j + 1 ≤ 1073; omega, by show 5140 + 6 * j + 6 ≤ 13434; omega⟩) hP hD hS hA [0, 1, 2, 3, 4, 5, 6, 7, 8, 9, 10, 11, 12, 13, 14, 15, 16, 17, 18, 19, 20] [21, 22, 23, 24, 25, 26, 27, 28, 29, 30, 31] [11, 12, 13, 14, 15, 16, 17, 18, 19, 20, 21, 22, 23, 24, 25, 26, 27, 28, 29, 30, 31, 0, 1, 2, 3, 4, 5, 6, 7, 8, 9, 10] rfl rfl (by decide) (by decide) (by decide) (w2 := wA cyI cyZ cyJ ad zb zo zt zm zu zr zl zf oo go am mc mw mn me mu mr mz mf mt) rfl (fun H locs hP hD hS => ?_)
          have hP : va_P D vwCl (wA cyI cyZ cyJ ad zb zo zt zm zu zr zl zf oo go am mc mw mn me mu mr mz mf mt) H := hP
          have hD : va_D (fun q : Nat => s.heap.size ≤ q) (wA cyI cyZ cyJ ad zb zo zt zm zu zr zl zf oo go am mc mw mn me mu mr mz mf mt) := hD
          refine W.widen (k := 32 + j + 1) (n := 5140 + 6 * j + 6) (by omega) (by omega) ?_
          refine lv_istore (lv' := [(5, .int 1), (0, .ref b), (1, .ref (ad 0)), (2, .ref (am 0)), (3, .ref oo), (4, .int (nI (5 * j)))]) hx hb dL_law_693 hl (by decide) rfl (fun ls hl => ?_)
          refine lv_aload_n hx hb dL_law_695 rfl (lv_at hl 3 rfl) ?_
          refine lv_aload_n hx hb dL_law_696 rfl (lv_at hl 1 rfl) ?_
          refine lv_iload hx hb dL_law_697 (lv_at hl 5 rfl) ?_
          refine lv_iconst (v := 1) hx hb dL_law_699 (by decide) ?_
          refine lv_iadd hx hb dL_law_700 ?_
          refine va_sld hx hb hX hbl hbA hS hv1 dL_law_701 ?_
          refine lv_aload_n hx hb dL_law_702 rfl (lv_at hl 1 rfl) ?_
          refine lv_iload hx hb dL_law_703 (lv_at hl 5 rfl) ?_
          refine lv_iconst (v := 2) hx hb dL_law_705 (by decide) ?_
          refine lv_iadd hx hb dL_law_706 ?_
          refine va_sld hx hb hX hbl hbA hS hv2 dL_law_707 ?_
          refine lv_if_eq (tgt := 715) hx hb dL_law_708 (by decide) (fun c9 => ?_) (fun c9 => ?_)
          · exact absurd c9 (cz)
          · refine lv_iconst (v := 1) hx hb dL_law_711 (by decide) ?_
            refine lv_goto (tgt := 716) hx hb dL_law_712 (by decide) ?_
            refine mr_iG (va_runV (As := [.int (xs ((nI (5 * j)) + 1).toNatClampNeg), .int 1]) (rest := []) ⟨hx, hb, hml, hown, htl⟩ (k_X3_setReference l D cyI cyZ am mc mw mn me mu mr mz mf mt (xs ((nI (5 * j)) + 1).toNatClampNeg) 1 _ _ rfl (Or.inr rfl)) (cwV 2 htl gL_law_X3_setReference rfl rfl rfl (by decide +kernel) ⟨Nat.le_of_ble_eq_true rfl, Nat.le_of_ble_eq_true rfl⟩) (pmV hG.1 (hP.sub (ws' := wN cyI cyZ am mc mw mn me mu mr mz mf mt) [21, 22, 23, 24, 25, 26, 27, 28, 29, 30, 31] rfl) (hD.sub (ws' := wN cyI cyZ am mc mw mn me mu mr mz mf mt) [21, 22, 23, 24, 25, 26, 27, 28, 29, 30, 31] (by decide) rfl) (ci := 3) rfl rfl rfl) rfl rfl hl.1 rfl (lv_room (Nat.le_of_ble_eq_true rfl)) dL_law_716 ⟨by show 32 + j + 1 + 0 ≤ 1073; omega, by show 5140 + 6 * j + 6 + 0 ≤ 13434; omega⟩) hP hD hS hA [21, 22, 23, 24, 25, 26, 27, 28, 29, 30, 31] [0, 1, 2, 3, 4, 5, 6, 7, 8, 9, 10, 11, 12, 13, 14, 15, 16, 17, 18, 19, 20] [0, 1, 2, 3, 4, 5, 6, 7, 8, 9, 10, 11, 12, 13, 14, 15, 16, 17, 18, 19, 20, 21, 22, 23, 24, 25, 26, 27, 28, 29, 30, 31] rfl rfl (by decide) (by decide) (by decide) (w2 := wA cyI cyZ cyJ ad zb zo zt zm zu zr zl zf oo go am mc mw mn me mu (f_X3_setReference mr mf (xs ((nI (5 * j)) + 1).toNatClampNeg) 1).2.1 mz (f_X3_setReference mr mf (xs ((nI (5 * j)) + 1).toNatClampNeg) 1).2.2.1 (f_X3_setReference mr mf (xs ((nI (5 * j)) + 1).toNatClampNeg) 1).2.2.2) rfl (fun H locs hP hD hS => ?_)
            have hP : va_P D vwCl (wA cyI cyZ cyJ ad zb zo zt zm zu zr zl zf oo go am mc mw mn me mu (f_X3_setReference mr mf (xs ((nI (5 * j)) + 1).toNatClampNeg) 1).2.1 mz (f_X3_setReference mr mf (xs ((nI (5 * j)) + 1).toNatClampNeg) 1).2.2.1 (f_X3_setReference mr mf (xs ((nI (5 * j)) + 1).toNatClampNeg) 1).2.2.2) H := hP
            have hD : va_D (fun q : Nat => s.heap.size ≤ q) (wA cyI cyZ cyJ ad zb zo zt zm zu zr zl zf oo go am mc mw mn me mu (f_X3_setReference mr mf (xs ((nI (5 * j)) + 1).toNatClampNeg) 1).2.1 mz (f_X3_setReference mr mf (xs ((nI (5 * j)) + 1).toNatClampNeg) 1).2.2.1 (f_X3_setReference mr mf (xs ((nI (5 * j)) + 1).toNatClampNeg) 1).2.2.2) := hD
            refine lv_istore (lv' := [(6, .int ((f_X3_setReference mr mf (xs ((nI (5 * j)) + 1).toNatClampNeg) 1).1)), (5, .int 1), (0, .ref b), (1, .ref (ad 0)), (2, .ref (am 0)), (3, .ref oo), (4, .int (nI (5 * j)))]) hx hb dL_law_719 hl (by decide) rfl (fun ls hl => ?_)
            refine lv_aload_n hx hb dL_law_721 rfl (lv_at hl 4 rfl) ?_
            refine pr_i (va_runV (As := []) (rest := []) ⟨hx, hb, hml, hown, htl⟩ (k_X3_thrown l D cyI cyZ am mc mw mn me mu ((f_X3_setReference mr mf (xs ((nI (5 * j)) + 1).toNatClampNeg) 1).2.1) mz ((f_X3_setReference mr mf (xs ((nI (5 * j)) + 1).toNatClampNeg) 1).2.2.1) ((f_X3_setReference mr mf (xs ((nI (5 * j)) + 1).toNatClampNeg) 1).2.2.2)) (cwV 0 htl gL_law_X3_thrown rfl rfl rfl (by decide +kernel) ⟨Nat.le_of_ble_eq_true rfl, Nat.le_of_ble_eq_true rfl⟩) (prV hG.1 (hP.sub (ws' := wN cyI cyZ am mc mw mn me mu ((f_X3_setReference mr mf (xs ((nI (5 * j)) + 1).toNatClampNeg) 1).2.1) mz ((f_X3_setReference mr mf (xs ((nI (5 * j)) + 1).toNatClampNeg) 1).2.2.1) ((f_X3_setReference mr mf (xs ((nI (5 * j)) + 1).toNatClampNeg) 1).2.2.2)) [21, 22, 23, 24, 25, 26, 27, 28, 29, 30, 31] rfl) (ci := 3) rfl rfl rfl) rfl rfl hl.1 rfl (lv_room (Nat.le_of_ble_eq_true rfl)) dL_law_722 ⟨by show 32 + j + 1 + 0 ≤ 1073; omega, by show 5140 + 6 * j + 6 + 0 ≤ 13434; omega⟩) hS hP (fun H locs hP hS => ?_)
            refine lv_iload hx hb dL_law_725 (lv_at hl 1 rfl) ?_
            refine lv_icmp_eq (tgt := 732) hx hb dL_law_727 (by decide) (fun c9 => ?_) (fun c9 => ?_)
            · refine lv_iload hx hb dL_law_732 (lv_at hl 1 rfl) ?_
              refine lv_if_ne (tgt := 756) hx hb dL_law_734 (by decide) (fun c9 => ?_) (fun c9 => ?_)
              · refine lv_goto (tgt := 1475) hx hb dL_law_756 (by decide) ?_
                exact KK zb zo zt zm zu zr zl zf mc mw mn me mu ((f_X3_setReference mr mf (xs ((nI (5 * j)) + 1).toNatClampNeg) 1).2.1) mz ((f_X3_setReference mr mf (xs ((nI (5 * j)) + 1).toNatClampNeg) 1).2.2.1) ((f_X3_setReference mr mf (xs ((nI (5 * j)) + 1).toNatClampNeg) 1).2.2.2) go _ _ ls R' hP hD hS (lv_sub hl [2, 3, 4, 5, 6] rfl)
              · exact absurd c9 (by decide)
            · exact absurd (eT9) c9
