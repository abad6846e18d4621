set_option maxHeartbeats 4000000 in
set_option maxRecDepth 100000 in
theorem lw_columns {p : Program} {l : Launch} {e : Env} {s : State} {m : MethodId} {below : List Frame} {meth : Method} {c : Code} {b L : Nat} {xs : Nat → Int32} (C0 : lw_At p s m meth c b L xs) (hlt : l.stackTraces = false) {D : va_G} {cyI cyZ cyJ : ClassId} (hG : gL D cyI cyZ cyJ s) (hz : zq s) (hn : zn s) {ad am : Nat → Nat} {oo j : Nat} (hL : L ≤ 2560) (hj : 5 * j + 5 ≤ L) (KK : lwK p l e s m below meth c b D cyI cyZ cyJ ad am oo j) {zb : Tr} {zo : Tr} {zt : Tr} {zm : Tr} {zu : Nat → Int32} {zr : Nat → Int32} {zl : Lr} {zf : Int32} {mc : Nat → Int32} {mw : Nat → Int32} {mn : Nat → Int32} {me : Nat → Int32} {mu : Nat → Int32} {mr : Nat → Int32} {mz : Kr} {mf : Int32} {mt : Int32} {go : Nat → Int64} (R : Rl zb zo zt zm zu zr zl zf mc mw mn me mu mr mz mf) {H : Heap} {locs : List Loc} {ls : Array Slot} (hP : va_P D vwCl (wA cyI cyZ cyJ ad zb zo zt zm zu zr zl zf oo go am mc mw mn me mu mr mz mf mt) H) (hD : va_D (fun q : Nat => s.heap.size ≤ q) (wA cyI cyZ cyJ ad zb zo zt zm zu zr zl zf oo go am mc mw mn me mu mr mz mf mt)) (hS : va_S (fun q : Nat => s.heap.size ≤ q) s.heap H locs) (hl : lv_has ls 7 [(0, .ref b), (1, .ref (ad 0)), (2, .ref (am 0)), (3, .ref oo), (4, .int (nI (5 * j)))]) : W p l e room_1 s m #[Value.ref b] below meth c H locs (32 + j) (5140 + 6 * j) (lw_Z below #[Value.ref b] s) (F0 m 759 ls []) := by
  obtain ⟨hx, hb, hr, hml, hown, hts, hX, hbl, hlocks, hgv⟩ := C0
  have htl : ∀ w ∈ wsL_law, w.before #[Value.ref b] s = true := fun w h => hts w (wsL_law_in w h)
  have hA : ∀ q : Nat, s.heap.size ≤ q → (fun q : Nat => s.heap.size ≤ q) q := fun _ h => h
  have hbA : ¬ (fun q : Nat => s.heap.size ≤ q) b := Nat.not_le.mpr hbl
  have hv1 : vp_in (nI (5 * j) + 1) L := by rw [show (1 : Int32) = nI 1 from rfl, nI_add]; exact vp_in_nI (by omega) (by omega)
  have hv2 : vp_in (nI (5 * j) + 2) L := by rw [show (2 : Int32) = nI 2 from rfl, nI_add]; exact vp_in_nI (by omega) (by omega)
  have hv3 : vp_in (nI (5 * j) + 3) L := by rw [show (3 : Int32) = nI 3 from rfl, nI_add]; exact vp_in_nI (by omega) (by omega)
  have hv4 : vp_in (nI (5 * j) + 4) L := by rw [show (4 : Int32) = nI 4 from rfl, nI_add]; exact vp_in_nI (by omega) (by omega)
  rcases s_columns R (xs ((nI (5 * j)) + 1).toNatClampNeg) with ⟨eX, eT, eA⟩ | ⟨eX0, eT⟩
  · have eC : lg_cmp ((vp_updL go (0 : Int32).toNatClampNeg ((f_X2_columns zb zo zt zm (xs ((nI (5 * j)) + 1).toNatClampNeg))).toInt64) (0 : Int32).toNatClampNeg) (((f_X3_columns mc (xs ((nI (5 * j)) + 1).toNatClampNeg)).1).toInt64) = 0 := by rw [pk_uLs, eA]; exact lg_self _
    refine lv_aload_n hx hb dL_law_759 rfl (lv_at hl 1 rfl) ?_
    refine lv_aload_n hx hb dL_law_760 rfl (lv_at hl 0 rfl) ?_
    refine lv_iload hx hb dL_law_761 (lv_at hl 4 rfl) ?_
    refine lv_iconst (v := 1) hx hb dL_law_763 (by decide) ?_
    refine lv_iadd hx hb dL_law_764 ?_
    refine va_sld hx hb hX hbl hbA hS hv1 dL_law_765 ?_
    refine lv_aload_n hx hb dL_law_766 rfl (lv_at hl 3 rfl) ?_
    refine mr_iG (vx_runSW (As := [.ref (ad 0), .int (xs ((nI (5 * j)) + 1).toNatClampNeg), .ref oo]) (rest := []) ⟨hx, hb, hml, hown, htl⟩ (k_L_columns l D cyI cyZ cyJ ad oo zb zo zt zm zu zr zl zf go (xs ((nI (5 * j)) + 1).toNatClampNeg) _ _ rfl eX) (vx_cwSW 3 htl gL_law_L_columns rfl rfl rfl (by decide +kernel) ⟨Nat.le_of_ble_eq_true rfl, Nat.le_of_ble_eq_true rfl⟩) (poS hG (hz.kept2 hS) hn (hP.sub (ws' := wO cyI cyZ cyJ ad zb zo zt zm zu zr zl zf oo go) [0, 1, 2, 3, 4, 5, 6, 7, 8, 9, 10, 11, 12, 13, 14, 15, 16, 17, 18, 19, 20] rfl) (hD.sub (ws' := wO cyI cyZ cyJ ad zb zo zt zm zu zr zl zf oo go) [0, 1, 2, 3, 4, 5, 6, 7, 8, 9, 10, 11, 12, 13, 14, 15, 16, 17, 18, 19, 20] (by decide) rfl)) rfl rfl hl.1 rfl (lv_room (Nat.le_of_ble_eq_true rfl)) dL_law_767 ⟨by show 32 + j + 0 ≤ 1073; omega, by show 5140 + 6 * j + 0 ≤ 13434; omega⟩) hP hD hS hA [0, 1, 2, 3, 4, 5, 6, 7, 8, 9, 10, 11, 12, 13, 14, 15, 16, 17, 18, 19, 20] [21, 22, 23, 24, 25, 26, 27, 28, 29, 30, 31] [11, 12, 13, 14, 15, 16, 17, 18, 19, 20, 21, 22, 23, 24, 25, 26, 27, 28, 29, 30, 31, 0, 1, 2, 3, 4, 5, 6, 7, 8, 9, 10] rfl rfl (by decide) (by decide) (by decide) (w2 := wA cyI cyZ cyJ ad zb zo zt zm zu zr zl zf oo (vp_updL go (0 : Int32).toNatClampNeg ((f_X2_columns zb zo zt zm (xs ((nI (5 * j)) + 1).toNatClampNeg))).toInt64) am mc mw mn me mu mr mz mf mt) rfl (fun H locs hP hD hS => ?_)
    have hP : va_P D vwCl (wA cyI cyZ cyJ ad zb zo zt zm zu zr zl zf oo (vp_updL go (0 : Int32).toNatClampNeg ((f_X2_columns zb zo zt zm (xs ((nI (5 * j)) + 1).toNatClampNeg))).toInt64) am mc mw mn me mu mr mz mf mt) H := hP
    have hD : va_D (fun q : Nat => s.heap.size ≤ q) (wA cyI cyZ cyJ ad zb zo zt zm zu zr zl zf oo (vp_updL go (0 : Int32).toNatClampNeg ((f_X2_columns zb zo zt zm (xs ((nI (5 * j)) + 1).toNatClampNeg))).toInt64) am mc mw mn me mu mr mz mf mt) := hD
    refine W.widen (k := 32 + j + 1) (n := 5140 + 6 * j + 6) (by omega) (by omega) ?_
    refine lv_istore (lv' := [(5, .int 0), (0, .ref b), (1, .ref (ad 0)), (2, .ref (am 0)), (3, .ref oo), (4, .int (nI (5 * j)))]) hx hb dL_law_770 hl (by decide) rfl (fun ls hl => ?_)
    refine lv_aload_n hx hb dL_law_772 rfl (lv_at hl 3 rfl) ?_
    refine lv_aload_n hx hb dL_law_773 rfl (lv_at hl 1 rfl) ?_
    refine lv_iload hx hb dL_law_774 (lv_at hl 5 rfl) ?_
    refine lv_iconst (v := 1) hx hb dL_law_776 (by decide) ?_
    refine lv_iadd hx hb dL_law_777 ?_
    refine va_sld hx hb hX hbl hbA hS hv1 dL_law_778 ?_
    refine mr_iG (va_runV (As := [.int (xs ((nI (5 * j)) + 1).toNatClampNeg)]) (rest := []) ⟨hx, hb, hml, hown, htl⟩ (k_X3_columns l D cyI cyZ am mc mw mn me mu mr mz mf mt (xs ((nI (5 * j)) + 1).toNatClampNeg) _ _ rfl) (cwV 1 htl gL_law_X3_columns rfl rfl rfl (by decide +kernel) ⟨Nat.le_of_ble_eq_true rfl, Nat.le_of_ble_eq_true rfl⟩) (pmV hG.1 (hP.sub (ws' := wN cyI cyZ am mc mw mn me mu mr mz mf mt) [21, 22, 23, 24, 25, 26, 27, 28, 29, 30, 31] rfl) (hD.sub (ws' := wN cyI cyZ am mc mw mn me mu mr mz mf mt) [21, 22, 23, 24, 25, 26, 27, 28, 29, 30, 31] (by decide) rfl) (ci := 3) rfl rfl rfl) rfl rfl hl.1 rfl (lv_room (Nat.le_of_ble_eq_true rfl)) dL_law_779 ⟨by show 32 + j + 1 + 0 ≤ 1073; omega, by show 5140 + 6 * j + 6 + 0 ≤ 13434; omega⟩) hP hD hS hA [21, 22, 23, 24, 25, 26, 27, 28, 29, 30, 31] [0, 1, 2, 3, 4, 5, 6, 7, 8, 9, 10, 11, 12, 13, 14, 15, 16, 17, 18, 19, 20] [0, 1, 2, 3, 4, 5, 6, 7, 8, 9, 10, 11, 12, 13, 14, 15, 16, 17, 18, 19, 20, 21, 22, 23, 24, 25, 26, 27, 28, 29, 30, 31] rfl rfl (by decide) (by decide) (by decide) (w2 := wA cyI cyZ cyJ ad zb zo zt zm zu zr zl zf oo (vp_updL go (0 : Int32).toNatClampNeg ((f_X2_columns zb zo zt zm (xs ((nI (5 * j)) + 1).toNatClampNeg))).toInt64) am mc mw mn me mu mr mz mf (f_X3_columns mc (xs ((nI (5 * j)) + 1).toNatClampNeg)).2) rfl (fun H locs hP hD hS => ?_)
    have hP : va_P D vwCl (wA cyI cyZ cyJ ad zb zo zt zm zu zr zl zf oo (vp_updL go (0 : Int32).toNatClampNeg ((f_X2_columns zb zo zt zm (xs ((nI (5 * j)) + 1).toNatClampNeg))).toInt64) am mc mw mn me mu mr mz mf (f_X3_columns mc (xs ((nI (5 * j)) + 1).toNatClampNeg)).2) H := hP
    have hD : va_D (fun q : Nat => s.heap.size ≤ q) (wA cyI cyZ cyJ ad zb zo zt zm zu zr zl zf oo (vp_updL go (0 : Int32).toNatClampNeg ((f_X2_columns zb zo zt zm (xs ((nI (5 * j)) + 1).toNatClampNeg))).toInt64) am mc mw mn me mu mr mz mf (f_X3_columns mc (xs ((nI (5 * j)) + 1).toNatClampNeg)).2) := hD
    refine lv_istore (lv' := [(6, .int ((f_X3_columns mc (xs ((nI (5 * j)) + 1).toNatClampNeg)).1)), (5, .int 0), (0, .ref b), (1, .ref (ad 0)), (2, .ref (am 0)), (3, .ref oo), (4, .int (nI (5 * j)))]) hx hb dL_law_782 hl (by decide) rfl (fun ls hl => ?_)
    refine lv_aload_n hx hb dL_law_784 rfl (lv_at hl 4 rfl) ?_
    refine pr_i (va_runV (As := []) (rest := []) ⟨hx, hb, hml, hown, htl⟩ (k_X3_thrown l D cyI cyZ am mc mw mn me mu mr mz mf ((f_X3_columns mc (xs ((nI (5 * j)) + 1).toNatClampNeg)).2)) (cwV 0 htl gL_law_X3_thrown rfl rfl rfl (by decide +kernel) ⟨Nat.le_of_ble_eq_true rfl, Nat.le_of_ble_eq_true rfl⟩) (prV hG.1 (hP.sub (ws' := wN cyI cyZ am mc mw mn me mu mr mz mf ((f_X3_columns mc (xs ((nI (5 * j)) + 1).toNatClampNeg)).2)) [21, 22, 23, 24, 25, 26, 27, 28, 29, 30, 31] rfl) (ci := 3) rfl rfl rfl) rfl rfl hl.1 rfl (lv_room (Nat.le_of_ble_eq_true rfl)) dL_law_785 ⟨by show 32 + j + 1 + 0 ≤ 1073; omega, by show 5140 + 6 * j + 6 + 0 ≤ 13434; omega⟩) hS hP (fun H locs hP hS => ?_)
    refine lv_iload hx hb dL_law_788 (lv_at hl 1 rfl) ?_
    refine lv_icmp_eq (tgt := 795) hx hb dL_law_790 (by decide) (fun c9 => ?_) (fun c9 => ?_)
    · refine lv_iload hx hb dL_law_795 (lv_at hl 1 rfl) ?_
      refine lv_if_ne (tgt := 812) hx hb dL_law_797 (by decide) (fun c9 => ?_) (fun c9 => ?_)
      · exact absurd (rfl) c9
      · refine lv_aload_n hx hb dL_law_800 rfl (lv_at hl 5 rfl) ?_
        refine lv_iconst (v := 0) hx hb dL_law_801 (by decide) ?_
        refine va_lald hx hb hG.2 hP 20 0 rfl rfl (vp_in_nI (n := 0) (by decide) (by decide)) dL_law_802 ?_
        refine lv_iload hx hb dL_law_803 (lv_at hl 0 rfl) ?_
        refine lv_i2l (v := ((f_X3_columns mc (xs ((nI (5 * j)) + 1).toNatClampNeg)).1).toInt64) hx hb dL_law_805 rfl ?_
        refine W.lcmp hx hb dL_law_806 ?_
        refine lv_if_eq (tgt := 812) hx hb dL_law_807 (by decide) (fun c9 => ?_) (fun c9 => ?_)
        · refine lv_goto (tgt := 1475) hx hb dL_law_812 (by decide) ?_
          exact KK zb zo zt zm zu zr zl zf mc mw mn me mu mr mz mf ((f_X3_columns mc (xs ((nI (5 * j)) + 1).toNatClampNeg)).2) (vp_updL go (0 : Int32).toNatClampNeg ((f_X2_columns zb zo zt zm (xs ((nI (5 * j)) + 1).toNatClampNeg))).toInt64) _ _ ls R hP hD hS (lv_sub hl [2, 3, 4, 5, 6] rfl)
        · exact absurd (eC) c9
    · exact absurd (eT) c9
  · rcases x_columns (p1 := (xs ((nI (5 * j)) + 1).toNatClampNeg)) with h9 | h9
    · exact absurd h9 eX0
    · have eX : f_X2_columns_x (xs ((nI (5 * j)) + 1).toNatClampNeg) = 1 := h9
      have eT9 : f_X3_thrown ((f_X3_columns mc (xs ((nI (5 * j)) + 1).toNatClampNeg)).2) = 1 := by rw [h9] at eT; exact eT
      refine lv_aload_n hx hb dL_law_759 rfl (lv_at hl 1 rfl) ?_
      refine lv_aload_n hx hb dL_law_760 rfl (lv_at hl 0 rfl) ?_
      refine lv_iload hx hb dL_law_761 (lv_at hl 4 rfl) ?_
      refine lv_iconst (v := 1) hx hb dL_law_763 (by decide) ?_
      refine lv_iadd hx hb dL_law_764 ?_
      refine va_sld hx hb hX hbl hbA hS hv1 dL_law_765 ?_
      refine lv_aload_n hx hb dL_law_766 rfl (lv_at hl 3 rfl) ?_
      refine mr_iG (vx_runSW (As := [.ref (ad 0), .int (xs ((nI (5 * j)) + 1).toNatClampNeg), .ref oo]) (rest := []) ⟨hx, hb, hml, hown, htl⟩ (t_L_columns_1 l hlt D cyI cyZ cyJ ad oo zb zo zt zm zu zr zl zf go (xs ((nI (5 * j)) + 1).toNatClampNeg) _ _ rfl eX) (vx_cwSW 3 htl gL_law_L_columns rfl rfl rfl (by decide +kernel) ⟨Nat.le_of_ble_eq_true rfl, Nat.le_of_ble_eq_true rfl⟩) (poS hG (hz.kept2 hS) hn (hP.sub (ws' := wO cyI cyZ cyJ ad zb zo zt zm zu zr zl zf oo go) [0, 1, 2, 3, 4, 5, 6, 7, 8, 9, 10, 11, 12, 13, 14, 15, 16, 17, 18, 19, 20] rfl) (hD.sub (ws' := wO cyI cyZ cyJ ad zb zo zt zm zu zr zl zf oo go) [0, 1, 2, 3, 4, 5, 6, 7, 8, 9, 10, 11, 12, 13, 14, 15, 16, 17, 18, 19, 20] (by decide) rfl)) rfl rfl hl.1 rfl (lv_room (Nat.le_of_ble_eq_true rfl)) dL_law_767 ⟨by show 32 + j + 1 ≤ 1073; omega, by show 5140 + 6 * j + 6 ≤ 13434; omega⟩) hP hD hS hA [0, 1, 2, 3, 4, 5, 6, 7, 8, 9, 10, 11, 12, 13, 14, 15, 16, 17, 18, 19, 20] [21, 22, 23, 24, 25, 26, 27, 28, 29, 30, 31] [11, 12, 13, 14, 15, 16, 17, 18, 19, 20, 21, 22, 23, 24, 25, 26, 27, 28, 29, 30, 31, 0, 1, 2, 3, 4, 5, 6, 7, 8, 9, 10] rfl rfl (by decide) (by decide) (by decide) (w2 := wA cyI cyZ cyJ ad zb zo zt zm zu zr zl zf oo go am mc mw mn me mu mr mz mf mt) rfl (fun H locs hP hD hS => ?_)
      have hP : va_P D vwCl (wA cyI cyZ cyJ ad zb zo zt zm zu zr zl zf oo go am mc mw mn me mu mr mz mf mt) H := hP
      have hD : va_D (fun q : Nat => s.heap.size ≤ q) (wA cyI cyZ cyJ ad zb zo zt zm zu zr zl zf oo go am mc mw mn me mu mr mz mf mt) := hD
      refine W.widen (k := 32 + j + 1) (n := 5140 + 6 * j + 6) (by omega) (by omega) ?_
      refine lv_istore (lv' := [(5, .int 1), (0, .ref b), (1, .ref (ad 0)), (2, .ref (am 0)), (3, .ref oo), (4, .int (nI (5 * j)))]) hx hb dL_law_770 hl (by decide) rfl (fun ls hl => ?_)
      refine lv_aload_n hx hb dL_law_772 rfl (lv_at hl 3 rfl) ?_
      refine lv_aload_n hx hb dL_law_773 rfl (lv_at hl 1 rfl) ?_
      refine lv_iload hx hb dL_law_774 (lv_at hl 5 rfl) ?_
      refine lv_iconst (v := 1) hx hb dL_law_776 (by decide) ?_
      refine lv_iadd hx hb dL_law_777 ?_
      refine va_sld hx hb hX hbl hbA hS hv1 dL_law_778 ?_
      refine mr_iG (va_runV (As := [.int (xs ((nI (5 * j)) + 1).toNatClampNeg)]) (rest := []) ⟨hx, hb, hml, hown, htl⟩ (k_X3_columns l D cyI cyZ am mc mw mn me mu mr mz mf mt (xs ((nI (5 * j)) + 1).toNatClampNeg) _ _ rfl) (cwV 1 htl gL_law_X3_columns rfl rfl rfl (by decide +kernel) ⟨Nat.le_of_ble_eq_true rfl, Nat.le_of_ble_eq_true rfl⟩) (pmV hG.1 (hP.sub (ws' := wN cyI cyZ am mc mw mn me mu mr mz mf mt) [21, 22, 23, 24, 25, 26, 27, 28, 29, 30, 31] rfl) (hD.sub (ws' := wN cyI cyZ am mc mw mn me mu mr mz mf mt) [21, 22, 23, 24, 25, 26, 27, 28, 29, 30, 31] (by decide) rfl) (ci := 3) rfl rfl rfl) rfl rfl hl.1 rfl (lv_room (Nat.le_of_ble_eq_true rfl)) dL_law_779 ⟨by show 32 + j + 1 + 0 ≤ 1073; omega, by show 5140 + 6 * j + 6 + 0 ≤ 13434; omega⟩) hP hD hS hA [21, 22, 23, 24, 25, 26, 27, 28, 29, 30, 31] [0, 1, 2, 3, 4, 5, 6, 7, 8, 9, 10, 11, 12, 13, 14, 15, 16, 17, 18, 19, 20] [0, 1, 2, 3, 4, 5, 6, 7, 8, 9, 10, 11, 12, 13, 14, 15, 16, 17, 18, 19, 20, 21, 22, 23, 24, 25, 26, 27, 28, 29, 30, 31] rfl rfl (by decide) (by decide) (by decide) (w2 := wA cyI cyZ cyJ ad zb zo zt zm zu zr zl zf oo go am mc mw mn me mu mr mz mf (f_X3_columns mc (xs ((nI (5 * j)) + 1).toNatClampNeg)).2) rfl (fun H locs hP hD hS => ?_)
      have hP : va_P D vwCl (wA cyI cyZ cyJ ad zb zo zt zm zu zr zl zf oo go am mc mw mn me mu mr mz mf (f_X3_columns mc (xs ((nI (5 * j)) + 1).toNatClampNeg)).2) H := hP
      have hD : va_D (fun q : Nat => s.heap.size ≤ q) (wA cyI cyZ cyJ ad zb zo zt zm zu zr zl zf oo go am mc mw mn me mu mr mz mf (f_X3_columns mc (xs ((nI (5 * j)) + 1).toNatClampNeg)).2) := hD
      refine lv_istore (lv' := [(6, .int ((f_X3_columns mc (xs ((nI (5 * j)) + 1).toNatClampNeg)).1)), (5, .int 1), (0, .ref b), (1, .ref (ad 0)), (2, .ref (am 0)), (3, .ref oo), (4, .int (nI (5 * j)))]) hx hb dL_law_782 hl (by decide) rfl (fun ls hl => ?_)
      refine lv_aload_n hx hb dL_law_784 rfl (lv_at hl 4 rfl) ?_
      refine pr_i (va_runV (As := []) (rest := []) ⟨hx, hb, hml, hown, htl⟩ (k_X3_thrown l D cyI cyZ am mc mw mn me mu mr mz mf ((f_X3_columns mc (xs ((nI (5 * j)) + 1).toNatClampNeg)).2)) (cwV 0 htl gL_law_X3_thrown rfl rfl rfl (by decide +kernel) ⟨Nat.le_of_ble_eq_true rfl, Nat.le_of_ble_eq_true rfl⟩) (prV hG.1 (hP.sub (ws' := wN cyI cyZ am mc mw mn me mu mr mz mf ((f_X3_columns mc (xs ((nI (5 * j)) + 1).toNatClampNeg)).2)) [21, 22, 23, 24, 25, 26, 27, 28, 29, 30, 31] rfl) (ci := 3) rfl rfl rfl) rfl rfl hl.1 rfl (lv_room (Nat.le_of_ble_eq_true rfl)) dL_law_785 ⟨by show 32 + j + 1 + 0 ≤ 1073; omega, by show 5140 + 6 * j + 6 + 0 ≤ 13434; omega⟩) hS hP (fun H locs hP hS => ?_)
      refine lv_iload hx hb dL_law_788 (lv_at hl 1 rfl) ?_
      refine lv_icmp_eq (tgt := 795) hx hb dL_law_790 (by decide) (fun c9 => ?_) (fun c9 => ?_)
      · refine lv_iload hx hb dL_law_795 (lv_at hl 1 rfl) ?_
        refine lv_if_ne (tgt := 812) hx hb dL_law_797 (by decide) (fun c9 => ?_) (fun c9 => ?_)
        · refine lv_goto (tgt := 1475) hx hb dL_law_812 (by decide) ?_
          exact KK zb zo zt zm zu zr zl zf mc mw mn me mu mr mz mf ((f_X3_columns mc (xs ((nI (5 * j)) + 1).toNatClampNeg)).2) go _ _ ls R hP hD hS (lv_sub hl [2, 3, 4, 5, 6] rfl)
        · exact absurd c9 (by decide)
      · exact absurd (eT9) c9
set_option maxHeartbeats 4000000 in
set_option maxRecDepth 100000 in
theorem lw_rows {p : Program} {l : Launch} {e : Env} {s : State} {m : MethodId} {below : List Frame} {meth : Method} {c : Code} {b L : Nat} {xs : Nat → Int32} (C0 : lw_At p s m meth c b L xs) (hlt : l.stackTraces = false) {D : va_G} {cyI cyZ cyJ : ClassId} (hG : gL D cyI cyZ cyJ s) (hz : zq s) (hn : zn s) {ad am : Nat → Nat} {oo j : Nat} (hL : L ≤ 2560) (hj : 5 * j + 5 ≤ L) (KK : lwK p l e s m below meth c b D cyI cyZ cyJ ad am oo j) {zb : Tr} {zo : Tr} {zt : Tr} {zm : Tr} {zu : Nat → Int32} {zr : Nat → Int32} {zl : Lr} {zf : Int32} {mc : Nat → Int32} {mw : Nat → Int32} {mn : Nat → Int32} {me : Nat → Int32} {mu : Nat → Int32} {mr : Nat → Int32} {mz : Kr} {mf : Int32} {mt : Int32} {go : Nat → Int64} (R : Rl zb zo zt zm zu zr zl zf mc mw mn me mu mr mz mf) {H : Heap} {locs : List Loc} {ls : Array Slot} (hP : va_P D vwCl (wA cyI cyZ cyJ ad zb zo zt zm zu zr zl zf oo go am mc mw mn me mu mr mz mf mt) H) (hD : va_D (fun q : Nat => s.heap.size ≤ q) (wA cyI cyZ cyJ ad zb zo zt zm zu zr zl zf oo go am mc mw mn me mu mr mz mf mt)) (hS : va_S (fun q : Nat => s.heap.size ≤ q) s.heap H locs) (hl : lv_has ls 7 [(0, .ref b), (1, .ref (ad 0)), (2, .ref (am 0)), (3, .ref oo), (4, .int (nI (5 * j)))]) : W p l e room_1 s m #[Value.ref b] below meth c H locs (32 + j) (5140 + 6 * j) (lw_Z below #[Value.ref b] s) (F0 m 815 ls []) := by
  obtain ⟨hx, hb, hr, hml, hown, hts, hX, hbl, hlocks, hgv⟩ := C0
  have htl : ∀ w ∈ wsL_law, w.before #[Value.ref b] s = true := fun w h => hts w (wsL_law_in w h)
  have hA : ∀ q : Nat, s.heap.size ≤ q → (fun q : Nat => s.heap.size ≤ q) q := fun _ h => h
  have hbA : ¬ (fun q : Nat => s.heap.size ≤ q) b := Nat.not_le.mpr hbl
  have hv1 : vp_in (nI (5 * j) + 1) L := by rw [show (1 : Int32) = nI 1 from rfl, nI_add]; exact vp_in_nI (by omega) (by omega)
  have hv2 : vp_in (nI (5 * j) + 2) L := by rw [show (2 : Int32) = nI 2 from rfl, nI_add]; exact vp_in_nI (by omega) (by omega)
  have hv3 : vp_in (nI (5 * j) + 3) L := by rw [show (3 : Int32) = nI 3 from rfl, nI_add]; exact vp_in_nI (by omega) (by omega)
  have hv4 : vp_in (nI (5 * j) + 4) L := by rw [show (4 : Int32) = nI 4 from rfl, nI_add]; exact vp_in_nI (by omega) (by omega)
  rcases s_rows R (xs ((nI (5 * j)) + 1).toNatClampNeg) with ⟨eX, eT, eA⟩ | ⟨eX0, eT⟩
  · have eC : lg_cmp ((vp_updL go (0 : Int32).toNatClampNeg ((f_X2_rows zb zo zt zm (xs ((nI (5 * j)) + 1).toNatClampNeg))).toInt64) (0 : Int32).toNatClampNeg) (((f_X3_rows mw (xs ((nI (5 * j)) + 1).toNatClampNeg)).1).toInt64) = 0 := by rw [pk_uLs, eA]; exact lg_self _
    refine lv_aload_n hx hb dL_law_815 rfl (lv_at hl 1 rfl) ?_
    refine lv_aload_n hx hb dL_law_816 rfl (lv_at hl 0 rfl) ?_
    refine lv_iload hx hb dL_law_817 (lv_at hl 4 rfl) ?_
    refine lv_iconst (v := 1) hx hb dL_law_819 (by decide) ?_
    refine lv_iadd hx hb dL_law_820 ?_
    refine va_sld hx hb hX hbl hbA hS hv1 dL_law_821 ?_
    refine lv_aload_n hx hb dL_law_822 rfl (lv_at hl 3 rfl) ?_
    refine mr_iG (vx_runSW (As := [.ref (ad 0), .int (xs ((nI (5 * j)) + 1).toNatClampNeg), .ref oo]) (rest := []) ⟨hx, hb, hml, hown, htl⟩ (k_L_rows l D cyI cyZ cyJ ad oo zb zo zt zm zu zr zl zf go (xs ((nI (5 * j)) + 1).toNatClampNeg) _ _ rfl eX) (vx_cwSW 3 htl gL_law_L_rows rfl rfl rfl (by decide +kernel) ⟨Nat.le_of_ble_eq_true rfl, Nat.le_of_ble_eq_true rfl⟩) (poS hG (hz.kept2 hS) hn (hP.sub (ws' := wO cyI cyZ cyJ ad zb zo zt zm zu zr zl zf oo go) [0, 1, 2, 3, 4, 5, 6, 7, 8, 9, 10, 11, 12, 13, 14, 15, 16, 17, 18, 19, 20] rfl) (hD.sub (ws' := wO cyI cyZ cyJ ad zb zo zt zm zu zr zl zf oo go) [0, 1, 2, 3, 4, 5, 6, 7, 8, 9, 10, 11, 12, 13, 14, 15, 16, 17, 18, 19, 20] (by decide) rfl)) rfl rfl hl.1 rfl (lv_room (Nat.le_of_ble_eq_true rfl)) dL_law_823 ⟨by show 32 + j + 0 ≤ 1073; omega, by show 5140 + 6 * j + 0 ≤ 13434; omega⟩) hP hD hS hA [0, 1, 2, 3, 4, 5, 6, 7, 8, 9, 10, 11, 12, 13, 14, 15, 16, 17, 18, 19, 20] [21, 22, 23, 24, 25, 26, 27, 28, 29, 30, 31] [11, 12, 13, 14, 15, 16, 17, 18, 19, 20, 21, 22, 23, 24, 25, 26, 27, 28, 29, 30, 31, 0, 1, 2, 3, 4, 5, 6, 7, 8, 9, 10] rfl rfl (by decide) (by decide) (by decide) (w2 := wA cyI cyZ cyJ ad zb zo zt zm zu zr zl zf oo (vp_updL go (0 : Int32).toNatClampNeg ((f_X2_rows zb zo zt zm (xs ((nI (5 * j)) + 1).toNatClampNeg))).toInt64) am mc mw mn me mu mr mz mf mt) rfl (fun H locs hP hD hS => ?_)
    have hP : va_P D vwCl (wA cyI cyZ cyJ ad zb zo zt zm zu zr zl zf oo (vp_updL go (0 : Int32).toNatClampNeg ((f_X2_rows zb zo zt zm (xs ((nI (5 * j)) + 1).toNatClampNeg))).toInt64) am mc mw mn me mu mr mz mf mt) H := hP
    have hD : va_D (fun q : Nat => s.heap.size ≤ q) (wA cyI cyZ cyJ ad zb zo zt zm zu zr zl zf oo (vp_updL go (0 : Int32).toNatClampNeg ((f_X2_rows zb zo zt zm (xs ((nI (5 * j)) + 1).toNatClampNeg))).toInt64) am mc mw mn me mu mr mz mf mt) := hD
    refine W.widen (k := 32 + j + 1) (n := 5140 + 6 * j + 6) (by omega) (by omega) ?_
    refine lv_istore (lv' := [(5, .int 0), (0, .ref b), (1, .ref (ad 0)), (2, .ref (am 0)), (3, .ref oo), (4, .int (nI (5 * j)))]) hx hb dL_law_826 hl (by decide) rfl (fun ls hl => ?_)
    refine lv_aload_n hx hb dL_law_828 rfl (lv_at hl 3 rfl) ?_
    refine lv_aload_n hx hb dL_law_829 rfl (lv_at hl 1 rfl) ?_
    refine lv_iload hx hb dL_law_830 (lv_at hl 5 rfl) ?_
    refine lv_iconst (v := 1) hx hb dL_law_832 (by decide) ?_
    refine lv_iadd hx hb dL_law_833 ?_
    refine va_sld hx hb hX hbl hbA hS hv1 dL_law_834 ?_
    refine mr_iG (va_runV (As := [.int (xs ((nI (5 * j)) + 1).toNatClampNeg)]) (rest := []) ⟨hx, hb, hml, hown, htl⟩ (k_X3_rows l D cyI cyZ am mc mw mn me mu mr mz mf mt (xs ((nI (5 * j)) + 1).toNatClampNeg) _ _ rfl) (cwV 1 htl gL_law_X3_rows rfl rfl rfl (by decide +kernel) ⟨Nat.le_of_ble_eq_true rfl, Nat.le_of_ble_eq_true rfl⟩) (pmV hG.1 (hP.sub (ws' := wN cyI cyZ am mc mw mn me mu mr mz mf mt) [21, 22, 23, 24, 25, 26, 27, 28, 29, 30, 31] rfl) (hD.sub (ws' := wN cyI cyZ am mc mw mn me mu mr mz mf mt) [21, 22, 23, 24, 25, 26, 27, 28, 29, 30, 31] (by decide) rfl) (ci := 3) rfl rfl rfl) rfl rfl hl.1 rfl (lv_room (Nat.le_of_ble_eq_true rfl)) dL_law_835 ⟨by show 32 + j + 1 + 0 ≤ 1073; omega, by show 5140 + 6 * j + 6 + 0 ≤ 13434; omega⟩) hP hD hS hA [21, 22, 23, 24, 25, 26, 27, 28, 29, 30, 31] [0, 1, 2, 3, 4, 5, 6, 7, 8, 9, 10, 11, 12, 13, 14, 15, 16, 17, 18, 19, 20] [0, 1, 2, 3, 4, 5, 6, 7, 8, 9, 10, 11, 12, 13, 14, 15, 16, 17, 18, 19, 20, 21, 22, 23, 24, 25, 26, 27, 28, 29, 30, 31] rfl rfl (by decide) (by decide) (by decide) (w2 := wA cyI cyZ cyJ ad zb zo zt zm zu zr zl zf oo (vp_updL go (0 : Int32).toNatClampNeg ((f_X2_rows zb zo zt zm (xs ((nI (5 * j)) + 1).toNatClampNeg))).toInt64) am mc mw mn me mu mr mz mf (f_X3_rows mw (xs ((nI (5 * j)) + 1).toNatClampNeg)).2) rfl (fun H locs hP hD hS => ?_)
    have hP : va_P D vwCl (wA cyI cyZ cyJ ad zb zo zt zm zu zr zl zf oo (vp_updL go (0 : Int32).toNatClampNeg ((f_X2_rows zb zo zt zm (xs ((nI (5 * j)) + 1).toNatClampNeg))).toInt64) am mc mw mn me mu mr mz mf (f_X3_rows mw (xs ((nI (5 * j)) + 1).toNatClampNeg)).2) H := hP
    have hD : va_D (fun q : Nat => s.heap.size ≤ q) (wA cyI cyZ cyJ ad zb zo zt zm zu zr zl zf oo (vp_updL go (0 : Int32).toNatClampNeg ((f_X2_rows zb zo zt zm (xs ((nI (5 * j)) + 1).toNatClampNeg))).toInt64) am mc mw mn me mu mr mz mf (f_X3_rows mw (xs ((nI (5 * j)) + 1).toNatClampNeg)).2) := hD
    refine lv_istore (lv' := [(6, .int ((f_X3_rows mw (xs ((nI (5 * j)) + 1).toNatClampNeg)).1)), (5, .int 0), (0, .ref b), (1, .ref (ad 0)), (2, .ref (am 0)), (3, .ref oo), (4, .int (nI (5 * j)))]) hx hb dL_law_838 hl (by decide) rfl (fun ls hl => ?_)
    refine lv_aload_n hx hb dL_law_840 rfl (lv_at hl 4 rfl) ?_
    refine pr_i (va_runV (As := []) (rest := []) ⟨hx, hb, hml, hown, htl⟩ (k_X3_thrown l D cyI cyZ am mc mw mn me mu mr mz mf ((f_X3_rows mw (xs ((nI (5 * j)) + 1).toNatClampNeg)).2)) (cwV 0 htl gL_law_X3_thrown rfl rfl rfl (by decide +kernel) ⟨Nat.le_of_ble_eq_true rfl, Nat.le_of_ble_eq_true rfl⟩) (prV hG.1 (hP.sub (ws' := wN cyI cyZ am mc mw mn me mu mr mz mf ((f_X3_rows mw (xs ((nI (5 * j)) + 1).toNatClampNeg)).2)) [21, 22, 23, 24, 25, 26, 27, 28, 29, 30, 31] rfl) (ci := 3) rfl rfl rfl) rfl rfl hl.1 rfl (lv_room (Nat.le_of_ble_eq_true rfl)) dL_law_841 ⟨by show 32 + j + 1 + 0 ≤ 1073; omega, by show 5140 + 6 * j + 6 + 0 ≤ 13434; omega⟩) hS hP (fun H locs hP hS => ?_)
    refine lv_iload hx hb dL_law_844 (lv_at hl 1 rfl) ?_
    refine lv_icmp_eq (tgt := 851) hx hb dL_law_846 (by decide) (fun c9 => ?_) (fun c9 => ?_)
    · refine lv_iload hx hb dL_law_851 (lv_at hl 1 rfl) ?_
      refine lv_if_ne (tgt := 868) hx hb dL_law_853 (by decide) (fun c9 => ?_) (fun c9 => ?_)
      · exact absurd (rfl) c9
      · refine lv_aload_n hx hb dL_law_856 rfl (lv_at hl 5 rfl) ?_
        refine lv_iconst (v := 0) hx hb dL_law_857 (by decide) ?_
        refine va_lald hx hb hG.2 hP 20 0 rfl rfl (vp_in_nI (n := 0) (by decide) (by decide)) dL_law_858 ?_
        refine lv_iload hx hb dL_law_859 (lv_at hl 0 rfl) ?_
        refine lv_i2l (v := ((f_X3_rows mw (xs ((nI (5 * j)) + 1).toNatClampNeg)).1).toInt64) hx hb dL_law_861 rfl ?_
        refine W.lcmp hx hb dL_law_862 ?_
        refine lv_if_eq (tgt := 868) hx hb dL_law_863 (by decide) (fun c9 => ?_) (fun c9 => ?_)
        · refine lv_goto (tgt := 1475) hx hb dL_law_868 (by decide) ?_
          exact KK zb zo zt zm zu zr zl zf mc mw mn me mu mr mz mf ((f_X3_rows mw (xs ((nI (5 * j)) + 1).toNatClampNeg)).2) (vp_updL go (0 : Int32).toNatClampNeg ((f_X2_rows zb zo zt zm (xs ((nI (5 * j)) + 1).toNatClampNeg))).toInt64) _ _ ls R hP hD hS (lv_sub hl [2, 3, 4, 5, 6] rfl)
        · exact absurd (eC) c9
    · exact absurd (eT) c9
  · rcases x_rows (p1 := (xs ((nI (5 * j)) + 1).toNatClampNeg)) with h9 | h9
    · exact absurd h9 eX0
    · have eX : f_X2_rows_x (xs ((nI (5 * j)) + 1).toNatClampNeg) = 1 := h9
      have eT9 : f_X3_thrown ((f_X3_rows mw (xs ((nI (5 * j)) + 1).toNatClampNeg)).2) = 1 := by rw [h9] at eT; exact eT
      refine lv_aload_n hx hb dL_law_815 rfl (lv_at hl 1 rfl) ?_
      refine lv_aload_n hx hb dL_law_816 rfl (lv_at hl 0 rfl) ?_
      refine lv_iload hx hb dL_law_817 (lv_at hl 4 rfl) ?_
      refine lv_iconst (v := 1) hx hb dL_law_819 (by decide) ?_
      refine lv_iadd hx hb dL_law_820 ?_
      refine va_sld hx hb hX hbl hbA hS hv1 dL_law_821 ?_
      refine lv_aload_n hx hb dL_law_822 rfl (lv_at hl 3 rfl) ?_
      refine mr_iG (vx_runSW (As := [.ref (ad 0), .int (xs ((nI (5 * j)) + 1).toNatClampNeg), .ref oo]) (rest := []) ⟨hx, hb, hml, hown, htl⟩ (t_L_rows_1 l hlt D cyI cyZ cyJ ad oo zb zo zt zm zu zr zl zf go (xs ((nI (5 * j)) + 1).toNatClampNeg) _ _ rfl eX) (vx_cwSW 3 htl gL_law_L_rows rfl rfl rfl (by decide +kernel) ⟨Nat.le_of_ble_eq_true rfl, Nat.le_of_ble_eq_true rfl⟩) (poS hG (hz.kept2 hS) hn (hP.sub (ws' := wO cyI cyZ cyJ ad zb zo zt zm zu zr zl zf oo go) [0, 1, 2, 3, 4, 5, 6, 7, 8, 9, 10, 11, 12, 13, 14, 15, 16, 17, 18, 19, 20] rfl) (hD.sub (ws' := wO cyI cyZ cyJ ad zb zo zt zm zu zr zl zf oo go) [0, 1, 2, 3, 4, 5, 6, 7, 8, 9, 10, 11, 12, 13, 14, 15, 16, 17, 18, 19, 20] (by decide) rfl)) rfl rfl hl.1 rfl (lv_room (Nat.le_of_ble_eq_true rfl)) dL_law_823 ⟨by show 32 + j + 1 ≤ 1073; omega, by show 5140 + 6 * j + 6 ≤ 13434; omega⟩) hP hD hS hA [0, 1, 2, 3, 4, 5, 6, 7, 8, 9, 10, 11, 12, 13, 14, 15, 16, 17, 18, 19, 20] [21, 22, 23, 24, 25, 26, 27, 28, 29, 30, 31] [11, 12, 13, 14, 15, 16, 17, 18, 19, 20, 21, 22, 23, 24, 25, 26, 27, 28, 29, 30, 31, 0, 1, 2, 3, 4, 5, 6, 7, 8, 9, 10] rfl rfl (by decide) (by decide) (by decide) (w2 := wA cyI cyZ cyJ ad zb zo zt zm zu zr zl zf oo go am mc mw mn me mu mr mz mf mt) rfl (fun H locs hP hD hS => ?_)
      have hP : va_P D vwCl (wA cyI cyZ cyJ ad zb zo zt zm zu zr zl zf oo go am mc mw mn me mu mr mz mf mt) H := hP
      have hD : va_D (fun q : Nat => s.heap.size ≤ q) (wA cyI cyZ cyJ ad zb zo zt zm zu zr zl zf oo go am mc mw mn me mu mr mz mf mt) := hD
      refine W.widen (k := 32 + j + 1) (n := 5140 + 6 * j + 6) (by omega) (by omega) ?_
      refine lv_istore (lv' := [(5, .int 1), (0, .ref b), (1, .ref (ad 0)), (2, .ref (am 0)), (3, .ref oo), (4, .int (nI (5 * j)))]) hx hb dL_law_826 hl (by decide) rfl (fun ls hl => ?_)
      refine lv_aload_n hx hb dL_law_828 rfl (lv_at hl 3 rfl) ?_
      refine lv_aload_n hx hb dL_law_829 rfl (lv_at hl 1 rfl) ?_
      refine lv_iload hx hb dL_law_830 (lv_at hl 5 rfl) ?_
      refine lv_iconst (v := 1) hx hb dL_law_832 (by decide) ?_
      refine lv_iadd hx hb dL_law_833 ?_
      refine va_sld hx hb hX hbl hbA hS hv1 dL_law_834 ?_
      refine mr_iG (va_runV (As := [.int (xs ((nI (5 * j)) + 1).toNatClampNeg)]) (rest := []) ⟨hx, hb, hml, hown, htl⟩ (k_X3_rows l D cyI cyZ am mc mw mn me mu mr mz mf mt (xs ((nI (5 * j)) + 1).toNatClampNeg) _ _ rfl) (cwV 1 htl gL_law_X3_rows rfl rfl rfl (by decide +kernel) ⟨Nat.le_of_ble_eq_true rfl, Nat.le_of_ble_eq_true rfl⟩) (pmV hG.1 (hP.sub (ws' := wN cyI cyZ am mc mw mn me mu mr mz mf mt) [21, 22, 23, 24, 25, 26, 27, 28, 29, 30, 31] rfl) (hD.sub (ws' := wN cyI cyZ am mc mw mn me mu mr mz mf mt) [21, 22, 23, 24, 25, 26, 27, 28, 29, 30, 31] (by decide) rfl) (ci := 3) rfl rfl rfl) rfl rfl hl.1 rfl (lv_room (Nat.le_of_ble_eq_true rfl)) dL_law_835 ⟨by show 32 + j + 1 + 0 ≤ 1073; omega, by show 5140 + 6 * j + 6 + 0 ≤ 13434; omega⟩) hP hD hS hA [21, 22, 23, 24, 25, 26, 27, 28, 29, 30, 31] [0, 1, 2, 3, 4, 5, 6, 7, 8, 9, 10, 11, 12, 13, 14, 15, 16, 17, 18, 19, 20] [0, 1, 2, 3, 4, 5, 6, 7, 8, 9, 10, 11, 12, 13, 14, 15, 16, 17, 18, 19, 20, 21, 22, 23, 24, 25, 26, 27, 28, 29, 30, 31] rfl rfl (by decide) (by decide) (by decide) (w2 := wA cyI cyZ cyJ ad zb zo zt zm zu zr zl zf oo go am mc mw mn me mu mr mz mf (f_X3_rows mw (xs ((nI (5 * j)) + 1).toNatClampNeg)).2) rfl (fun H locs hP hD hS => ?_)
      have hP : va_P D vwCl (wA cyI cyZ cyJ ad zb zo zt zm zu zr zl zf oo go am mc mw mn me mu mr mz mf (f_X3_rows mw (xs ((nI (5 * j)) + 1).toNatClampNeg)).2) H := hP
      have hD : va_D (fun q : Nat => s.heap.size ≤ q) (wA cyI cyZ cyJ ad zb zo zt zm zu zr zl zf oo go am mc mw mn me mu mr mz mf (f_X3_rows mw (xs ((nI (5 * j)) + 1).toNatClampNeg)).2) := hD
      refine lv_istore (lv' := [(6, .int ((f_X3_rows mw (xs ((nI (5 * j)) + 1).toNatClampNeg)).1)), (5, .int 1), (0, .ref b), (1, .ref (ad 0)), (2, .ref (am 0)), (3, .ref oo), (4, .int (nI (5 * j)))]) hx hb dL_law_838 hl (by decide) rfl (fun ls hl => ?_)
      refine lv_aload_n hx hb dL_law_840 rfl (lv_at hl 4 rfl) ?_
      refine pr_i (va_runV (As := []) (rest := []) ⟨hx, hb, hml, hown, htl⟩ (k_X3_thrown l D cyI cyZ am mc mw mn me mu mr mz mf ((f_X3_rows mw (xs ((nI (5 * j)) + 1).toNatClampNeg)).2)) (cwV 0 htl gL_law_X3_thrown rfl rfl rfl (by decide +kernel) ⟨Nat.le_of_ble_eq_true rfl, Nat.le_of_ble_eq_true rfl⟩) (prV hG.1 (hP.sub (ws' := wN cyI cyZ am mc mw mn me mu mr mz mf ((f_X3_rows mw (xs ((nI (5 * j)) + 1).toNatClampNeg)).2)) [21, 22, 23, 24, 25, 26, 27, 28, 29, 30, 31] rfl) (ci := 3) rfl rfl rfl) rfl rfl hl.1 rfl (lv_room (Nat.le_of_ble_eq_true rfl)) dL_law_841 ⟨by show 32 + j + 1 + 0 ≤ 1073; omega, by show 5140 + 6 * j + 6 + 0 ≤ 13434; omega⟩) hS hP (fun H locs hP hS => ?_)
      refine lv_iload hx hb dL_law_844 (lv_at hl 1 rfl) ?_
      refine lv_icmp_eq (tgt := 851) hx hb dL_law_846 (by decide) (fun c9 => ?_) (fun c9 => ?_)
      · refine lv_iload hx hb dL_law_851 (lv_at hl 1 rfl) ?_
        refine lv_if_ne (tgt := 868) hx hb dL_law_853 (by decide) (fun c9 => ?_) (fun c9 => ?_)
        · refine lv_goto (tgt := 1475) hx hb dL_law_868 (by decide) ?_
          exact KK zb zo zt zm zu zr zl zf mc mw mn me mu mr mz mf ((f_X3_rows mw (xs ((nI (5 * j)) + 1).toNatClampNeg)).2) go _ _ ls R hP hD hS (lv_sub hl [2, 3, 4, 5, 6] rfl)
        · exact absurd c9 (by decide)
      · exact absurd (eT9) c9
set_option maxHeartbeats 4000000 in
set_option maxRecDepth 100000 in
theorem lw_name {p : Program} {l : Launch} {e : Env} {s : State} {m : MethodId} {below : List Frame} {meth : Method} {c : Code} {b L : Nat} {xs : Nat → Int32} (C0 : lw_At p s m meth c b L xs) (hlt : l.stackTraces = false) {D : va_G} {cyI cyZ cyJ : ClassId} (hG : gL D cyI cyZ cyJ s) (hz : zq s) (hn : zn s) {ad am : Nat → Nat} {oo j : Nat} (hL : L ≤ 2560) (hj : 5 * j + 5 ≤ L) (KK : lwK p l e s m below meth c b D cyI cyZ cyJ ad am oo j) {zb : Tr} {zo : Tr} {zt : Tr} {zm : Tr} {zu : Nat → Int32} {zr : Nat → Int32} {zl : Lr} {zf : Int32} {mc : Nat → Int32} {mw : Nat → Int32} {mn : Nat → Int32} {me : Nat → Int32} {mu : Nat → Int32} {mr : Nat → Int32} {mz : Kr} {mf : Int32} {mt : Int32} {go : Nat → Int64} (R : Rl zb zo zt zm zu zr zl zf mc mw mn me mu mr mz mf) {H : Heap} {locs : List Loc} {ls : Array Slot} (hP : va_P D vwCl (wA cyI cyZ cyJ ad zb zo zt zm zu zr zl zf oo go am mc mw mn me mu mr mz mf mt) H) (hD : va_D (fun q : Nat => s.heap.size ≤ q) (wA cyI cyZ cyJ ad zb zo zt zm zu zr zl zf oo go am mc mw mn me mu mr mz mf mt)) (hS : va_S (fun q : Nat => s.heap.size ≤ q) s.heap H locs) (hl : lv_has ls 7 [(0, .ref b), (1, .ref (ad 0)), (2, .ref (am 0)), (3, .ref oo), (4, .int (nI (5 * j)))]) : W p l e room_1 s m #[Value.ref b] below meth c H locs (32 + j) (5140 + 6 * j) (lw_Z below #[Value.ref b] s) (F0 m 871 ls []) := by
  obtain ⟨hx, hb, hr, hml, hown, hts, hX, hbl, hlocks, hgv⟩ := C0
  have htl : ∀ w ∈ wsL_law, w.before #[Value.ref b] s = true := fun w h => hts w (wsL_law_in w h)
  have hA : ∀ q : Nat, s.heap.size ≤ q → (fun q : Nat => s.heap.size ≤ q) q := fun _ h => h
  have hbA : ¬ (fun q : Nat => s.heap.size ≤ q) b := Nat.not_le.mpr hbl
  have hv1 : vp_in (nI (5 * j) + 1) L := by rw [show (1 : Int32) = nI 1 from rfl, nI_add]; exact vp_in_nI (by omega) (by omega)
  have hv2 : vp_in (nI (5 * j) + 2) L := by rw [show (2 : Int32) = nI 2 from rfl, nI_add]; exact vp_in_nI (by omega) (by omega)
  have hv3 : vp_in (nI (5 * j) + 3) L := by rw [show (3 : Int32) = nI 3 from rfl, nI_add]; exact vp_in_nI (by omega) (by omega)
  have hv4 : vp_in (nI (5 * j) + 4) L := by rw [show (4 : Int32) = nI 4 from rfl, nI_add]; exact vp_in_nI (by omega) (by omega)
  rcases s_name R (xs ((nI (5 * j)) + 1).toNatClampNeg) (xs ((nI (5 * j)) + 2).toNatClampNeg) with ⟨eX, eT, eA⟩ | ⟨eX0, eT⟩
  · have eC : lg_cmp ((vp_updL go (0 : Int32).toNatClampNeg ((f_X2_name zb zo zt zm (xs ((nI (5 * j)) + 1).toNatClampNeg) (xs ((nI (5 * j)) + 2).toNatClampNeg))).toInt64) (0 : Int32).toNatClampNeg) (((f_X3_name mc mn (xs ((nI (5 * j)) + 1).toNatClampNeg) (xs ((nI (5 * j)) + 2).toNatClampNeg)).1).toInt64) = 0 := by rw [pk_uLs, eA]; exact lg_self _
    refine lv_aload_n hx hb dL_law_871 rfl (lv_at hl 1 rfl) ?_
    refine lv_aload_n hx hb dL_law_872 rfl (lv_at hl 0 rfl) ?_
    refine lv_iload hx hb dL_law_873 (lv_at hl 4 rfl) ?_
    refine lv_iconst (v := 1) hx hb dL_law_875 (by decide) ?_
    refine lv_iadd hx hb dL_law_876 ?_
    refine va_sld hx hb hX hbl hbA hS hv1 dL_law_877 ?_
    refine lv_aload_n hx hb dL_law_878 rfl (lv_at hl 0 rfl) ?_
    refine lv_iload hx hb dL_law_879 (lv_at hl 4 rfl) ?_
    refine lv_iconst (v := 2) hx hb dL_law_881 (by decide) ?_
    refine lv_iadd hx hb dL_law_882 ?_
    refine va_sld hx hb hX hbl hbA hS hv2 dL_law_883 ?_
    refine lv_aload_n hx hb dL_law_884 rfl (lv_at hl 3 rfl) ?_
    refine mr_iG (vx_runSW (As := [.ref (ad 0), .int (xs ((nI (5 * j)) + 1).toNatClampNeg), .int (xs ((nI (5 * j)) + 2).toNatClampNeg), .ref oo]) (rest := []) ⟨hx, hb, hml, hown, htl⟩ (k_L_name l D cyI cyZ cyJ ad oo zb zo zt zm zu zr zl zf go (xs ((nI (5 * j)) + 1).toNatClampNeg) (xs ((nI (5 * j)) + 2).toNatClampNeg) _ _ rfl eX) (vx_cwSW 4 htl gL_law_L_name rfl rfl rfl (by decide +kernel) ⟨Nat.le_of_ble_eq_true rfl, Nat.le_of_ble_eq_true rfl⟩) (poS hG (hz.kept2 hS) hn (hP.sub (ws' := wO cyI cyZ cyJ ad zb zo zt zm zu zr zl zf oo go) [0, 1, 2, 3, 4, 5, 6, 7, 8, 9, 10, 11, 12, 13, 14, 15, 16, 17, 18, 19, 20] rfl) (hD.sub (ws' := wO cyI cyZ cyJ ad zb zo zt zm zu zr zl zf oo go) [0, 1, 2, 3, 4, 5, 6, 7, 8, 9, 10, 11, 12, 13, 14, 15, 16, 17, 18, 19, 20] (by decide) rfl)) rfl rfl hl.1 rfl (lv_room (Nat.le_of_ble_eq_true rfl)) dL_law_885 ⟨by show 32 + j + 0 ≤ 1073; omega, by show 5140 + 6 * j + 0 ≤ 13434; omega⟩) hP hD hS hA [0, 1, 2, 3, 4, 5, 6, 7, 8, 9, 10, 11, 12, 13, 14, 15, 16, 17, 18, 19, 20] [21, 22, 23, 24, 25, 26, 27, 28, 29, 30, 31] [11, 12, 13, 14, 15, 16, 17, 18, 19, 20, 21, 22, 23, 24, 25, 26, 27, 28, 29, 30, 31, 0, 1, 2, 3, 4, 5, 6, 7, 8, 9, 10] rfl rfl (by decide) (by decide) (by decide) (w2 := wA cyI cyZ cyJ ad zb zo zt zm zu zr zl zf oo (vp_updL go (0 : Int32).toNatClampNeg ((f_X2_name zb zo zt zm (xs ((nI (5 * j)) + 1).toNatClampNeg) (xs ((nI (5 * j)) + 2).toNatClampNeg))).toInt64) am mc mw mn me mu mr mz mf mt) rfl (fun H locs hP hD hS => ?_)
    have hP : va_P D vwCl (wA cyI cyZ cyJ ad zb zo zt zm zu zr zl zf oo (vp_updL go (0 : Int32).toNatClampNeg ((f_X2_name zb zo zt zm (xs ((nI (5 * j)) + 1).toNatClampNeg) (xs ((nI (5 * j)) + 2).toNatClampNeg))).toInt64) am mc mw mn me mu mr mz mf mt) H := hP
    have hD : va_D (fun q : Nat => s.heap.size ≤ q) (wA cyI cyZ cyJ ad zb zo zt zm zu zr zl zf oo (vp_updL go (0 : Int32).toNatClampNeg ((f_X2_name zb zo zt zm (xs ((nI (5 * j)) + 1).toNatClampNeg) (xs ((nI (5 * j)) + 2).toNatClampNeg))).toInt64) am mc mw mn me mu mr mz mf mt) := hD
    refine W.widen (k := 32 + j + 1) (n := 5140 + 6 * j + 6) (by omega) (by omega) ?_
    refine lv_istore (lv' := [(5, .int 0), (0, .ref b), (1, .ref (ad 0)), (2, .ref (am 0)), (3, .ref oo), (4, .int (nI (5 * j)))]) hx hb dL_law_888 hl (by decide) rfl (fun ls hl => ?_)
    refine lv_aload_n hx hb dL_law_890 rfl (lv_at hl 3 rfl) ?_
    refine lv_aload_n hx hb dL_law_891 rfl (lv_at hl 1 rfl) ?_
    refine lv_iload hx hb dL_law_892 (lv_at hl 5 rfl) ?_
    refine lv_iconst (v := 1) hx hb dL_law_894 (by decide) ?_
    refine lv_iadd hx hb dL_law_895 ?_
    refine va_sld hx hb hX hbl hbA hS hv1 dL_law_896 ?_
    refine lv_aload_n hx hb dL_law_897 rfl (lv_at hl 1 rfl) ?_
    refine lv_iload hx hb dL_law_898 (lv_at hl 5 rfl) ?_
    refine lv_iconst (v := 2) hx hb dL_law_900 (by decide) ?_
    refine lv_iadd hx hb dL_law_901 ?_
    refine va_sld hx hb hX hbl hbA hS hv2 dL_law_902 ?_
    refine mr_iG (va_runV (As := [.int (xs ((nI (5 * j)) + 1).toNatClampNeg), .int (xs ((nI (5 * j)) + 2).toNatClampNeg)]) (rest := []) ⟨hx, hb, hml, hown, htl⟩ (k_X3_name l D cyI cyZ am mc mw mn me mu mr mz mf mt (xs ((nI (5 * j)) + 1).toNatClampNeg) (xs ((nI (5 * j)) + 2).toNatClampNeg) _ _ rfl) (cwV 2 htl gL_law_X3_name rfl rfl rfl (by decide +kernel) ⟨Nat.le_of_ble_eq_true rfl, Nat.le_of_ble_eq_true rfl⟩) (pmV hG.1 (hP.sub (ws' := wN cyI cyZ am mc mw mn me mu mr mz mf mt) [21, 22, 23, 24, 25, 26, 27, 28, 29, 30, 31] rfl) (hD.sub (ws' := wN cyI cyZ am mc mw mn me mu mr mz mf mt) [21, 22, 23, 24, 25, 26, 27, 28, 29, 30, 31] (by decide) rfl) (ci := 3) rfl rfl rfl) rfl rfl hl.1 rfl (lv_room (Nat.le_of_ble_eq_true rfl)) dL_law_903 ⟨by show 32 + j + 1 + 0 ≤ 1073; omega, by show 5140 + 6 * j + 6 + 0 ≤ 13434; omega⟩) hP hD hS hA [21, 22, 23, 24, 25, 26, 27, 28, 29, 30, 31] [0, 1, 2, 3, 4, 5, 6, 7, 8, 9, 10, 11, 12, 13, 14, 15, 16, 17, 18, 19, 20] [0, 1, 2, 3, 4, 5, 6, 7, 8, 9, 10, 11, 12, 13, 14, 15, 16, 17, 18, 19, 20, 21, 22, 23, 24, 25, 26, 27, 28, 29, 30, 31] rfl rfl (by decide) (by decide) (by decide) (w2 := wA cyI cyZ cyJ ad zb zo zt zm zu zr zl zf oo (vp_updL go (0 : Int32).toNatClampNeg ((f_X2_name zb zo zt zm (xs ((nI (5 * j)) + 1).toNatClampNeg) (xs ((nI (5 * j)) + 2).toNatClampNeg))).toInt64) am mc mw mn me mu mr mz mf (f_X3_name mc mn (xs ((nI (5 * j)) + 1).toNatClampNeg) (xs ((nI (5 * j)) + 2).toNatClampNeg)).2) rfl (fun H locs hP hD hS => ?_)
    have hP : va_P D vwCl (wA cyI cyZ cyJ ad zb zo zt zm zu zr zl zf oo (vp_updL go (0 : Int32).toNatClampNeg ((f_X2_name zb zo zt zm (xs ((nI (5 * j)) + 1).toNatClampNeg) (xs ((nI (5 * j)) + 2).toNatClampNeg))).toInt64) am mc mw mn me mu mr mz mf (f_X3_name mc mn (xs ((nI (5 * j)) + 1).toNatClampNeg) (xs ((nI (5 * j)) + 2).toNatClampNeg)).2) H := hP
    have hD : va_D (fun q : Nat => s.heap.size ≤ q) (wA cyI cyZ cyJ ad zb zo zt zm zu zr zl zf oo (vp_updL go (0 : Int32).toNatClampNeg ((f_X2_name zb zo zt zm (xs ((nI (5 * j)) + 1).toNatClampNeg) (xs ((nI (5 * j)) + 2).toNatClampNeg))).toInt64) am mc mw mn me mu mr mz mf (f_X3_name mc mn (xs ((nI (5 * j)) + 1).toNatClampNeg) (xs ((nI (5 * j)) + 2).toNatClampNeg)).2) := hD
    refine lv_istore (lv' := [(6, .int ((f_X3_name mc mn (xs ((nI (5 * j)) + 1).toNatClampNeg) (xs ((nI (5 * j)) + 2).toNatClampNeg)).1)), (5, .int 0), (0, .ref b), (1, .ref (ad 0)), (2, .ref (am 0)), (3, .ref oo), (4, .int (nI (5 * j)))]) hx hb dL_law_906 hl (by decide) rfl (fun ls hl => ?_)
    refine lv_aload_n hx hb dL_law_908 rfl (lv_at hl 4 rfl) ?_
    refine pr_i (va_runV (As := []) (rest := []) ⟨hx, hb, hml, hown, htl⟩ (k_X3_thrown l D cyI cyZ am mc mw mn me mu mr mz mf ((f_X3_name mc mn (xs ((nI (5 * j)) + 1).toNatClampNeg) (xs ((nI (5 * j)) + 2).toNatClampNeg)).2)) (cwV 0 htl gL_law_X3_thrown rfl rfl rfl (by decide +kernel) ⟨Nat.le_of_ble_eq_true rfl, Nat.le_of_ble_eq_true rfl⟩) (prV hG.1 (hP.sub (ws' := wN cyI cyZ am mc mw mn me mu mr mz mf ((f_X3_name mc mn (xs ((nI (5 * j)) + 1).toNatClampNeg) (xs ((nI (5 * j)) + 2).toNatClampNeg)).2)) [21, 22, 23, 24, 25, 26, 27, 28, 29, 30, 31] rfl) (ci := 3) rfl rfl rfl) rfl rfl hl.1 rfl (lv_room (Nat.le_of_ble_eq_true rfl)) dL_law_909 ⟨by show 32 + j + 1 + 0 ≤ 1073; omega, by show 5140 + 6 * j + 6 + 0 ≤ 13434; omega⟩) hS hP (fun H locs hP hS => ?_)
    refine lv_iload hx hb dL_law_912 (lv_at hl 1 rfl) ?_
    refine lv_icmp_eq (tgt := 919) hx hb dL_law_914 (by decide) (fun c9 => ?_) (fun c9 => ?_)
    · refine lv_iload hx hb dL_law_919 (lv_at hl 1 rfl) ?_
      refine lv_if_ne (tgt := 936) hx hb dL_law_921 (by decide) (fun c9 => ?_) (fun c9 => ?_)
      · exact absurd (rfl) c9
      · refine lv_aload_n hx hb dL_law_924 rfl (lv_at hl 5 rfl) ?_
        refine lv_iconst (v := 0) hx hb dL_law_925 (by decide) ?_
        refine va_lald hx hb hG.2 hP 20 0 rfl rfl (vp_in_nI (n := 0) (by decide) (by decide)) dL_law_926 ?_
        refine lv_iload hx hb dL_law_927 (lv_at hl 0 rfl) ?_
        refine lv_i2l (v := ((f_X3_name mc mn (xs ((nI (5 * j)) + 1).toNatClampNeg) (xs ((nI (5 * j)) + 2).toNatClampNeg)).1).toInt64) hx hb dL_law_929 rfl ?_
        refine W.lcmp hx hb dL_law_930 ?_
        refine lv_if_eq (tgt := 936) hx hb dL_law_931 (by decide) (fun c9 => ?_) (fun c9 => ?_)
        · refine lv_goto (tgt := 1475) hx hb dL_law_936 (by decide) ?_
          exact KK zb zo zt zm zu zr zl zf mc mw mn me mu mr mz mf ((f_X3_name mc mn (xs ((nI (5 * j)) + 1).toNatClampNeg) (xs ((nI (5 * j)) + 2).toNatClampNeg)).2) (vp_updL go (0 : Int32).toNatClampNeg ((f_X2_name zb zo zt zm (xs ((nI (5 * j)) + 1).toNatClampNeg) (xs ((nI (5 * j)) + 2).toNatClampNeg))).toInt64) _ _ ls R hP hD hS (lv_sub hl [2, 3, 4, 5, 6] rfl)
        · exact absurd (eC) c9
    · exact absurd (eT) c9
  · rcases x_name (zb := zb) (zo := zo) (zt := zt) (zm := zm) (p1 := (xs ((nI (5 * j)) + 1).toNatClampNeg)) (p2 := (xs ((nI (5 * j)) + 2).toNatClampNeg)) with h9 | h9
    · exact absurd h9 eX0
    · have eX : f_X2_name_x zb zo zt zm (xs ((nI (5 * j)) + 1).toNatClampNeg) (xs ((nI (5 * j)) + 2).toNatClampNeg) = 1 := h9
      have eT9 : f_X3_thrown ((f_X3_name mc mn (xs ((nI (5 * j)) + 1).toNatClampNeg) (xs ((nI (5 * j)) + 2).toNatClampNeg)).2) = 1 := by rw [h9] at eT; exact eT
      refine lv_aload_n hx hb dL_law_871 rfl (lv_at hl 1 rfl) ?_
      refine lv_aload_n hx hb dL_law_872 rfl (lv_at hl 0 rfl) ?_
      refine lv_iload hx hb dL_law_873 (lv_at hl 4 rfl) ?_
      refine lv_iconst (v := 1) hx hb dL_law_875 (by decide) ?_
      refine lv_iadd hx hb dL_law_876 ?_
      refine va_sld hx hb hX hbl hbA hS hv1 dL_law_877 ?_
      refine lv_aload_n hx hb dL_law_878 rfl (lv_at hl 0 rfl) ?_
      refine lv_iload hx hb dL_law_879 (lv_at hl 4 rfl) ?_
      refine lv_iconst (v := 2) hx hb dL_law_881 (by decide) ?_
      refine lv_iadd hx hb dL_law_882 ?_
      refine va_sld hx hb hX hbl hbA hS hv2 dL_law_883 ?_
      refine lv_aload_n hx hb dL_law_884 rfl (lv_at hl 3 rfl) ?_
      refine mr_iG (vx_runSW (As := [.ref (ad 0), .int (xs ((nI (5 * j)) + 1).toNatClampNeg), .int (xs ((nI (5 * j)) + 2).toNatClampNeg), .ref oo]) (rest := []) ⟨hx, hb, hml, hown, htl⟩ (t_L_name_1 l hlt D cyI cyZ cyJ ad oo zb zo zt zm zu zr zl zf go (xs ((nI (5 * j)) + 1).toNatClampNeg) (xs ((nI (5 * j)) + 2).toNatClampNeg) _ _ rfl eX) (vx_cwSW 4 htl gL_law_L_name rfl rfl rfl (by decide +kernel) ⟨Nat.le_of_ble_eq_true rfl, Nat.le_of_ble_eq_true rfl⟩) (poS hG (hz.kept2 hS) hn (hP.sub (ws' := wO cyI cyZ cyJ ad zb zo zt zm zu zr zl zf oo go) [0, 1, 2, 3, 4, 5, 6, 7, 8, 9, 10, 11, 12, 13, 14, 15, 16, 17, 18, 19, 20] rfl) (hD.sub (ws' := wO cyI cyZ cyJ ad zb zo zt zm zu zr zl zf oo go) [0, 1, 2, 3, 4, 5, 6, 7, 8, 9, 10, 11, 12, 13, 14, 15, 16, 17, 18, 19, 20] (by decide) rfl)) rfl rfl hl.1 rfl (lv_room (Nat.le_of_ble_eq_true rfl)) dL_law_885 ⟨by show 32 + j + 1 ≤ 1073; omega, by show 5140 + 6 * j + 6 ≤ 13434; omega⟩) hP hD hS hA [0, 1, 2, 3, 4, 5, 6, 7, 8, 9, 10, 11, 12, 13, 14, 15, 16, 17, 18, 19, 20] [21, 22, 23, 24, 25, 26, 27, 28, 29, 30, 31] [11, 12, 13, 14, 15, 16, 17, 18, 19, 20, 21, 22, 23, 24, 25, 26, 27, 28, 29, 30, 31, 0, 1, 2, 3, 4, 5, 6, 7, 8, 9, 10] rfl rfl (by decide) (by decide) (by decide) (w2 := wA cyI cyZ cyJ ad zb zo zt zm zu zr zl zf oo go am mc mw mn me mu mr mz mf mt) rfl (fun H locs hP hD hS => ?_)
      have hP : va_P D vwCl (wA cyI cyZ cyJ ad zb zo zt zm zu zr zl zf oo go am mc mw mn me mu mr mz mf mt) H := hP
      have hD : va_D (fun q : Nat => s.heap.size ≤ q) (wA cyI cyZ cyJ ad zb zo zt zm zu zr zl zf oo go am mc mw mn me mu mr mz mf mt) := hD
      refine W.widen (k := 32 + j + 1) (n := 5140 + 6 * j + 6) (by omega) (by omega) ?_
      refine lv_istore (lv' := [(5, .int 1), (0, .ref b), (1, .ref (ad 0)), (2, .ref (am 0)), (3, .ref oo), (4, .int (nI (5 * j)))]) hx hb dL_law_888 hl (by decide) rfl (fun ls hl => ?_)
      refine lv_aload_n hx hb dL_law_890 rfl (lv_at hl 3 rfl) ?_
      refine lv_aload_n hx hb dL_law_891 rfl (lv_at hl 1 rfl) ?_
      refine lv_iload hx hb dL_law_892 (lv_at hl 5 rfl) ?_
      refine lv_iconst (v := 1) hx hb dL_law_894 (by decide) ?_
      refine lv_iadd hx hb dL_law_895 ?_
      refine va_sld hx hb hX hbl hbA hS hv1 dL_law_896 ?_
      refine lv_aload_n hx hb dL_law_897 rfl (lv_at hl 1 rfl) ?_
      refine lv_iload hx hb dL_law_898 (lv_at hl 5 rfl) ?_
      refine lv_iconst (v := 2) hx hb dL_law_900 (by decide) ?_
      refine lv_iadd hx hb dL_law_901 ?_
      refine va_sld hx hb hX hbl hbA hS hv2 dL_law_902 ?_
      refine mr_iG (va_runV (As := [.int (xs ((nI (5 * j)) + 1).toNatClampNeg), .int (xs ((nI (5 * j)) + 2).toNatClampNeg)]) (rest := []) ⟨hx, hb, hml, hown, htl⟩ (k_X3_name l D cyI cyZ am mc mw mn me mu mr mz mf mt (xs ((nI (5 * j)) + 1).toNatClampNeg) (xs ((nI (5 * j)) + 2).toNatClampNeg) _ _ rfl) (cwV 2 htl gL_law_X3_name rfl rfl rfl (by decide +kernel) ⟨Nat.le_of_ble_eq_true rfl, Nat.le_of_ble_eq_true rfl⟩) (pmV hG.1 (hP.sub (ws' := wN cyI cyZ am mc mw mn me mu mr mz mf mt) [21, 22, 23, 24, 25, 26, 27, 28, 29, 30, 31] rfl) (hD.sub (ws' := wN cyI cyZ am mc mw mn me mu mr mz mf mt) [21, 22, 23, 24, 25, 26, 27, 28, 29, 30, 31] (by decide) rfl) (ci := 3) rfl rfl rfl) rfl rfl hl.1 rfl (lv_room (Nat.le_of_ble_eq_true rfl)) dL_law_903 ⟨by show 32 + j + 1 + 0 ≤ 1073; omega, by show 5140 + 6 * j + 6 + 0 ≤ 13434; omega⟩) hP hD hS hA [21, 22, 23, 24, 25, 26, 27, 28, 29, 30, 31] [0, 1, 2, 3, 4, 5, 6, 7, 8, 9, 10, 11, 12, 13, 14, 15, 16, 17, 18, 19, 20] [0, 1, 2, 3, 4, 5, 6, 7, 8, 9, 10, 11, 12, 13, 14, 15, 16, 17, 18, 19, 20, 21, 22, 23, 24, 25, 26, 27, 28, 29, 30, 31] rfl rfl (by decide) (by decide) (by decide) (w2 := wA cyI cyZ cyJ ad zb zo zt zm zu zr zl zf oo go am mc mw mn me mu mr mz mf (f_X3_name mc mn (xs ((nI (5 * j)) + 1).toNatClampNeg) (xs ((nI (5 * j)) + 2).toNatClampNeg)).2) rfl (fun H locs hP hD hS => ?_)
      have hP : va_P D vwCl (wA cyI cyZ cyJ ad zb zo zt zm zu zr zl zf oo go am mc mw mn me mu mr mz mf (f_X3_name mc mn (xs ((nI (5 * j)) + 1).toNatClampNeg) (xs ((nI (5 * j)) + 2).toNatClampNeg)).2) H := hP
      have hD : va_D (fun q : Nat => s.heap.size ≤ q) (wA cyI cyZ cyJ ad zb zo zt zm zu zr zl zf oo go am mc mw mn me mu mr mz mf (f_X3_name mc mn (xs ((nI (5 * j)) + 1).toNatClampNeg) (xs ((nI (5 * j)) + 2).toNatClampNeg)).2) := hD
      refine lv_istore (lv' := [(6, .int ((f_X3_name mc mn (xs ((nI (5 * j)) + 1).toNatClampNeg) (xs ((nI (5 * j)) + 2).toNatClampNeg)).1)), (5, .int 1), (0, .ref b), (1, .ref (ad 0)), (2, .ref (am 0)), (3, .ref oo), (4, .int (nI (5 * j)))]) hx hb dL_law_906 hl (by decide) rfl (fun ls hl => ?_)
      refine lv_aload_n hx hb dL_law_908 rfl (lv_at hl 4 rfl) ?_
      refine pr_i (va_runV (As := []) (rest := []) ⟨hx, hb, hml, hown, htl⟩ (k_X3_thrown l D cyI cyZ am mc mw mn me mu mr mz mf ((f_X3_name mc mn (xs ((nI (5 * j)) + 1).toNatClampNeg) (xs ((nI (5 * j)) + 2).toNatClampNeg)).2)) (cwV 0 htl gL_law_X3_thrown rfl rfl rfl (by decide +kernel) ⟨Nat.le_of_ble_eq_true rfl, Nat.le_of_ble_eq_true rfl⟩) (prV hG.1 (hP.sub (ws' := wN cyI cyZ am mc mw mn me mu mr mz mf ((f_X3_name mc mn (xs ((nI (5 * j)) + 1).toNatClampNeg) (xs ((nI (5 * j)) + 2).toNatClampNeg)).2)) [21, 22, 23, 24, 25, 26, 27, 28, 29, 30, 31] rfl) (ci := 3) rfl rfl rfl) rfl rfl hl.1 rfl (lv_room (Nat.le_of_ble_eq_true rfl)) dL_law_909 ⟨by show 32 + j + 1 + 0 ≤ 1073; omega, by show 5140 + 6 * j + 6 + 0 ≤ 13434; omega⟩) hS hP (fun H locs hP hS => ?_)
      refine lv_iload hx hb dL_law_912 (lv_at hl 1 rfl) ?_
      refine lv_icmp_eq (tgt := 919) hx hb dL_law_914 (by decide) (fun c9 => ?_) (fun c9 => ?_)
      · refine lv_iload hx hb dL_law_919 (lv_at hl 1 rfl) ?_
        refine lv_if_ne (tgt := 936) hx hb dL_law_921 (by decide) (fun c9 => ?_) (fun c9 => ?_)
        · refine lv_goto (tgt := 1475) hx hb dL_law_936 (by decide) ?_
          exact KK zb zo zt zm zu zr zl zf mc mw mn me mu mr mz mf ((f_X3_name mc mn (xs ((nI (5 * j)) + 1).toNatClampNeg) (xs ((nI (5 * j)) + 2).toNatClampNeg)).2) go _ _ ls R hP hD hS (lv_sub hl [2, 3, 4, 5, 6] rfl)
        · exact absurd c9 (by decide)
      · exact absurd (eT9) c9
set_option maxHeartbeats 4000000 in
set_option maxRecDepth 100000 in
theorem lw_get {p : Program} {l : Launch} {e : Env} {s : State} {m : MethodId} {below : List Frame} {meth : Method} {c : Code} {b L : Nat} {xs : Nat → Int32} (C0 : lw_At p s m meth c b L xs) (hlt : l.stackTraces = false) {D : va_G} {cyI cyZ cyJ : ClassId} (hG : gL D cyI cyZ cyJ s) (hz : zq s) (hn : zn s) {ad am : Nat → Nat} {oo j : Nat} (hL : L ≤ 2560) (hj : 5 * j + 5 ≤ L) (KK : lwK p l e s m below meth c b D cyI cyZ cyJ ad am oo j) {zb : Tr} {zo : Tr} {zt : Tr} {zm : Tr} {zu : Nat → Int32} {zr : Nat → Int32} {zl : Lr} {zf : Int32} {mc : Nat → Int32} {mw : Nat → Int32} {mn : Nat → Int32} {me : Nat → Int32} {mu : Nat → Int32} {mr : Nat → Int32} {mz : Kr} {mf : Int32} {mt : Int32} {go : Nat → Int64} (R : Rl zb zo zt zm zu zr zl zf mc mw mn me mu mr mz mf) {H : Heap} {locs : List Loc} {ls : Array Slot} (hP : va_P D vwCl (wA cyI cyZ cyJ ad zb zo zt zm zu zr zl zf oo go am mc mw mn me mu mr mz mf mt) H) (hD : va_D (fun q : Nat => s.heap.size ≤ q) (wA cyI cyZ cyJ ad zb zo zt zm zu zr zl zf oo go am mc mw mn me mu mr mz mf mt)) (hS : va_S (fun q : Nat => s.heap.size ≤ q) s.heap H locs) (hl : lv_has ls 7 [(0, .ref b), (1, .ref (ad 0)), (2, .ref (am 0)), (3, .ref oo), (4, .int (nI (5 * j)))]) : W p l e room_1 s m #[Value.ref b] below meth c H locs (32 + j) (5140 + 6 * j) (lw_Z below #[Value.ref b] s) (F0 m 939 ls []) := by
  obtain ⟨hx, hb, hr, hml, hown, hts, hX, hbl, hlocks, hgv⟩ := C0
  have htl : ∀ w ∈ wsL_law, w.before #[Value.ref b] s = true := fun w h => hts w (wsL_law_in w h)
  have hA : ∀ q : Nat, s.heap.size ≤ q → (fun q : Nat => s.heap.size ≤ q) q := fun _ h => h
  have hbA : ¬ (fun q : Nat => s.heap.size ≤ q) b := Nat.not_le.mpr hbl
  have hv1 : vp_in (nI (5 * j) + 1) L := by rw [show (1 : Int32) = nI 1 from rfl, nI_add]; exact vp_in_nI (by omega) (by omega)
  have hv2 : vp_in (nI (5 * j) + 2) L := by rw [show (2 : Int32) = nI 2 from rfl, nI_add]; exact vp_in_nI (by omega) (by omega)
  have hv3 : vp_in (nI (5 * j) + 3) L := by rw [show (3 : Int32) = nI 3 from rfl, nI_add]; exact vp_in_nI (by omega) (by omega)
  have hv4 : vp_in (nI (5 * j) + 4) L := by rw [show (4 : Int32) = nI 4 from rfl, nI_add]; exact vp_in_nI (by omega) (by omega)
  rcases s_get R (xs ((nI (5 * j)) + 1).toNatClampNeg) (xs ((nI (5 * j)) + 2).toNatClampNeg) (xs ((nI (5 * j)) + 3).toNatClampNeg) with ⟨eX, eT, eA⟩ | ⟨eX0, eT⟩
  · have eC : lg_cmp ((vp_updL go (0 : Int32).toNatClampNeg ((f_X2_get zb zo zt zm (xs ((nI (5 * j)) + 1).toNatClampNeg) (xs ((nI (5 * j)) + 2).toNatClampNeg) (xs ((nI (5 * j)) + 3).toNatClampNeg))).toInt64) (0 : Int32).toNatClampNeg) (((f_X3_get mc mw me (xs ((nI (5 * j)) + 1).toNatClampNeg) (xs ((nI (5 * j)) + 2).toNatClampNeg) (xs ((nI (5 * j)) + 3).toNatClampNeg)).1).toInt64) = 0 := by rw [pk_uLs, eA]; exact lg_self _
    refine lv_aload_n hx hb dL_law_939 rfl (lv_at hl 1 rfl) ?_
    refine lv_aload_n hx hb dL_law_940 rfl (lv_at hl 0 rfl) ?_
    refine lv_iload hx hb dL_law_941 (lv_at hl 4 rfl) ?_
    refine lv_iconst (v := 1) hx hb dL_law_943 (by decide) ?_
    refine lv_iadd hx hb dL_law_944 ?_
    refine va_sld hx hb hX hbl hbA hS hv1 dL_law_945 ?_
    refine lv_aload_n hx hb dL_law_946 rfl (lv_at hl 0 rfl) ?_
    refine lv_iload hx hb dL_law_947 (lv_at hl 4 rfl) ?_
    refine lv_iconst (v := 2) hx hb dL_law_949 (by decide) ?_
    refine lv_iadd hx hb dL_law_950 ?_
    refine va_sld hx hb hX hbl hbA hS hv2 dL_law_951 ?_
    refine lv_aload_n hx hb dL_law_952 rfl (lv_at hl 0 rfl) ?_
    refine lv_iload hx hb dL_law_953 (lv_at hl 4 rfl) ?_
    refine lv_iconst (v := 3) hx hb dL_law_955 (by decide) ?_
    refine lv_iadd hx hb dL_law_956 ?_
    refine va_sld hx hb hX hbl hbA hS hv3 dL_law_957 ?_
    refine lv_aload_n hx hb dL_law_958 rfl (lv_at hl 3 rfl) ?_
    refine mr_iG (vx_runSW (As := [.ref (ad 0), .int (xs ((nI (5 * j)) + 1).toNatClampNeg), .int (xs ((nI (5 * j)) + 2).toNatClampNeg), .int (xs ((nI (5 * j)) + 3).toNatClampNeg), .ref oo]) (rest := []) ⟨hx, hb, hml, hown, htl⟩ (k_L_get l D cyI cyZ cyJ ad oo zb zo zt zm zu zr zl zf go (xs ((nI (5 * j)) + 1).toNatClampNeg) (xs ((nI (5 * j)) + 2).toNatClampNeg) (xs ((nI (5 * j)) + 3).toNatClampNeg) _ _ rfl eX) (vx_cwSW 5 htl gL_law_L_get rfl rfl rfl (by decide +kernel) ⟨Nat.le_of_ble_eq_true rfl, Nat.le_of_ble_eq_true rfl⟩) (poS hG (hz.kept2 hS) hn (hP.sub (ws' := wO cyI cyZ cyJ ad zb zo zt zm zu zr zl zf oo go) [0, 1, 2, 3, 4, 5, 6, 7, 8, 9, 10, 11, 12, 13, 14, 15, 16, 17, 18, 19, 20] rfl) (hD.sub (ws' := wO cyI cyZ cyJ ad zb zo zt zm zu zr zl zf oo go) [0, 1, 2, 3, 4, 5, 6, 7, 8, 9, 10, 11, 12, 13, 14, 15, 16, 17, 18, 19, 20] (by decide) rfl)) rfl rfl hl.1 rfl (lv_room (Nat.le_of_ble_eq_true rfl)) dL_law_959 ⟨by show 32 + j + 0 ≤ 1073; omega, by show 5140 + 6 * j + 0 ≤ 13434; omega⟩) hP hD hS hA [0, 1, 2, 3, 4, 5, 6, 7, 8, 9, 10, 11, 12, 13, 14, 15, 16, 17, 18, 19, 20] [21, 22, 23, 24, 25, 26, 27, 28, 29, 30, 31] [11, 12, 13, 14, 15, 16, 17, 18, 19, 20, 21, 22, 23, 24, 25, 26, 27, 28, 29, 30, 31, 0, 1, 2, 3, 4, 5, 6, 7, 8, 9, 10] rfl rfl (by decide) (by decide) (by decide) (w2 := wA cyI cyZ cyJ ad zb zo zt zm zu zr zl zf oo (vp_updL go (0 : Int32).toNatClampNeg ((f_X2_get zb zo zt zm (xs ((nI (5 * j)) + 1).toNatClampNeg) (xs ((nI (5 * j)) + 2).toNatClampNeg) (xs ((nI (5 * j)) + 3).toNatClampNeg))).toInt64) am mc mw mn me mu mr mz mf mt) rfl (fun H locs hP hD hS => ?_)
    have hP : va_P D vwCl (wA cyI cyZ cyJ ad zb zo zt zm zu zr zl zf oo (vp_updL go (0 : Int32).toNatClampNeg ((f_X2_get zb zo zt zm (xs ((nI (5 * j)) + 1).toNatClampNeg) (xs ((nI (5 * j)) + 2).toNatClampNeg) (xs ((nI (5 * j)) + 3).toNatClampNeg))).toInt64) am mc mw mn me mu mr mz mf mt) H := hP
    have hD : va_D (fun q : Nat => s.heap.size ≤ q) (wA cyI cyZ cyJ ad zb zo zt zm zu zr zl zf oo (vp_updL go (0 : Int32).toNatClampNeg ((f_X2_get zb zo zt zm (xs ((nI (5 * j)) + 1).toNatClampNeg) (xs ((nI (5 * j)) + 2).toNatClampNeg) (xs ((nI (5 * j)) + 3).toNatClampNeg))).toInt64) am mc mw mn me mu mr mz mf mt) := hD
    refine W.widen (k := 32 + j + 1) (n := 5140 + 6 * j + 6) (by omega) (by omega) ?_
    refine lv_istore (lv' := [(5, .int 0), (0, .ref b), (1, .ref (ad 0)), (2, .ref (am 0)), (3, .ref oo), (4, .int (nI (5 * j)))]) hx hb dL_law_962 hl (by decide) rfl (fun ls hl => ?_)
    refine lv_aload_n hx hb dL_law_964 rfl (lv_at hl 3 rfl) ?_
    refine lv_aload_n hx hb dL_law_965 rfl (lv_at hl 1 rfl) ?_
    refine lv_iload hx hb dL_law_966 (lv_at hl 5 rfl) ?_
    refine lv_iconst (v := 1) hx hb dL_law_968 (by decide) ?_
    refine lv_iadd hx hb dL_law_969 ?_
    refine va_sld hx hb hX hbl hbA hS hv1 dL_law_970 ?_
    refine lv_aload_n hx hb dL_law_971 rfl (lv_at hl 1 rfl) ?_
    refine lv_iload hx hb dL_law_972 (lv_at hl 5 rfl) ?_
    refine lv_iconst (v := 2) hx hb dL_law_974 (by decide) ?_
    refine lv_iadd hx hb dL_law_975 ?_
    refine va_sld hx hb hX hbl hbA hS hv2 dL_law_976 ?_
    refine lv_aload_n hx hb dL_law_977 rfl (lv_at hl 1 rfl) ?_
    refine lv_iload hx hb dL_law_978 (lv_at hl 5 rfl) ?_
    refine lv_iconst (v := 3) hx hb dL_law_980 (by decide) ?_
    refine lv_iadd hx hb dL_law_981 ?_
    refine va_sld hx hb hX hbl hbA hS hv3 dL_law_982 ?_
    refine mr_iG (va_runV (As := [.int (xs ((nI (5 * j)) + 1).toNatClampNeg), .int (xs ((nI (5 * j)) + 2).toNatClampNeg), .int (xs ((nI (5 * j)) + 3).toNatClampNeg)]) (rest := []) ⟨hx, hb, hml, hown, htl⟩ (k_X3_get l D cyI cyZ am mc mw mn me mu mr mz mf mt (xs ((nI (5 * j)) + 1).toNatClampNeg) (xs ((nI (5 * j)) + 2).toNatClampNeg) (xs ((nI (5 * j)) + 3).toNatClampNeg) _ _ rfl) (cwV 3 htl gL_law_X3_get rfl rfl rfl (by decide +kernel) ⟨Nat.le_of_ble_eq_true rfl, Nat.le_of_ble_eq_true rfl⟩) (pmV hG.1 (hP.sub (ws' := wN cyI cyZ am mc mw mn me mu mr mz mf mt) [21, 22, 23, 24, 25, 26, 27, 28, 29, 30, 31] rfl) (hD.sub (ws' := wN cyI cyZ am mc mw mn me mu mr mz mf mt) [21, 22, 23, 24, 25, 26, 27, 28, 29, 30, 31] (by decide) rfl) (ci := 3) rfl rfl rfl) rfl rfl hl.1 rfl (lv_room (Nat.le_of_ble_eq_true rfl)) dL_law_983 ⟨by show 32 + j + 1 + 0 ≤ 1073; omega, by show 5140 + 6 * j + 6 + 0 ≤ 13434; omega⟩) hP hD hS hA [21, 22, 23, 24, 25, 26, 27, 28, 29, 30, 31] [0, 1, 2, 3, 4, 5, 6, 7, 8, 9, 10, 11, 12, 13, 14, 15, 16, 17, 18, 19, 20] [0, 1, 2, 3, 4, 5, 6, 7, 8, 9, 10, 11, 12, 13, 14, 15, 16, 17, 18, 19, 20, 21, 22, 23, 24, 25, 26, 27, 28, 29, 30, 31] rfl rfl (by decide) (by decide) (by decide) (w2 := wA cyI cyZ cyJ ad zb zo zt zm zu zr zl zf oo (vp_updL go (0 : Int32).toNatClampNeg ((f_X2_get zb zo zt zm (xs ((nI (5 * j)) + 1).toNatClampNeg) (xs ((nI (5 * j)) + 2).toNatClampNeg) (xs ((nI (5 * j)) + 3).toNatClampNeg))).toInt64) am mc mw mn me mu mr mz mf (f_X3_get mc mw me (xs ((nI (5 * j)) + 1).toNatClampNeg) (xs ((nI (5 * j)) + 2).toNatClampNeg) (xs ((nI (5 * j)) + 3).toNatClampNeg)).2) rfl (fun H locs hP hD hS => ?_)
    have hP : va_P D vwCl (wA cyI cyZ cyJ ad zb zo zt zm zu zr zl zf oo (vp_updL go (0 : Int32).toNatClampNeg ((f_X2_get zb zo zt zm (xs ((nI (5 * j)) + 1).toNatClampNeg) (xs ((nI (5 * j)) + 2).toNatClampNeg) (xs ((nI (5 * j)) + 3).toNatClampNeg))).toInt64) am mc mw mn me mu mr mz mf (f_X3_get mc mw me (xs ((nI (5 * j)) + 1).toNatClampNeg) (xs ((nI (5 * j)) + 2).toNatClampNeg) (xs ((nI (5 * j)) + 3).toNatClampNeg)).2) H := hP
    have hD : va_D (fun q : Nat => s.heap.size ≤ q) (wA cyI cyZ cyJ ad zb zo zt zm zu zr zl zf oo (vp_updL go (0 : Int32).toNatClampNeg ((f_X2_get zb zo zt zm (xs ((nI (5 * j)) + 1).toNatClampNeg) (xs ((nI (5 * j)) + 2).toNatClampNeg) (xs ((nI (5 * j)) + 3).toNatClampNeg))).toInt64) am mc mw mn me mu mr mz mf (f_X3_get mc mw me (xs ((nI (5 * j)) + 1).toNatClampNeg) (xs ((nI (5 * j)) + 2).toNatClampNeg) (xs ((nI (5 * j)) + 3).toNatClampNeg)).2) := hD
    refine lv_istore (lv' := [(6, .int ((f_X3_get mc mw me (xs ((nI (5 * j)) + 1).toNatClampNeg) (xs ((nI (5 * j)) + 2).toNatClampNeg) (xs ((nI (5 * j)) + 3).toNatClampNeg)).1)), (5, .int 0), (0, .ref b), (1, .ref (ad 0)), (2, .ref (am 0)), (3, .ref oo), (4, .int (nI (5 * j)))]) hx hb dL_law_986 hl (by decide) rfl (fun ls hl => ?_)
    refine lv_aload_n hx hb dL_law_988 rfl (lv_at hl 4 rfl) ?_
    refine pr_i (va_runV (As := []) (rest := []) ⟨hx, hb, hml, hown, htl⟩ (k_X3_thrown l D cyI cyZ am mc mw mn me mu mr mz mf ((f_X3_get mc mw me (xs ((nI (5 * j)) + 1).toNatClampNeg) (xs ((nI (5 * j)) + 2).toNatClampNeg) (xs ((nI (5 * j)) + 3).toNatClampNeg)).2)) (cwV 0 htl gL_law_X3_thrown rfl rfl rfl (by decide +kernel) ⟨Nat.le_of_ble_eq_true rfl, Nat.le_of_ble_eq_true rfl⟩) (prV hG.1 (hP.sub (ws' := wN cyI cyZ am mc mw mn me mu mr mz mf ((f_X3_get mc mw me (xs ((nI (5 * j)) + 1).toNatClampNeg) (xs ((nI (5 * j)) + 2).toNatClampNeg) (xs ((nI (5 * j)) + 3).toNatClampNeg)).2)) [21, 22, 23, 24, 25, 26, 27, 28, 29, 30, 31] rfl) (ci := 3) rfl rfl rfl) rfl rfl hl.1 rfl (lv_room (Nat.le_of_ble_eq_true rfl)) dL_law_989 ⟨by show 32 + j + 1 + 0 ≤ 1073; omega, by show 5140 + 6 * j + 6 + 0 ≤ 13434; omega⟩) hS hP (fun H locs hP hS => ?_)
    refine lv_iload hx hb dL_law_992 (lv_at hl 1 rfl) ?_
    refine lv_icmp_eq (tgt := 999) hx hb dL_law_994 (by decide) (fun c9 => ?_) (fun c9 => ?_)
    · refine lv_iload hx hb dL_law_999 (lv_at hl 1 rfl) ?_
      refine lv_if_ne (tgt := 1016) hx hb dL_law_1001 (by decide) (fun c9 => ?_) (fun c9 => ?_)
      · exact absurd (rfl) c9
      · refine lv_aload_n hx hb dL_law_1004 rfl (lv_at hl 5 rfl) ?_
        refine lv_iconst (v := 0) hx hb dL_law_1005 (by decide) ?_
        refine va_lald hx hb hG.2 hP 20 0 rfl rfl (vp_in_nI (n := 0) (by decide) (by decide)) dL_law_1006 ?_
        refine lv_iload hx hb dL_law_1007 (lv_at hl 0 rfl) ?_
        refine lv_i2l (v := ((f_X3_get mc mw me (xs ((nI (5 * j)) + 1).toNatClampNeg) (xs ((nI (5 * j)) + 2).toNatClampNeg) (xs ((nI (5 * j)) + 3).toNatClampNeg)).1).toInt64) hx hb dL_law_1009 rfl ?_
        refine W.lcmp hx hb dL_law_1010 ?_
        refine lv_if_eq (tgt := 1016) hx hb dL_law_1011 (by decide) (fun c9 => ?_) (fun c9 => ?_)
        · refine lv_goto (tgt := 1475) hx hb dL_law_1016 (by decide) ?_
          exact KK zb zo zt zm zu zr zl zf mc mw mn me mu mr mz mf ((f_X3_get mc mw me (xs ((nI (5 * j)) + 1).toNatClampNeg) (xs ((nI (5 * j)) + 2).toNatClampNeg) (xs ((nI (5 * j)) + 3).toNatClampNeg)).2) (vp_updL go (0 : Int32).toNatClampNeg ((f_X2_get zb zo zt zm (xs ((nI (5 * j)) + 1).toNatClampNeg) (xs ((nI (5 * j)) + 2).toNatClampNeg) (xs ((nI (5 * j)) + 3).toNatClampNeg))).toInt64) _ _ ls R hP hD hS (lv_sub hl [2, 3, 4, 5, 6] rfl)
        · exact absurd (eC) c9
    · exact absurd (eT) c9
  · rcases x_get (zb := zb) (zo := zo) (zt := zt) (zm := zm) (p1 := (xs ((nI (5 * j)) + 1).toNatClampNeg)) (p2 := (xs ((nI (5 * j)) + 2).toNatClampNeg)) (p3 := (xs ((nI (5 * j)) + 3).toNatClampNeg)) with h9 | h9
    · exact absurd h9 eX0
    · have eX : f_X2_get_x zb zo zt zm (xs ((nI (5 * j)) + 1).toNatClampNeg) (xs ((nI (5 * j)) + 2).toNatClampNeg) (xs ((nI (5 * j)) + 3).toNatClampNeg) = 1 := h9
      have eT9 : f_X3_thrown ((f_X3_get mc mw me (xs ((nI (5 * j)) + 1).toNatClampNeg) (xs ((nI (5 * j)) + 2).toNatClampNeg) (xs ((nI (5 * j)) + 3).toNatClampNeg)).2) = 1 := by rw [h9] at eT; exact eT
      refine lv_aload_n hx hb dL_law_939 rfl (lv_at hl 1 rfl) ?_
      refine lv_aload_n hx hb dL_law_940 rfl (lv_at hl 0 rfl) ?_
      refine lv_iload hx hb dL_law_941 (lv_at hl 4 rfl) ?_
      refine lv_iconst (v := 1) hx hb dL_law_943 (by decide) ?_
      refine lv_iadd hx hb dL_law_944 ?_
      refine va_sld hx hb hX hbl hbA hS hv1 dL_law_945 ?_
      refine lv_aload_n hx hb dL_law_946 rfl (lv_at hl 0 rfl) ?_
      refine lv_iload hx hb dL_law_947 (lv_at hl 4 rfl) ?_
      refine lv_iconst (v := 2) hx hb dL_law_949 (by decide) ?_
      refine lv_iadd hx hb dL_law_950 ?_
      refine va_sld hx hb hX hbl hbA hS hv2 dL_law_951 ?_
      refine lv_aload_n hx hb dL_law_952 rfl (lv_at hl 0 rfl) ?_
      refine lv_iload hx hb dL_law_953 (lv_at hl 4 rfl) ?_
      refine lv_iconst (v := 3) hx hb dL_law_955 (by decide) ?_
      refine lv_iadd hx hb dL_law_956 ?_
      refine va_sld hx hb hX hbl hbA hS hv3 dL_law_957 ?_
      refine lv_aload_n hx hb dL_law_958 rfl (lv_at hl 3 rfl) ?_
      refine mr_iG (vx_runSW (As := [.ref (ad 0), .int (xs ((nI (5 * j)) + 1).toNatClampNeg), .int (xs ((nI (5 * j)) + 2).toNatClampNeg), .int (xs ((nI (5 * j)) + 3).toNatClampNeg), .ref oo]) (rest := []) ⟨hx, hb, hml, hown, htl⟩ (t_L_get_1 l hlt D cyI cyZ cyJ ad oo zb zo zt zm zu zr zl zf go (xs ((nI (5 * j)) + 1).toNatClampNeg) (xs ((nI (5 * j)) + 2).toNatClampNeg) (xs ((nI (5 * j)) + 3).toNatClampNeg) _ _ rfl eX) (vx_cwSW 5 htl gL_law_L_get rfl rfl rfl (by decide +kernel) ⟨Nat.le_of_ble_eq_true rfl, Nat.le_of_ble_eq_true rfl⟩) (poS hG (hz.kept2 hS) hn (hP.sub (ws' := wO cyI cyZ cyJ ad zb zo zt zm zu zr zl zf oo go) [0, 1, 2, 3, 4, 5, 6, 7, 8, 9, 10, 11, 12, 13, 14, 15, 16, 17, 18, 19, 20] rfl) (hD.sub (ws' := wO cyI cyZ cyJ ad zb zo zt zm zu zr zl zf oo go) [0, 1, 2, 3, 4, 5, 6, 7, 8, 9, 10, 11, 12, 13, 14, 15, 16, 17, 18, 19, 20] (by decide) rfl)) rfl rfl hl.1 rfl (lv_room (Nat.le_of_ble_eq_true rfl)) dL_law_959 ⟨by show 32 + j + 1 ≤ 1073; omega, by show 5140 + 6 * j + 6 ≤ 13434; omega⟩) hP hD hS hA [0, 1, 2, 3, 4, 5, 6, 7, 8, 9, 10, 11, 12, 13, 14, 15, 16, 17, 18, 19, 20] [21, 22, 23, 24, 25, 26, 27, 28, 29, 30, 31] [11, 12, 13, 14, 15, 16, 17, 18, 19, 20, 21, 22, 23, 24, 25, 26, 27, 28, 29, 30, 31, 0, 1, 2, 3, 4, 5, 6, 7, 8, 9, 10] rfl rfl (by decide) (by decide) (by decide) (w2 := wA cyI cyZ cyJ ad zb zo zt zm zu zr zl zf oo go am mc mw mn me mu mr mz mf mt) rfl (fun H locs hP hD hS => ?_)
      have hP : va_P D vwCl (wA cyI cyZ cyJ ad zb zo zt zm zu zr zl zf oo go am mc mw mn me mu mr mz mf mt) H := hP
      have hD : va_D (fun q : Nat => s.heap.size ≤ q) (wA cyI cyZ cyJ ad zb zo zt zm zu zr zl zf oo go am mc mw mn me mu mr mz mf mt) := hD
      refine W.widen (k := 32 + j + 1) (n := 5140 + 6 * j + 6) (by omega) (by omega) ?_
      refine lv_istore (lv' := [(5, .int 1), (0, .ref b), (1, .ref (ad 0)), (2, .ref (am 0)), (3, .ref oo), (4, .int (nI (5 * j)))]) hx hb dL_law_962 hl (by decide) rfl (fun ls hl => ?_)
      refine lv_aload_n hx hb dL_law_964 rfl (lv_at hl 3 rfl) ?_
      refine lv_aload_n hx hb dL_law_965 rfl (lv_at hl 1 rfl) ?_
      refine lv_iload hx hb dL_law_966 (lv_at hl 5 rfl) ?_
      refine lv_iconst (v := 1) hx hb dL_law_968 (by decide) ?_
      refine lv_iadd hx hb dL_law_969 ?_
      refine va_sld hx hb hX hbl hbA hS hv1 dL_law_970 ?_
      refine lv_aload_n hx hb dL_law_971 rfl (lv_at hl 1 rfl) ?_
      refine lv_iload hx hb dL_law_972 (lv_at hl 5 rfl) ?_
      refine lv_iconst (v := 2) hx hb dL_law_974 (by decide) ?_
      refine lv_iadd hx hb dL_law_975 ?_
      refine va_sld hx hb hX hbl hbA hS hv2 dL_law_976 ?_
      refine lv_aload_n hx hb dL_law_977 rfl (lv_at hl 1 rfl) ?_
      refine lv_iload hx hb dL_law_978 (lv_at hl 5 rfl) ?_
      refine lv_iconst (v := 3) hx hb dL_law_980 (by decide) ?_
      refine lv_iadd hx hb dL_law_981 ?_
      refine va_sld hx hb hX hbl hbA hS hv3 dL_law_982 ?_
      refine mr_iG (va_runV (As := [.int (xs ((nI (5 * j)) + 1).toNatClampNeg), .int (xs ((nI (5 * j)) + 2).toNatClampNeg), .int (xs ((nI (5 * j)) + 3).toNatClampNeg)]) (rest := []) ⟨hx, hb, hml, hown, htl⟩ (k_X3_get l D cyI cyZ am mc mw mn me mu mr mz mf mt (xs ((nI (5 * j)) + 1).toNatClampNeg) (xs ((nI (5 * j)) + 2).toNatClampNeg) (xs ((nI (5 * j)) + 3).toNatClampNeg) _ _ rfl) (cwV 3 htl gL_law_X3_get rfl rfl rfl (by decide +kernel) ⟨Nat.le_of_ble_eq_true rfl, Nat.le_of_ble_eq_true rfl⟩) (pmV hG.1 (hP.sub (ws' := wN cyI cyZ am mc mw mn me mu mr mz mf mt) [21, 22, 23, 24, 25, 26, 27, 28, 29, 30, 31] rfl) (hD.sub (ws' := wN cyI cyZ am mc mw mn me mu mr mz mf mt) [21, 22, 23, 24, 25, 26, 27, 28, 29, 30, 31] (by decide) rfl) (ci := 3) rfl rfl rfl) rfl rfl hl.1 rfl (lv_room (Nat.le_of_ble_eq_true rfl)) dL_law_983 ⟨by show 32 + j + 1 + 0 ≤ 1073; omega, by show 5140 + 6 * j + 6 + 0 ≤ 13434; omega⟩) hP hD hS hA [21, 22, 23, 24, 25, 26, 27, 28, 29, 30, 31] [0, 1, 2, 3, 4, 5, 6, 7, 8, 9, 10, 11, 12, 13, 14, 15, 16, 17, 18, 19, 20] [0, 1, 2, 3, 4, 5, 6, 7, 8, 9, 10, 11, 12, 13, 14, 15, 16, 17, 18, 19, 20, 21, 22, 23, 24, 25, 26, 27, 28, 29, 30, 31] rfl rfl (by decide) (by decide) (by decide) (w2 := wA cyI cyZ cyJ ad zb zo zt zm zu zr zl zf oo go am mc mw mn me mu mr mz mf (f_X3_get mc mw me (xs ((nI (5 * j)) + 1).toNatClampNeg) (xs ((nI (5 * j)) + 2).toNatClampNeg) (xs ((nI (5 * j)) + 3).toNatClampNeg)).2) rfl (fun H locs hP hD hS => ?_)
      have hP : va_P D vwCl (wA cyI cyZ cyJ ad zb zo zt zm zu zr zl zf oo go am mc mw mn me mu mr mz mf (f_X3_get mc mw me (xs ((nI (5 * j)) + 1).toNatClampNeg) (xs ((nI (5 * j)) + 2).toNatClampNeg) (xs ((nI (5 * j)) + 3).toNatClampNeg)).2) H := hP
      have hD : va_D (fun q : Nat => s.heap.size ≤ q) (wA cyI cyZ cyJ ad zb zo zt zm zu zr zl zf oo go am mc mw mn me mu mr mz mf (f_X3_get mc mw me (xs ((nI (5 * j)) + 1).toNatClampNeg) (xs ((nI (5 * j)) + 2).toNatClampNeg) (xs ((nI (5 * j)) + 3).toNatClampNeg)).2) := hD
      refine lv_istore (lv' := [(6, .int ((f_X3_get mc mw me (xs ((nI (5 * j)) + 1).toNatClampNeg) (xs ((nI (5 * j)) + 2).toNatClampNeg) (xs ((nI (5 * j)) + 3).toNatClampNeg)).1)), (5, .int 1), (0, .ref b), (1, .ref (ad 0)), (2, .ref (am 0)), (3, .ref oo), (4, .int (nI (5 * j)))]) hx hb dL_law_986 hl (by decide) rfl (fun ls hl => ?_)
      refine lv_aload_n hx hb dL_law_988 rfl (lv_at hl 4 rfl) ?_
      refine pr_i (va_runV (As := []) (rest := []) ⟨hx, hb, hml, hown, htl⟩ (k_X3_thrown l D cyI cyZ am mc mw mn me mu mr mz mf ((f_X3_get mc mw me (xs ((nI (5 * j)) + 1).toNatClampNeg) (xs ((nI (5 * j)) + 2).toNatClampNeg) (xs ((nI (5 * j)) + 3).toNatClampNeg)).2)) (cwV 0 htl gL_law_X3_thrown rfl rfl rfl (by decide +kernel) ⟨Nat.le_of_ble_eq_true rfl, Nat.le_of_ble_eq_true rfl⟩) (prV hG.1 (hP.sub (ws' := wN cyI cyZ am mc mw mn me mu mr mz mf ((f_X3_get mc mw me (xs ((nI (5 * j)) + 1).toNatClampNeg) (xs ((nI (5 * j)) + 2).toNatClampNeg) (xs ((nI (5 * j)) + 3).toNatClampNeg)).2)) [21, 22, 23, 24, 25, 26, 27, 28, 29, 30, 31] rfl) (ci := 3) rfl rfl rfl) rfl rfl hl.1 rfl (lv_room (Nat.le_of_ble_eq_true rfl)) dL_law_989 ⟨by show 32 + j + 1 + 0 ≤ 1073; omega, by show 5140 + 6 * j + 6 + 0 ≤ 13434; omega⟩) hS hP (fun H locs hP hS => ?_)
      refine lv_iload hx hb dL_law_992 (lv_at hl 1 rfl) ?_
      refine lv_icmp_eq (tgt := 999) hx hb dL_law_994 (by decide) (fun c9 => ?_) (fun c9 => ?_)
      · refine lv_iload hx hb dL_law_999 (lv_at hl 1 rfl) ?_
        refine lv_if_ne (tgt := 1016) hx hb dL_law_1001 (by decide) (fun c9 => ?_) (fun c9 => ?_)
        · refine lv_goto (tgt := 1475) hx hb dL_law_1016 (by decide) ?_
          exact KK zb zo zt zm zu zr zl zf mc mw mn me mu mr mz mf ((f_X3_get mc mw me (xs ((nI (5 * j)) + 1).toNatClampNeg) (xs ((nI (5 * j)) + 2).toNatClampNeg) (xs ((nI (5 * j)) + 3).toNatClampNeg)).2) go _ _ ls R hP hD hS (lv_sub hl [2, 3, 4, 5, 6] rfl)
        · exact absurd c9 (by decide)
      · exact absurd (eT9) c9
set_option maxHeartbeats 4000000 in
set_option maxRecDepth 100000 in
theorem lw_changes {p : Program} {l : Launch} {e : Env} {s : State} {m : MethodId} {below : List Frame} {meth : Method} {c : Code} {b L : Nat} {xs : Nat → Int32} (C0 : lw_At p s m meth c b L xs) (hlt : l.stackTraces = false) {D : va_G} {cyI cyZ cyJ : ClassId} (hG : gL D cyI cyZ cyJ s) (hz : zq s) (hn : zn s) {ad am : Nat → Nat} {oo j : Nat} (hL : L ≤ 2560) (hj : 5 * j + 5 ≤ L) (KK : lwK p l e s m below meth c b D cyI cyZ cyJ ad am oo j) {zb : Tr} {zo : Tr} {zt : Tr} {zm : Tr} {zu : Nat → Int32} {zr : Nat → Int32} {zl : Lr} {zf : Int32} {mc : Nat → Int32} {mw : Nat → Int32} {mn : Nat → Int32} {me : Nat → Int32} {mu : Nat → Int32} {mr : Nat → Int32} {mz : Kr} {mf : Int32} {mt : Int32} {go : Nat → Int64} (R : Rl zb zo zt zm zu zr zl zf mc mw mn me mu mr mz mf) {H : Heap} {locs : List Loc} {ls : Array Slot} (hP : va_P D vwCl (wA cyI cyZ cyJ ad zb zo zt zm zu zr zl zf oo go am mc mw mn me mu mr mz mf mt) H) (hD : va_D (fun q : Nat => s.heap.size ≤ q) (wA cyI cyZ cyJ ad zb zo zt zm zu zr zl zf oo go am mc mw mn me mu mr mz mf mt)) (hS : va_S (fun q : Nat => s.heap.size ≤ q) s.heap H locs) (hl : lv_has ls 7 [(0, .ref b), (1, .ref (ad 0)), (2, .ref (am 0)), (3, .ref oo), (4, .int (nI (5 * j)))]) : W p l e room_1 s m #[Value.ref b] below meth c H locs (32 + j) (5140 + 6 * j) (lw_Z below #[Value.ref b] s) (F0 m 1019 ls []) := by
  obtain ⟨hx, hb, hr, hml, hown, hts, hX, hbl, hlocks, hgv⟩ := C0
  have htl : ∀ w ∈ wsL_law, w.before #[Value.ref b] s = true := fun w h => hts w (wsL_law_in w h)
  have hA : ∀ q : Nat, s.heap.size ≤ q → (fun q : Nat => s.heap.size ≤ q) q := fun _ h => h
  have hbA : ¬ (fun q : Nat => s.heap.size ≤ q) b := Nat.not_le.mpr hbl
  have hv1 : vp_in (nI (5 * j) + 1) L := by rw [show (1 : Int32) = nI 1 from rfl, nI_add]; exact vp_in_nI (by omega) (by omega)
  have hv2 : vp_in (nI (5 * j) + 2) L := by rw [show (2 : Int32) = nI 2 from rfl, nI_add]; exact vp_in_nI (by omega) (by omega)
  have hv3 : vp_in (nI (5 * j) + 3) L := by rw [show (3 : Int32) = nI 3 from rfl, nI_add]; exact vp_in_nI (by omega) (by omega)
  have hv4 : vp_in (nI (5 * j) + 4) L := by rw [show (4 : Int32) = nI 4 from rfl, nI_add]; exact vp_in_nI (by omega) (by omega)
  rcases s_changes R (xs ((nI (5 * j)) + 1).toNatClampNeg) with ⟨eX, eT, eA⟩ | ⟨eX0, eT⟩
  · have eC : lg_cmp ((vp_updL go (0 : Int32).toNatClampNeg ((f_X2_changes zb zo zt (xs ((nI (5 * j)) + 1).toNatClampNeg))).toInt64) (0 : Int32).toNatClampNeg) (((f_X3_changes mc mw mn me (xs ((nI (5 * j)) + 1).toNatClampNeg)).1).toInt64) = 0 := by rw [pk_uLs, eA]; exact lg_self _
    refine lv_aload_n hx hb dL_law_1019 rfl (lv_at hl 1 rfl) ?_
    refine lv_aload_n hx hb dL_law_1020 rfl (lv_at hl 0 rfl) ?_
    refine lv_iload hx hb dL_law_1021 (lv_at hl 4 rfl) ?_
    refine lv_iconst (v := 1) hx hb dL_law_1023 (by decide) ?_
    refine lv_iadd hx hb dL_law_1024 ?_
    refine va_sld hx hb hX hbl hbA hS hv1 dL_law_1025 ?_
    refine lv_aload_n hx hb dL_law_1026 rfl (lv_at hl 3 rfl) ?_
    refine mr_iG (vx_runSW (As := [.ref (ad 0), .int (xs ((nI (5 * j)) + 1).toNatClampNeg), .ref oo]) (rest := []) ⟨hx, hb, hml, hown, htl⟩ (k_L_changes l D cyI cyZ cyJ ad oo zb zo zt zm zu zr zl zf go (xs ((nI (5 * j)) + 1).toNatClampNeg) _ _ rfl eX) (vx_cwSW 3 htl gL_law_L_changes rfl rfl rfl (by decide +kernel) ⟨Nat.le_of_ble_eq_true rfl, Nat.le_of_ble_eq_true rfl⟩) (poS hG (hz.kept2 hS) hn (hP.sub (ws' := wO cyI cyZ cyJ ad zb zo zt zm zu zr zl zf oo go) [0, 1, 2, 3, 4, 5, 6, 7, 8, 9, 10, 11, 12, 13, 14, 15, 16, 17, 18, 19, 20] rfl) (hD.sub (ws' := wO cyI cyZ cyJ ad zb zo zt zm zu zr zl zf oo go) [0, 1, 2, 3, 4, 5, 6, 7, 8, 9, 10, 11, 12, 13, 14, 15, 16, 17, 18, 19, 20] (by decide) rfl)) rfl rfl hl.1 rfl (lv_room (Nat.le_of_ble_eq_true rfl)) dL_law_1027 ⟨by show 32 + j + 0 ≤ 1073; omega, by show 5140 + 6 * j + 0 ≤ 13434; omega⟩) hP hD hS hA [0, 1, 2, 3, 4, 5, 6, 7, 8, 9, 10, 11, 12, 13, 14, 15, 16, 17, 18, 19, 20] [21, 22, 23, 24, 25, 26, 27, 28, 29, 30, 31] [11, 12, 13, 14, 15, 16, 17, 18, 19, 20, 21, 22, 23, 24, 25, 26, 27, 28, 29, 30, 31, 0, 1, 2, 3, 4, 5, 6, 7, 8, 9, 10] rfl rfl (by decide) (by decide) (by decide) (w2 := wA cyI cyZ cyJ ad zb zo zt zm zu zr zl zf oo (vp_updL go (0 : Int32).toNatClampNeg ((f_X2_changes zb zo zt (xs ((nI (5 * j)) + 1).toNatClampNeg))).toInt64) am mc mw mn me mu mr mz mf mt) rfl (fun H locs hP hD hS => ?_)
    have hP : va_P D vwCl (wA cyI cyZ cyJ ad zb zo zt zm zu zr zl zf oo (vp_updL go (0 : Int32).toNatClampNeg ((f_X2_changes zb zo zt (xs ((nI (5 * j)) + 1).toNatClampNeg))).toInt64) am mc mw mn me mu mr mz mf mt) H := hP
    have hD : va_D (fun q : Nat => s.heap.size ≤ q) (wA cyI cyZ cyJ ad zb zo zt zm zu zr zl zf oo (vp_updL go (0 : Int32).toNatClampNeg ((f_X2_changes zb zo zt (xs ((nI (5 * j)) + 1).toNatClampNeg))).toInt64) am mc mw mn me mu mr mz mf mt) := hD
    refine W.widen (k := 32 + j + 1) (n := 5140 + 6 * j + 6) (by omega) (by omega) ?_
    refine lv_istore (lv' := [(5, .int 0), (0, .ref b), (1, .ref (ad 0)), (2, .ref (am 0)), (3, .ref oo), (4, .int (nI (5 * j)))]) hx hb dL_law_1030 hl (by decide) rfl (fun ls hl => ?_)
    refine lv_aload_n hx hb dL_law_1032 rfl (lv_at hl 3 rfl) ?_
    refine lv_aload_n hx hb dL_law_1033 rfl (lv_at hl 1 rfl) ?_
    refine lv_iload hx hb dL_law_1034 (lv_at hl 5 rfl) ?_
    refine lv_iconst (v := 1) hx hb dL_law_1036 (by decide) ?_
    refine lv_iadd hx hb dL_law_1037 ?_
    refine va_sld hx hb hX hbl hbA hS hv1 dL_law_1038 ?_
    refine mr_iG (va_runV (As := [.int (xs ((nI (5 * j)) + 1).toNatClampNeg)]) (rest := []) ⟨hx, hb, hml, hown, htl⟩ (k_X3_changes l D cyI cyZ am mc mw mn me mu mr mz mf mt (xs ((nI (5 * j)) + 1).toNatClampNeg) _ _ rfl) (cwV 1 htl gL_law_X3_changes rfl rfl rfl (by decide +kernel) ⟨Nat.le_of_ble_eq_true rfl, Nat.le_of_ble_eq_true rfl⟩) (pmV hG.1 (hP.sub (ws' := wN cyI cyZ am mc mw mn me mu mr mz mf mt) [21, 22, 23, 24, 25, 26, 27, 28, 29, 30, 31] rfl) (hD.sub (ws' := wN cyI cyZ am mc mw mn me mu mr mz mf mt) [21, 22, 23, 24, 25, 26, 27, 28, 29, 30, 31] (by decide) rfl) (ci := 3) rfl rfl rfl) rfl rfl hl.1 rfl (lv_room (Nat.le_of_ble_eq_true rfl)) dL_law_1039 ⟨by show 32 + j + 1 + 0 ≤ 1073; omega, by show 5140 + 6 * j + 6 + 0 ≤ 13434; omega⟩) hP hD hS hA [21, 22, 23, 24, 25, 26, 27, 28, 29, 30, 31] [0, 1, 2, 3, 4, 5, 6, 7, 8, 9, 10, 11, 12, 13, 14, 15, 16, 17, 18, 19, 20] [0, 1, 2, 3, 4, 5, 6, 7, 8, 9, 10, 11, 12, 13, 14, 15, 16, 17, 18, 19, 20, 21, 22, 23, 24, 25, 26, 27, 28, 29, 30, 31] rfl rfl (by decide) (by decide) (by decide) (w2 := wA cyI cyZ cyJ ad zb zo zt zm zu zr zl zf oo (vp_updL go (0 : Int32).toNatClampNeg ((f_X2_changes zb zo zt (xs ((nI (5 * j)) + 1).toNatClampNeg))).toInt64) am mc mw mn me mu mr mz mf (f_X3_changes mc mw mn me (xs ((nI (5 * j)) + 1).toNatClampNeg)).2) rfl (fun H locs hP hD hS => ?_)
    have hP : va_P D vwCl (wA cyI cyZ cyJ ad zb zo zt zm zu zr zl zf oo (vp_updL go (0 : Int32).toNatClampNeg ((f_X2_changes zb zo zt (xs ((nI (5 * j)) + 1).toNatClampNeg))).toInt64) am mc mw mn me mu mr mz mf (f_X3_changes mc mw mn me (xs ((nI (5 * j)) + 1).toNatClampNeg)).2) H := hP
    have hD : va_D (fun q : Nat => s.heap.size ≤ q) (wA cyI cyZ cyJ ad zb zo zt zm zu zr zl zf oo (vp_updL go (0 : Int32).toNatClampNeg ((f_X2_changes zb zo zt (xs ((nI (5 * j)) + 1).toNatClampNeg))).toInt64) am mc mw mn me mu mr mz mf (f_X3_changes mc mw mn me (xs ((nI (5 * j)) + 1).toNatClampNeg)).2) := hD
    refine lv_istore (lv' := [(6, .int ((f_X3_changes mc mw mn me (xs ((nI (5 * j)) + 1).toNatClampNeg)).1)), (5, .int 0), (0, .ref b), (1, .ref (ad 0)), (2, .ref (am 0)), (3, .ref oo), (4, .int (nI (5 * j)))]) hx hb dL_law_1042 hl (by decide) rfl (fun ls hl => ?_)
    refine lv_aload_n hx hb dL_law_1044 rfl (lv_at hl 4 rfl) ?_
    refine pr_i (va_runV (As := []) (rest := []) ⟨hx, hb, hml, hown, htl⟩ (k_X3_thrown l D cyI cyZ am mc mw mn me mu mr mz mf ((f_X3_changes mc mw mn me (xs ((nI (5 * j)) + 1).toNatClampNeg)).2)) (cwV 0 htl gL_law_X3_thrown rfl rfl rfl (by decide +kernel) ⟨Nat.le_of_ble_eq_true rfl, Nat.le_of_ble_eq_true rfl⟩) (prV hG.1 (hP.sub (ws' := wN cyI cyZ am mc mw mn me mu mr mz mf ((f_X3_changes mc mw mn me (xs ((nI (5 * j)) + 1).toNatClampNeg)).2)) [21, 22, 23, 24, 25, 26, 27, 28, 29, 30, 31] rfl) (ci := 3) rfl rfl rfl) rfl rfl hl.1 rfl (lv_room (Nat.le_of_ble_eq_true rfl)) dL_law_1045 ⟨by show 32 + j + 1 + 0 ≤ 1073; omega, by show 5140 + 6 * j + 6 + 0 ≤ 13434; omega⟩) hS hP (fun H locs hP hS => ?_)
    refine lv_iload hx hb dL_law_1048 (lv_at hl 1 rfl) ?_
    refine lv_icmp_eq (tgt := 1055) hx hb dL_law_1050 (by decide) (fun c9 => ?_) (fun c9 => ?_)
    · refine lv_iload hx hb dL_law_1055 (lv_at hl 1 rfl) ?_
      refine lv_if_ne (tgt := 1072) hx hb dL_law_1057 (by decide) (fun c9 => ?_) (fun c9 => ?_)
      · exact absurd (rfl) c9
      · refine lv_aload_n hx hb dL_law_1060 rfl (lv_at hl 5 rfl) ?_
        refine lv_iconst (v := 0) hx hb dL_law_1061 (by decide) ?_
        refine va_lald hx hb hG.2 hP 20 0 rfl rfl (vp_in_nI (n := 0) (by decide) (by decide)) dL_law_1062 ?_
        refine lv_iload hx hb dL_law_1063 (lv_at hl 0 rfl) ?_
        refine lv_i2l (v := ((f_X3_changes mc mw mn me (xs ((nI (5 * j)) + 1).toNatClampNeg)).1).toInt64) hx hb dL_law_1065 rfl ?_
        refine W.lcmp hx hb dL_law_1066 ?_
        refine lv_if_eq (tgt := 1072) hx hb dL_law_1067 (by decide) (fun c9 => ?_) (fun c9 => ?_)
        · refine lv_goto (tgt := 1475) hx hb dL_law_1072 (by decide) ?_
          exact KK zb zo zt zm zu zr zl zf mc mw mn me mu mr mz mf ((f_X3_changes mc mw mn me (xs ((nI (5 * j)) + 1).toNatClampNeg)).2) (vp_updL go (0 : Int32).toNatClampNeg ((f_X2_changes zb zo zt (xs ((nI (5 * j)) + 1).toNatClampNeg))).toInt64) _ _ ls R hP hD hS (lv_sub hl [2, 3, 4, 5, 6] rfl)
        · exact absurd (eC) c9
    · exact absurd (eT) c9
  · rcases x_changes (p1 := (xs ((nI (5 * j)) + 1).toNatClampNeg)) with h9 | h9
    · exact absurd h9 eX0
    · have eX : f_X2_changes_x (xs ((nI (5 * j)) + 1).toNatClampNeg) = 1 := h9
      have eT9 : f_X3_thrown ((f_X3_changes mc mw mn me (xs ((nI (5 * j)) + 1).toNatClampNeg)).2) = 1 := by rw [h9] at eT; exact eT
      refine lv_aload_n hx hb dL_law_1019 rfl (lv_at hl 1 rfl) ?_
      refine lv_aload_n hx hb dL_law_1020 rfl (lv_at hl 0 rfl) ?_
      refine lv_iload hx hb dL_law_1021 (lv_at hl 4 rfl) ?_
      refine lv_iconst (v := 1) hx hb dL_law_1023 (by decide) ?_
      refine lv_iadd hx hb dL_law_1024 ?_
      refine va_sld hx hb hX hbl hbA hS hv1 dL_law_1025 ?_
      refine lv_aload_n hx hb dL_law_1026 rfl (lv_at hl 3 rfl) ?_
      refine mr_iG (vx_runSW (As := [.ref (ad 0), .int (xs ((nI (5 * j)) + 1).toNatClampNeg), .ref oo]) (rest := []) ⟨hx, hb, hml, hown, htl⟩ (t_L_changes_1 l hlt D cyI cyZ cyJ ad oo zb zo zt zm zu zr zl zf go (xs ((nI (5 * j)) + 1).toNatClampNeg) _ _ rfl eX) (vx_cwSW 3 htl gL_law_L_changes rfl rfl rfl (by decide +kernel) ⟨Nat.le_of_ble_eq_true rfl, Nat.le_of_ble_eq_true rfl⟩) (poS hG (hz.kept2 hS) hn (hP.sub (ws' := wO cyI cyZ cyJ ad zb zo zt zm zu zr zl zf oo go) [0, 1, 2, 3, 4, 5, 6, 7, 8, 9, 10, 11, 12, 13, 14, 15, 16, 17, 18, 19, 20] rfl) (hD.sub (ws' := wO cyI cyZ cyJ ad zb zo zt zm zu zr zl zf oo go) [0, 1, 2, 3, 4, 5, 6, 7, 8, 9, 10, 11, 12, 13, 14, 15, 16, 17, 18, 19, 20] (by decide) rfl)) rfl rfl hl.1 rfl (lv_room (Nat.le_of_ble_eq_true rfl)) dL_law_1027 ⟨by show 32 + j + 1 ≤ 1073; omega, by show 5140 + 6 * j + 6 ≤ 13434; omega⟩) hP hD hS hA [0, 1, 2, 3, 4, 5, 6, 7, 8, 9, 10, 11, 12, 13, 14, 15, 16, 17, 18, 19, 20] [21, 22, 23, 24, 25, 26, 27, 28, 29, 30, 31] [11, 12, 13, 14, 15, 16, 17, 18, 19, 20, 21, 22, 23, 24, 25, 26, 27, 28, 29, 30, 31, 0, 1, 2, 3, 4, 5, 6, 7, 8, 9, 10] rfl rfl (by decide) (by decide) (by decide) (w2 := wA cyI cyZ cyJ ad zb zo zt zm zu zr zl zf oo go am mc mw mn me mu mr mz mf mt) rfl (fun H locs hP hD hS => ?_)
      have hP : va_P D vwCl (wA cyI cyZ cyJ ad zb zo zt zm zu zr zl zf oo go am mc mw mn me mu mr mz mf mt) H := hP
      have hD : va_D (fun q : Nat => s.heap.size ≤ q) (wA cyI cyZ cyJ ad zb zo zt zm zu zr zl zf oo go am mc mw mn me mu mr mz mf mt) := hD
      refine W.widen (k := 32 + j + 1) (n := 5140 + 6 * j + 6) (by omega) (by omega) ?_
      refine lv_istore (lv' := [(5, .int 1), (0, .ref b), (1, .ref (ad 0)), (2, .ref (am 0)), (3, .ref oo), (4, .int (nI (5 * j)))]) hx hb dL_law_1030 hl (by decide) rfl (fun ls hl => ?_)
      refine lv_aload_n hx hb dL_law_1032 rfl (lv_at hl 3 rfl) ?_
      refine lv_aload_n hx hb dL_law_1033 rfl (lv_at hl 1 rfl) ?_
      refine lv_iload hx hb dL_law_1034 (lv_at hl 5 rfl) ?_
      refine lv_iconst (v := 1) hx hb dL_law_1036 (by decide) ?_
      refine lv_iadd hx hb dL_law_1037 ?_
      refine va_sld hx hb hX hbl hbA hS hv1 dL_law_1038 ?_
      refine mr_iG (va_runV (As := [.int (xs ((nI (5 * j)) + 1).toNatClampNeg)]) (rest := []) ⟨hx, hb, hml, hown, htl⟩ (k_X3_changes l D cyI cyZ am mc mw mn me mu mr mz mf mt (xs ((nI (5 * j)) + 1).toNatClampNeg) _ _ rfl) (cwV 1 htl gL_law_X3_changes rfl rfl rfl (by decide +kernel) ⟨Nat.le_of_ble_eq_true rfl, Nat.le_of_ble_eq_true rfl⟩) (pmV hG.1 (hP.sub (ws' := wN cyI cyZ am mc mw mn me mu mr mz mf mt) [21, 22, 23, 24, 25, 26, 27, 28, 29, 30, 31] rfl) (hD.sub (ws' := wN cyI cyZ am mc mw mn me mu mr mz mf mt) [21, 22, 23, 24, 25, 26, 27, 28, 29, 30, 31] (by decide) rfl) (ci := 3) rfl rfl rfl) rfl rfl hl.1 rfl (lv_room (Nat.le_of_ble_eq_true rfl)) dL_law_1039 ⟨by show 32 + j + 1 + 0 ≤ 1073; omega, by show 5140 + 6 * j + 6 + 0 ≤ 13434; omega⟩) hP hD hS hA [21, 22, 23, 24, 25, 26, 27, 28, 29, 30, 31] [0, 1, 2, 3, 4, 5, 6, 7, 8, 9, 10, 11, 12, 13, 14, 15, 16, 17, 18, 19, 20] [0, 1, 2, 3, 4, 5, 6, 7, 8, 9, 10, 11, 12, 13, 14, 15, 16, 17, 18, 19, 20, 21, 22, 23, 24, 25, 26, 27, 28, 29, 30, 31] rfl rfl (by decide) (by decide) (by decide) (w2 := wA cyI cyZ cyJ ad zb zo zt zm zu zr zl zf oo go am mc mw mn me mu mr mz mf (f_X3_changes mc mw mn me (xs ((nI (5 * j)) + 1).toNatClampNeg)).2) rfl (fun H locs hP hD hS => ?_)
      have hP : va_P D vwCl (wA cyI cyZ cyJ ad zb zo zt zm zu zr zl zf oo go am mc mw mn me mu mr mz mf (f_X3_changes mc mw mn me (xs ((nI (5 * j)) + 1).toNatClampNeg)).2) H := hP
      have hD : va_D (fun q : Nat => s.heap.size ≤ q) (wA cyI cyZ cyJ ad zb zo zt zm zu zr zl zf oo go am mc mw mn me mu mr mz mf (f_X3_changes mc mw mn me (xs ((nI (5 * j)) + 1).toNatClampNeg)).2) := hD
      refine lv_istore (lv' := [(6, .int ((f_X3_changes mc mw mn me (xs ((nI (5 * j)) + 1).toNatClampNeg)).1)), (5, .int 1), (0, .ref b), (1, .ref (ad 0)), (2, .ref (am 0)), (3, .ref oo), (4, .int (nI (5 * j)))]) hx hb dL_law_1042 hl (by decide) rfl (fun ls hl => ?_)
      refine lv_aload_n hx hb dL_law_1044 rfl (lv_at hl 4 rfl) ?_
      refine pr_i (va_runV (As := []) (rest := []) ⟨hx, hb, hml, hown, htl⟩ (k_X3_thrown l D cyI cyZ am mc mw mn me mu mr mz mf ((f_X3_changes mc mw mn me (xs ((nI (5 * j)) + 1).toNatClampNeg)).2)) (cwV 0 htl gL_law_X3_thrown rfl rfl rfl (by decide +kernel) ⟨Nat.le_of_ble_eq_true rfl, Nat.le_of_ble_eq_true rfl⟩) (prV hG.1 (hP.sub (ws' := wN cyI cyZ am mc mw mn me mu mr mz mf ((f_X3_changes mc mw mn me (xs ((nI (5 * j)) + 1).toNatClampNeg)).2)) [21, 22, 23, 24, 25, 26, 27, 28, 29, 30, 31] rfl) (ci := 3) rfl rfl rfl) rfl rfl hl.1 rfl (lv_room (Nat.le_of_ble_eq_true rfl)) dL_law_1045 ⟨by show 32 + j + 1 + 0 ≤ 1073; omega, by show 5140 + 6 * j + 6 + 0 ≤ 13434; omega⟩) hS hP (fun H locs hP hS => ?_)
      refine lv_iload hx hb dL_law_1048 (lv_at hl 1 rfl) ?_
      refine lv_icmp_eq (tgt := 1055) hx hb dL_law_1050 (by decide) (fun c9 => ?_) (fun c9 => ?_)
      · refine lv_iload hx hb dL_law_1055 (lv_at hl 1 rfl) ?_
        refine lv_if_ne (tgt := 1072) hx hb dL_law_1057 (by decide) (fun c9 => ?_) (fun c9 => ?_)
        · refine lv_goto (tgt := 1475) hx hb dL_law_1072 (by decide) ?_
          exact KK zb zo zt zm zu zr zl zf mc mw mn me mu mr mz mf ((f_X3_changes mc mw mn me (xs ((nI (5 * j)) + 1).toNatClampNeg)).2) go _ _ ls R hP hD hS (lv_sub hl [2, 3, 4, 5, 6] rfl)
        · exact absurd c9 (by decide)
      · exact absurd (eT9) c9
