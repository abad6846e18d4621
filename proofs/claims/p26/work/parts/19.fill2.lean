def f_X2_removeRow (zb : Tr) (zo : Tr) (zt : Tr) (zf : Int32) (p1 : Int32) (p2 : Int32) : Int32 × Tr × Tr × Tr × Int32 := if p1 = 0 then (if (f_X2_requireRowOf_x zb p2) = 0 then ((f_X1_rowCount (f_X1_cutRow zb p2), (f_X1_cutRow zb p2), zo, zt, 0)) else ((0, zb, zo, zt, zf))) else (if p1 = 1 then (if (f_X2_requireRowOf_x zo p2) = 0 then ((f_X1_rowCount (f_X1_cutRow zo p2), zb, (f_X1_cutRow zo p2), zt, 0)) else ((0, zb, zo, zt, zf))) else (if p1 = 2 then (if (f_X2_requireRowOf_x zt p2) = 0 then ((f_X1_rowCount (f_X1_cutRow zt p2), zb, zo, (f_X1_cutRow zt p2), 0)) else ((0, zb, zo, zt, zf))) else ((0, zb, zo, zt, zf))))
theorem uin_X2_removeRow_X2 : ∀ w ∈ wsX20, w ∈ wsX2_removeRow := fun _ h => List.mem_cons_of_mem _ (List.mem_append_left _ (List.mem_append_left _ (List.mem_append_right _ h)))
theorem uin_X2_removeRow_X1 : ∀ w ∈ wsX10, w ∈ wsX2_removeRow := fun _ h => List.mem_cons_of_mem _ (List.mem_append_left _ (List.mem_append_right _ h))
def f_X2_removeRow_x (zb : Tr) (zo : Tr) (zt : Tr) (p1 : Int32) (p2 : Int32) : Nat := if p1 = 0 then (if (f_X2_requireRowOf_x zb p2) = 0 then 0 else (f_X2_requireRowOf_x zb p2)) else (if p1 = 1 then (if (f_X2_requireRowOf_x zo p2) = 0 then 0 else (f_X2_requireRowOf_x zo p2)) else (if p1 = 2 then (if (f_X2_requireRowOf_x zt p2) = 0 then 0 else (f_X2_requireRowOf_x zt p2)) else 1))
theorem xin_X2_removeRow_IO : ∀ w ∈ (vx_atS RX2 224 "java/lang/IndexOutOfBoundsException" ["java/lang/RuntimeException", "java/lang/Exception"]).filter goodWord, w ∈ wsX2_removeRow := fun _ h => List.mem_cons_of_mem _ (List.mem_append_right _ h)
set_option maxHeartbeats 4000000 in
set_option maxRecDepth 100000 in
theorem k_X2_removeRow (l : Launch) (D : va_G) (cyI cyZ : ClassId) (ad : Nat → Nat) (zb : Tr) (zo : Tr) (zt : Tr) (zm : Tr) (zu : Nat → Int32) (zr : Nat → Int32) (zl : Lr) (zf : Int32) (p1 : Int32) (p2 : Int32) (A : Nat → Prop) (sz : Nat) (hAe : A = va_A (wZ cyI cyZ ad zb zo zt zm zu zr zl zf) sz) (hx9 : f_X2_removeRow_x zb zo zt p1 p2 = 0) : Met l yX2_removeRow wsX2_removeRow ({ frames := 4, cells := 0, slots := 0, locals := 88 } : Room) (pcM D cyI cyZ sz [.ref (ad 0), .int p1, .int p2] (wZ cyI cyZ ad zb zo zt zm zu zr zl zf)) (mI D A (wZ cyI cyZ ad (f_X2_removeRow zb zo zt zf p1 p2).2.1 (f_X2_removeRow zb zo zt zf p1 p2).2.2.1 (f_X2_removeRow zb zo zt zf p1 p2).2.2.2.1 zm zu zr zl (f_X2_removeRow zb zo zt zf p1 p2).2.2.2.2) (f_X2_removeRow zb zo zt zf p1 p2).1) 0 0 A := by
  refine Met.ofW (cc := cX2_removeRow) (maxL := 4) (ret := (some .int)) (by decide) rfl ?_
  intro p e s m args below meth c s₁ B hml hv
  obtain ⟨rfl, hsz, hP, hG, hD0⟩ := hv
  have hx := B.exec
  have hb := B.bytes
  have hr := B.returns
  have hts := atoms_spec (ws := wsX2_removeRow) B.pre
  have hown : s.vm.findClass RX2 = some m.cls := findClass_of_methodNamed B.named
  have hlocks := B.notSynchronized
  subst hsz
  have hD : va_D A (wZ cyI cyZ ad zb zo zt zm zu zr zl zf) := by rw [hAe]; exact hD0.self
  have hA : ∀ q : Nat, s.heap.size ≤ q → A q := fun q h => by rw [hAe]; exact Or.inr h
  clear hAe hD0
  have hS : va_S nA s.heap s.heap [] := va_S.rf
  have hl := lv_entry ([.ref (ad 0), .int p1, .int p2]) (n := 4) (Nat.le_of_ble_eq_true rfl)
  rw [lg_entry_eq]
  generalize (lg_sl ([.ref (ad 0), .int p1, .int p2]) ++ List.replicate (4 - (lg_sl ([.ref (ad 0), .int p1, .int p2])).length) Slot.unset).toArray = ls at hl ⊢
  have hl : lv_has ls 4 [(0, .ref (ad 0)), (1, .int p1), (2, .int p2)] := hl
  have hP : va_P D vwCl (wZ cyI cyZ ad zb zo zt zm zu zr zl zf) s.heap := hP
  refine lv_aload_n hx hb dX2_removeRow_0 rfl (lv_at hl 0 rfl) ?_
  refine lv_iload_n hx hb dX2_removeRow_1 rfl (lv_at hl 1 rfl) ?_
  by_cases c_2_0 : p1 = 0
  · refine pr_r (va_runV (As := [.int p1]) (rest := []) ⟨hx, hb, hml, hown, hts⟩ (k_X2_tableToFill_0 l D cyI cyZ ad zb zo zt zm zu zr zl zf p1 c_2_0) (cwV 1 hts gX2_removeRow_X2_tableToFill rfl rfl rfl (by decide +kernel) ⟨Nat.le_of_ble_eq_true rfl, Nat.le_of_ble_eq_true rfl⟩) (prV hG hP (ci := 2) rfl rfl rfl) rfl rfl hl.1 rfl (lv_room (Nat.le_of_ble_eq_true rfl)) dX2_removeRow_2 ⟨Nat.zero_le _, Nat.zero_le _⟩) hS hP (fun H locs hP hS => ?_)
    refine lv_astore_n (lv' := [(3, .ref (ad 1)), (0, .ref (ad 0)), (1, .int p1), (2, .int p2)]) hx hb dX2_removeRow_5 rfl hl (by decide) rfl (fun ls hl => ?_)
    refine lv_aload_n hx hb dX2_removeRow_6 rfl (lv_at hl 0 rfl) ?_
    refine lv_iload_n hx hb dX2_removeRow_7 rfl (lv_at hl 3 rfl) ?_
    by_cases c_8 : (f_X2_requireRowOf_x zb p2) = 0
    · refine pr_v (va_runS (As := [.ref (ad 1), .int p2]) (rest := []) ⟨hx, hb, hml, hown, hts⟩ (k_X2_requireRowOf l D cyI cyZ (ad 1) (ad 2) (ad 3) zb p2 c_8) (va_cwS 2 hts gX2_removeRow_X2_requireRowOf rfl rfl rfl (by decide +kernel) ⟨Nat.le_of_ble_eq_true rfl, Nat.le_of_ble_eq_true rfl⟩) (prS hG (hP.sub (ws' := wT cyI (ad 1) (ad 2) (ad 3) zb) [1, 2, 3] rfl)) rfl rfl hl.1 rfl (lv_room (Nat.le_of_ble_eq_true rfl)) dX2_removeRow_8 ⟨Nat.zero_le _, Nat.zero_le _⟩) hS hP (fun H locs hP hS => ?_)
      refine lv_aload_n hx hb dX2_removeRow_11 rfl (lv_at hl 0 rfl) ?_
      refine lv_iload_n hx hb dX2_removeRow_12 rfl (lv_at hl 3 rfl) ?_
      have hS := sw_n (B := A) hS
      refine mr_v (va_runVN (As := [.int p2]) (rest := []) ⟨hx, hb, hml, hown, hts⟩ (k_X1_cutRow l D cyI cyZ (ad 1) (ad 2) (ad 3) zb p2 _ _ rfl) ⟨va_cnB 1 hts gX2_removeRow_X1_cutRow_n105 rfl rfl rfl (hG.2.1 (RX2, 105, yX1_cutRow, "TableSplice") (List.mem_of_getElem? (i := 24) rfl)) (hts (.initialized RX1) (List.mem_of_getElem? (i := 21) rfl)) (by decide +kernel) ⟨Nat.le_of_ble_eq_true rfl, Nat.le_of_ble_eq_true rfl⟩, hts (.instanceMethod yX1_cutRow) (List.mem_of_getElem? (i := 25) rfl), hts (.selects RX1 yX1_cutRow yX1_cutRow) (List.mem_of_getElem? (i := 26) rfl)⟩ (pmV hG (hP.sub (ws' := wT cyI (ad 1) (ad 2) (ad 3) zb) [1, 2, 3] rfl) (hD.sub (ws' := wT cyI (ad 1) (ad 2) (ad 3) zb) [1, 2, 3] (by decide) rfl) (ci := 1) rfl rfl rfl) rfl rfl hl.1 rfl (lv_room (Nat.le_of_ble_eq_true rfl)) dX2_removeRow_13 ⟨Nat.zero_le _, Nat.zero_le _⟩) hP hD hS hA [1, 2, 3] [0, 4, 5, 6, 7, 8, 9, 10, 11, 12, 13, 14, 15, 16, 17, 18, 19] [0, 17, 18, 19, 1, 2, 3, 4, 5, 6, 7, 8, 9, 10, 11, 12, 13, 14, 15, 16] rfl rfl (by decide) (by decide) (by decide) (w2 := wZ cyI cyZ ad (f_X1_cutRow zb p2) zo zt zm zu zr zl zf) rfl (fun H locs hP hD hS => ?_)
      have hP : va_P D vwCl (wZ cyI cyZ ad (f_X1_cutRow zb p2) zo zt zm zu zr zl zf) H := hP
      have hD : va_D A (wZ cyI cyZ ad (f_X1_cutRow zb p2) zo zt zm zu zr zl zf) := hD
      refine lv_aload_n hx hb dX2_removeRow_16 rfl (lv_at hl 1 rfl) ?_
      refine lv_iconst (v := 0) hx hb dX2_removeRow_17 (by decide) ?_
      refine va_put (D := D) (ci := 2) (v := .int 0) (ty := .boolean) (C := RX2) (T := TX2) (N := 8) hx hb hts uin_X2_removeRow_X2 tyX2 tyX2_ok nmX2 hown hG.1 hP hD hS 0 rfl rfl 7 (by decide) (hts (.fieldLink RX2 40 "TableSplice" "fresh" "Z") (List.mem_of_getElem? (i := 1) rfl)) (fun _ h9 => h9) rfl (by decide +kernel) rfl rfl (Nat.le_of_ble_eq_true rfl) dX2_removeRow_18 (fun H locs hP hD hS => ?_)
      have hP : va_P D vwCl (wZ cyI cyZ ad (f_X1_cutRow zb p2) zo zt zm zu zr zl 0) H := hP
      have hD : va_D A (wZ cyI cyZ ad (f_X1_cutRow zb p2) zo zt zm zu zr zl 0) := hD
      refine lv_aload_n hx hb dX2_removeRow_21 rfl (lv_at hl 0 rfl) ?_
      refine pr_i (va_runVN (As := []) (rest := []) ⟨hx, hb, hml, hown, hts⟩ (k_X1_rowCount l D cyI cyZ (ad 1) (ad 2) (ad 3) (f_X1_cutRow zb p2)) ⟨va_cnB 0 hts gX2_removeRow_X1_rowCount_n99 rfl rfl rfl (hG.2.1 (RX2, 99, yX1_rowCount, "TableSplice") (List.mem_of_getElem? (i := 23) rfl)) (hts (.initialized RX1) (List.mem_of_getElem? (i := 21) rfl)) (by decide +kernel) ⟨Nat.le_of_ble_eq_true rfl, Nat.le_of_ble_eq_true rfl⟩, hts (.instanceMethod yX1_rowCount) (List.mem_of_getElem? (i := 43) rfl), hts (.selects RX1 yX1_rowCount yX1_rowCount) (List.mem_of_getElem? (i := 44) rfl)⟩ (prV hG (hP.sub (ws' := wT cyI (ad 1) (ad 2) (ad 3) (f_X1_cutRow zb p2)) [1, 2, 3] rfl) (ci := 1) rfl rfl rfl) rfl rfl hl.1 rfl (lv_room (Nat.le_of_ble_eq_true rfl)) dX2_removeRow_22 ⟨Nat.zero_le _, Nat.zero_le _⟩) hS hP (fun H locs hP hS => ?_)
      have ef : f_X2_removeRow zb zo zt zf p1 p2 = (f_X1_rowCount (f_X1_cutRow zb p2), (f_X1_cutRow zb p2), zo, zt, 0) := by rw [f_X2_removeRow, if_pos c_2_0, if_pos c_8]
      exact W.iret (v := f_X1_rowCount (f_X1_cutRow zb p2)) hx hb hr (fun t ht hW => ⟨⟨f_X1_rowCount (f_X1_cutRow zb p2), (), rfl, by rw [ef], by rw [ht, ef]; exact hP, by rw [ef]; exact hD⟩, hS.F ht⟩) hS.2.2 dX2_removeRow_25
    · exact absurd hx9 (by rw [f_X2_removeRow_x, if_pos c_2_0, if_neg c_8]; exact c_8)
  · by_cases c_2_1 : p1 = 1
    · refine pr_r (va_runV (As := [.int p1]) (rest := []) ⟨hx, hb, hml, hown, hts⟩ (k_X2_tableToFill_1 l D cyI cyZ ad zb zo zt zm zu zr zl zf p1 c_2_1) (cwV 1 hts gX2_removeRow_X2_tableToFill rfl rfl rfl (by decide +kernel) ⟨Nat.le_of_ble_eq_true rfl, Nat.le_of_ble_eq_true rfl⟩) (prV hG hP (ci := 2) rfl rfl rfl) rfl rfl hl.1 rfl (lv_room (Nat.le_of_ble_eq_true rfl)) dX2_removeRow_2 ⟨Nat.zero_le _, Nat.zero_le _⟩) hS hP (fun H locs hP hS => ?_)
      refine lv_astore_n (lv' := [(3, .ref (ad 4)), (0, .ref (ad 0)), (1, .int p1), (2, .int p2)]) hx hb dX2_removeRow_5 rfl hl (by decide) rfl (fun ls hl => ?_)
      refine lv_aload_n hx hb dX2_removeRow_6 rfl (lv_at hl 0 rfl) ?_
      refine lv_iload_n hx hb dX2_removeRow_7 rfl (lv_at hl 3 rfl) ?_
      by_cases c_8 : (f_X2_requireRowOf_x zo p2) = 0
      · refine pr_v (va_runS (As := [.ref (ad 4), .int p2]) (rest := []) ⟨hx, hb, hml, hown, hts⟩ (k_X2_requireRowOf l D cyI cyZ (ad 4) (ad 5) (ad 6) zo p2 c_8) (va_cwS 2 hts gX2_removeRow_X2_requireRowOf rfl rfl rfl (by decide +kernel) ⟨Nat.le_of_ble_eq_true rfl, Nat.le_of_ble_eq_true rfl⟩) (prS hG (hP.sub (ws' := wT cyI (ad 4) (ad 5) (ad 6) zo) [4, 5, 6] rfl)) rfl rfl hl.1 rfl (lv_room (Nat.le_of_ble_eq_true rfl)) dX2_removeRow_8 ⟨Nat.zero_le _, Nat.zero_le _⟩) hS hP (fun H locs hP hS => ?_)
        refine lv_aload_n hx hb dX2_removeRow_11 rfl (lv_at hl 0 rfl) ?_
        refine lv_iload_n hx hb dX2_removeRow_12 rfl (lv_at hl 3 rfl) ?_
        have hS := sw_n (B := A) hS
        refine mr_v (va_runVN (As := [.int p2]) (rest := []) ⟨hx, hb, hml, hown, hts⟩ (k_X1_cutRow l D cyI cyZ (ad 4) (ad 5) (ad 6) zo p2 _ _ rfl) ⟨va_cnB 1 hts gX2_removeRow_X1_cutRow_n105 rfl rfl rfl (hG.2.1 (RX2, 105, yX1_cutRow, "TableSplice") (List.mem_of_getElem? (i := 24) rfl)) (hts (.initialized RX1) (List.mem_of_getElem? (i := 21) rfl)) (by decide +kernel) ⟨Nat.le_of_ble_eq_true rfl, Nat.le_of_ble_eq_true rfl⟩, hts (.instanceMethod yX1_cutRow) (List.mem_of_getElem? (i := 25) rfl), hts (.selects RX1 yX1_cutRow yX1_cutRow) (List.mem_of_getElem? (i := 26) rfl)⟩ (pmV hG (hP.sub (ws' := wT cyI (ad 4) (ad 5) (ad 6) zo) [4, 5, 6] rfl) (hD.sub (ws' := wT cyI (ad 4) (ad 5) (ad 6) zo) [4, 5, 6] (by decide) rfl) (ci := 1) rfl rfl rfl) rfl rfl hl.1 rfl (lv_room (Nat.le_of_ble_eq_true rfl)) dX2_removeRow_13 ⟨Nat.zero_le _, Nat.zero_le _⟩) hP hD hS hA [4, 5, 6] [0, 1, 2, 3, 7, 8, 9, 10, 11, 12, 13, 14, 15, 16, 17, 18, 19] [0, 1, 2, 3, 17, 18, 19, 4, 5, 6, 7, 8, 9, 10, 11, 12, 13, 14, 15, 16] rfl rfl (by decide) (by decide) (by decide) (w2 := wZ cyI cyZ ad zb (f_X1_cutRow zo p2) zt zm zu zr zl zf) rfl (fun H locs hP hD hS => ?_)
        have hP : va_P D vwCl (wZ cyI cyZ ad zb (f_X1_cutRow zo p2) zt zm zu zr zl zf) H := hP
        have hD : va_D A (wZ cyI cyZ ad zb (f_X1_cutRow zo p2) zt zm zu zr zl zf) := hD
        refine lv_aload_n hx hb dX2_removeRow_16 rfl (lv_at hl 1 rfl) ?_
        refine lv_iconst (v := 0) hx hb dX2_removeRow_17 (by decide) ?_
        refine va_put (D := D) (ci := 2) (v := .int 0) (ty := .boolean) (C := RX2) (T := TX2) (N := 8) hx hb hts uin_X2_removeRow_X2 tyX2 tyX2_ok nmX2 hown hG.1 hP hD hS 0 rfl rfl 7 (by decide) (hts (.fieldLink RX2 40 "TableSplice" "fresh" "Z") (List.mem_of_getElem? (i := 1) rfl)) (fun _ h9 => h9) rfl (by decide +kernel) rfl rfl (Nat.le_of_ble_eq_true rfl) dX2_removeRow_18 (fun H locs hP hD hS => ?_)
        have hP : va_P D vwCl (wZ cyI cyZ ad zb (f_X1_cutRow zo p2) zt zm zu zr zl 0) H := hP
        have hD : va_D A (wZ cyI cyZ ad zb (f_X1_cutRow zo p2) zt zm zu zr zl 0) := hD
        refine lv_aload_n hx hb dX2_removeRow_21 rfl (lv_at hl 0 rfl) ?_
        refine pr_i (va_runVN (As := []) (rest := []) ⟨hx, hb, hml, hown, hts⟩ (k_X1_rowCount l D cyI cyZ (ad 4) (ad 5) (ad 6) (f_X1_cutRow zo p2)) ⟨va_cnB 0 hts gX2_removeRow_X1_rowCount_n99 rfl rfl rfl (hG.2.1 (RX2, 99, yX1_rowCount, "TableSplice") (List.mem_of_getElem? (i := 23) rfl)) (hts (.initialized RX1) (List.mem_of_getElem? (i := 21) rfl)) (by decide +kernel) ⟨Nat.le_of_ble_eq_true rfl, Nat.le_of_ble_eq_true rfl⟩, hts (.instanceMethod yX1_rowCount) (List.mem_of_getElem? (i := 43) rfl), hts (.selects RX1 yX1_rowCount yX1_rowCount) (List.mem_of_getElem? (i := 44) rfl)⟩ (prV hG (hP.sub (ws' := wT cyI (ad 4) (ad 5) (ad 6) (f_X1_cutRow zo p2)) [4, 5, 6] rfl) (ci := 1) rfl rfl rfl) rfl rfl hl.1 rfl (lv_room (Nat.le_of_ble_eq_true rfl)) dX2_removeRow_22 ⟨Nat.zero_le _, Nat.zero_le _⟩) hS hP (fun H locs hP hS => ?_)
        have ef : f_X2_removeRow zb zo zt zf p1 p2 = (f_X1_rowCount (f_X1_cutRow zo p2), zb, (f_X1_cutRow zo p2), zt, 0) := by rw [f_X2_removeRow, if_neg c_2_0, if_pos c_2_1, if_pos c_8]
        exact W.iret (v := f_X1_rowCount (f_X1_cutRow zo p2)) hx hb hr (fun t ht hW => ⟨⟨f_X1_rowCount (f_X1_cutRow zo p2), (), rfl, by rw [ef], by rw [ht, ef]; exact hP, by rw [ef]; exact hD⟩, hS.F ht⟩) hS.2.2 dX2_removeRow_25
      · exact absurd hx9 (by rw [f_X2_removeRow_x, if_neg c_2_0, if_pos c_2_1, if_neg c_8]; exact c_8)
    · by_cases c_2_2 : p1 = 2
      · refine pr_r (va_runV (As := [.int p1]) (rest := []) ⟨hx, hb, hml, hown, hts⟩ (k_X2_tableToFill_2 l D cyI cyZ ad zb zo zt zm zu zr zl zf p1 c_2_2) (cwV 1 hts gX2_removeRow_X2_tableToFill rfl rfl rfl (by decide +kernel) ⟨Nat.le_of_ble_eq_true rfl, Nat.le_of_ble_eq_true rfl⟩) (prV hG hP (ci := 2) rfl rfl rfl) rfl rfl hl.1 rfl (lv_room (Nat.le_of_ble_eq_true rfl)) dX2_removeRow_2 ⟨Nat.zero_le _, Nat.zero_le _⟩) hS hP (fun H locs hP hS => ?_)
        refine lv_astore_n (lv' := [(3, .ref (ad 7)), (0, .ref (ad 0)), (1, .int p1), (2, .int p2)]) hx hb dX2_removeRow_5 rfl hl (by decide) rfl (fun ls hl => ?_)
        refine lv_aload_n hx hb dX2_removeRow_6 rfl (lv_at hl 0 rfl) ?_
        refine lv_iload_n hx hb dX2_removeRow_7 rfl (lv_at hl 3 rfl) ?_
        by_cases c_8 : (f_X2_requireRowOf_x zt p2) = 0
        · refine pr_v (va_runS (As := [.ref (ad 7), .int p2]) (rest := []) ⟨hx, hb, hml, hown, hts⟩ (k_X2_requireRowOf l D cyI cyZ (ad 7) (ad 8) (ad 9) zt p2 c_8) (va_cwS 2 hts gX2_removeRow_X2_requireRowOf rfl rfl rfl (by decide +kernel) ⟨Nat.le_of_ble_eq_true rfl, Nat.le_of_ble_eq_true rfl⟩) (prS hG (hP.sub (ws' := wT cyI (ad 7) (ad 8) (ad 9) zt) [7, 8, 9] rfl)) rfl rfl hl.1 rfl (lv_room (Nat.le_of_ble_eq_true rfl)) dX2_removeRow_8 ⟨Nat.zero_le _, Nat.zero_le _⟩) hS hP (fun H locs hP hS => ?_)
          refine lv_aload_n hx hb dX2_removeRow_11 rfl (lv_at hl 0 rfl) ?_
          refine lv_iload_n hx hb dX2_removeRow_12 rfl (lv_at hl 3 rfl) ?_
          have hS := sw_n (B := A) hS
          refine mr_v (va_runVN (As := [.int p2]) (rest := []) ⟨hx, hb, hml, hown, hts⟩ (k_X1_cutRow l D cyI cyZ (ad 7) (ad 8) (ad 9) zt p2 _ _ rfl) ⟨va_cnB 1 hts gX2_removeRow_X1_cutRow_n105 rfl rfl rfl (hG.2.1 (RX2, 105, yX1_cutRow, "TableSplice") (List.mem_of_getElem? (i := 24) rfl)) (hts (.initialized RX1) (List.mem_of_getElem? (i := 21) rfl)) (by decide +kernel) ⟨Nat.le_of_ble_eq_true rfl, Nat.le_of_ble_eq_true rfl⟩, hts (.instanceMethod yX1_cutRow) (List.mem_of_getElem? (i := 25) rfl), hts (.selects RX1 yX1_cutRow yX1_cutRow) (List.mem_of_getElem? (i := 26) rfl)⟩ (pmV hG (hP.sub (ws' := wT cyI (ad 7) (ad 8) (ad 9) zt) [7, 8, 9] rfl) (hD.sub (ws' := wT cyI (ad 7) (ad 8) (ad 9) zt) [7, 8, 9] (by decide) rfl) (ci := 1) rfl rfl rfl) rfl rfl hl.1 rfl (lv_room (Nat.le_of_ble_eq_true rfl)) dX2_removeRow_13 ⟨Nat.zero_le _, Nat.zero_le _⟩) hP hD hS hA [7, 8, 9] [0, 1, 2, 3, 4, 5, 6, 10, 11, 12, 13, 14, 15, 16, 17, 18, 19] [0, 1, 2, 3, 4, 5, 6, 17, 18, 19, 7, 8, 9, 10, 11, 12, 13, 14, 15, 16] rfl rfl (by decide) (by decide) (by decide) (w2 := wZ cyI cyZ ad zb zo (f_X1_cutRow zt p2) zm zu zr zl zf) rfl (fun H locs hP hD hS => ?_)
          have hP : va_P D vwCl (wZ cyI cyZ ad zb zo (f_X1_cutRow zt p2) zm zu zr zl zf) H := hP
          have hD : va_D A (wZ cyI cyZ ad zb zo (f_X1_cutRow zt p2) zm zu zr zl zf) := hD
          refine lv_aload_n hx hb dX2_removeRow_16 rfl (lv_at hl 1 rfl) ?_
          refine lv_iconst (v := 0) hx hb dX2_removeRow_17 (by decide) ?_
          refine va_put (D := D) (ci := 2) (v := .int 0) (ty := .boolean) (C := RX2) (T := TX2) (N := 8) hx hb hts uin_X2_removeRow_X2 tyX2 tyX2_ok nmX2 hown hG.1 hP hD hS 0 rfl rfl 7 (by decide) (hts (.fieldLink RX2 40 "TableSplice" "fresh" "Z") (List.mem_of_getElem? (i := 1) rfl)) (fun _ h9 => h9) rfl (by decide +kernel) rfl rfl (Nat.le_of_ble_eq_true rfl) dX2_removeRow_18 (fun H locs hP hD hS => ?_)
          have hP : va_P D vwCl (wZ cyI cyZ ad zb zo (f_X1_cutRow zt p2) zm zu zr zl 0) H := hP
          have hD : va_D A (wZ cyI cyZ ad zb zo (f_X1_cutRow zt p2) zm zu zr zl 0) := hD
          refine lv_aload_n hx hb dX2_removeRow_21 rfl (lv_at hl 0 rfl) ?_
          refine pr_i (va_runVN (As := []) (rest := []) ⟨hx, hb, hml, hown, hts⟩ (k_X1_rowCount l D cyI cyZ (ad 7) (ad 8) (ad 9) (f_X1_cutRow zt p2)) ⟨va_cnB 0 hts gX2_removeRow_X1_rowCount_n99 rfl rfl rfl (hG.2.1 (RX2, 99, yX1_rowCount, "TableSplice") (List.mem_of_getElem? (i := 23) rfl)) (hts (.initialized RX1) (List.mem_of_getElem? (i := 21) rfl)) (by decide +kernel) ⟨Nat.le_of_ble_eq_true rfl, Nat.le_of_ble_eq_true rfl⟩, hts (.instanceMethod yX1_rowCount) (List.mem_of_getElem? (i := 43) rfl), hts (.selects RX1 yX1_rowCount yX1_rowCount) (List.mem_of_getElem? (i := 44) rfl)⟩ (prV hG (hP.sub (ws' := wT cyI (ad 7) (ad 8) (ad 9) (f_X1_cutRow zt p2)) [7, 8, 9] rfl) (ci := 1) rfl rfl rfl) rfl rfl hl.1 rfl (lv_room (Nat.le_of_ble_eq_true rfl)) dX2_removeRow_22 ⟨Nat.zero_le _, Nat.zero_le _⟩) hS hP (fun H locs hP hS => ?_)
          have ef : f_X2_removeRow zb zo zt zf p1 p2 = (f_X1_rowCount (f_X1_cutRow zt p2), zb, zo, (f_X1_cutRow zt p2), 0) := by rw [f_X2_removeRow, if_neg c_2_0, if_neg c_2_1, if_pos c_2_2, if_pos c_8]
          exact W.iret (v := f_X1_rowCount (f_X1_cutRow zt p2)) hx hb hr (fun t ht hW => ⟨⟨f_X1_rowCount (f_X1_cutRow zt p2), (), rfl, by rw [ef], by rw [ht, ef]; exact hP, by rw [ef]; exact hD⟩, hS.F ht⟩) hS.2.2 dX2_removeRow_25
        · exact absurd hx9 (by rw [f_X2_removeRow_x, if_neg c_2_0, if_neg c_2_1, if_pos c_2_2, if_neg c_8]; exact c_8)
      · exact absurd hx9 (by rw [f_X2_removeRow_x, if_neg c_2_0, if_neg c_2_1, if_neg c_2_2]; decide)
set_option maxHeartbeats 4000000 in
set_option maxRecDepth 100000 in
theorem t_X2_removeRow (l : Launch) (hlt : l.stackTraces = false) (D : va_G) (cyI cyZ : ClassId) (ad : Nat → Nat) (zb : Tr) (zo : Tr) (zt : Tr) (zm : Tr) (zu : Nat → Int32) (zr : Nat → Int32) (zl : Lr) (zf : Int32) (p1 : Int32) (p2 : Int32) (hx9 : ¬ f_X2_removeRow_x zb zo zt p1 p2 = 0) : vx_Met l yX2_removeRow wsX2_removeRow ({ frames := 8, cells := 1, slots := 6, locals := 142 } : Room) (pcT D cyI cyZ [.ref (ad 0), .int p1, .int p2] (wZ cyI cyZ ad zb zo zt zm zu zr zl zf)) qFi (xX (f_X2_removeRow_x zb zo zt p1 p2)) 1 6 nA := by
  refine vx_ofW (cc := cX2_removeRow) (maxL := 4) (ret := (some .int)) (by decide) rfl ?_
  intro p e s m args below meth c s₁ B hml hnt hv
  obtain ⟨rfl, hP, hG, hz⟩ := hv
  have hx := B.exec
  have hb := B.bytes
  have hr := B.returns
  have hts := atoms_spec (ws := wsX2_removeRow) B.pre
  have hown : s.vm.findClass RX2 = some m.cls := findClass_of_methodNamed B.named
  have hlocks := B.notSynchronized
  have hS : va_S nA s.heap s.heap [] := va_S.rf
  have hl := lv_entry ([.ref (ad 0), .int p1, .int p2]) (n := 4) (Nat.le_of_ble_eq_true rfl)
  rw [lg_entry_eq]
  generalize (lg_sl ([.ref (ad 0), .int p1, .int p2]) ++ List.replicate (4 - (lg_sl ([.ref (ad 0), .int p1, .int p2])).length) Slot.unset).toArray = ls at hl ⊢
  have hl : lv_has ls 4 [(0, .ref (ad 0)), (1, .int p1), (2, .int p2)] := hl
  have hP : va_P D vwCl (wZ cyI cyZ ad zb zo zt zm zu zr zl zf) s.heap := hP
  refine lv_aload_n hx hb dX2_removeRow_0 rfl (lv_at hl 0 rfl) ?_
  refine lv_iload_n hx hb dX2_removeRow_1 rfl (lv_at hl 1 rfl) ?_
  by_cases c_2_0 : p1 = 0
  · refine pr_r (va_runV (As := [.int p1]) (rest := []) ⟨hx, hb, hml, hown, hts⟩ (k_X2_tableToFill_0 l D cyI cyZ ad zb zo zt zm zu zr zl zf p1 c_2_0) (cwV 1 hts gX2_removeRow_X2_tableToFill rfl rfl rfl (by decide +kernel) ⟨Nat.le_of_ble_eq_true rfl, Nat.le_of_ble_eq_true rfl⟩) (prV hG hP (ci := 2) rfl rfl rfl) rfl rfl hl.1 rfl (lv_room (Nat.le_of_ble_eq_true rfl)) dX2_removeRow_2 ⟨Nat.zero_le _, Nat.zero_le _⟩) hS hP (fun H locs hP hS => ?_)
    refine lv_astore_n (lv' := [(3, .ref (ad 1)), (0, .ref (ad 0)), (1, .int p1), (2, .int p2)]) hx hb dX2_removeRow_5 rfl hl (by decide) rfl (fun ls hl => ?_)
    refine lv_aload_n hx hb dX2_removeRow_6 rfl (lv_at hl 0 rfl) ?_
    refine lv_iload_n hx hb dX2_removeRow_7 rfl (lv_at hl 3 rfl) ?_
    by_cases c_8 : (f_X2_requireRowOf_x zb p2) = 0
    · refine pr_v (va_runS (As := [.ref (ad 1), .int p2]) (rest := []) ⟨hx, hb, hml, hown, hts⟩ (k_X2_requireRowOf l D cyI cyZ (ad 1) (ad 2) (ad 3) zb p2 c_8) (va_cwS 2 hts gX2_removeRow_X2_requireRowOf rfl rfl rfl (by decide +kernel) ⟨Nat.le_of_ble_eq_true rfl, Nat.le_of_ble_eq_true rfl⟩) (prS hG (hP.sub (ws' := wT cyI (ad 1) (ad 2) (ad 3) zb) [1, 2, 3] rfl)) rfl rfl hl.1 rfl (lv_room (Nat.le_of_ble_eq_true rfl)) dX2_removeRow_8 ⟨Nat.zero_le _, Nat.zero_le _⟩) hS hP (fun H locs hP hS => ?_)
      refine lv_aload_n hx hb dX2_removeRow_11 rfl (lv_at hl 0 rfl) ?_
      refine lv_iload_n hx hb dX2_removeRow_12 rfl (lv_at hl 3 rfl) ?_
      exact absurd (by rw [f_X2_removeRow_x, if_pos c_2_0, if_pos c_8]) hx9
    · have ef : f_X2_removeRow_x zb zo zt p1 p2 = f_X2_requireRowOf_x zb p2 := by rw [f_X2_removeRow_x, if_pos c_2_0, if_neg c_8]
      exact vx_callv (vx_runS (As := [.ref (ad 1), .int p2]) (rest := []) ⟨hx, hb, hml, hown, hts⟩ (t_X2_requireRowOf l hlt D cyI cyZ (ad 1) (ad 2) (ad 3) zb p2 c_8) (va_cwS 2 hts gX2_removeRow_X2_requireRowOf rfl rfl rfl (by decide +kernel) ⟨Nat.le_of_ble_eq_true rfl, Nat.le_of_ble_eq_true rfl⟩) (ptS hG (hz.kept hS) (hP.sub (ws' := wT cyI (ad 1) (ad 2) (ad 3) zb) [1, 2, 3] rfl)) rfl rfl hl.1 rfl (lv_room (Nat.le_of_ble_eq_true rfl)) dX2_removeRow_8 ⟨Nat.le_of_ble_eq_true rfl, Nat.le_of_ble_eq_true rfl⟩) hS (fun _ _ h => h.elim) (fun _ h => h.elim) (fun _ _ h => h.elim) (fun E ce q9 u t H1 locs1 ht _ _ hE _ _ hS1 hce hcv hcl => vx_out (fun x h => (hnt x h).elim) hlocks hce hcv hcl (fun t9 h9 _ => ⟨(), trivial, hE.trans (congrArg xn ef.symm), hS1.F h9⟩) hS1.2.2 (Nat.le_refl _) (Nat.le_refl _)) (fun u t H1 locs1 ht hvm h hb9 hz1 hk1 hS1 => h.elim)
  · by_cases c_2_1 : p1 = 1
    · refine pr_r (va_runV (As := [.int p1]) (rest := []) ⟨hx, hb, hml, hown, hts⟩ (k_X2_tableToFill_1 l D cyI cyZ ad zb zo zt zm zu zr zl zf p1 c_2_1) (cwV 1 hts gX2_removeRow_X2_tableToFill rfl rfl rfl (by decide +kernel) ⟨Nat.le_of_ble_eq_true rfl, Nat.le_of_ble_eq_true rfl⟩) (prV hG hP (ci := 2) rfl rfl rfl) rfl rfl hl.1 rfl (lv_room (Nat.le_of_ble_eq_true rfl)) dX2_removeRow_2 ⟨Nat.zero_le _, Nat.zero_le _⟩) hS hP (fun H locs hP hS => ?_)
      refine lv_astore_n (lv' := [(3, .ref (ad 4)), (0, .ref (ad 0)), (1, .int p1), (2, .int p2)]) hx hb dX2_removeRow_5 rfl hl (by decide) rfl (fun ls hl => ?_)
      refine lv_aload_n hx hb dX2_removeRow_6 rfl (lv_at hl 0 rfl) ?_
      refine lv_iload_n hx hb dX2_removeRow_7 rfl (lv_at hl 3 rfl) ?_
      by_cases c_8 : (f_X2_requireRowOf_x zo p2) = 0
      · refine pr_v (va_runS (As := [.ref (ad 4), .int p2]) (rest := []) ⟨hx, hb, hml, hown, hts⟩ (k_X2_requireRowOf l D cyI cyZ (ad 4) (ad 5) (ad 6) zo p2 c_8) (va_cwS 2 hts gX2_removeRow_X2_requireRowOf rfl rfl rfl (by decide +kernel) ⟨Nat.le_of_ble_eq_true rfl, Nat.le_of_ble_eq_true rfl⟩) (prS hG (hP.sub (ws' := wT cyI (ad 4) (ad 5) (ad 6) zo) [4, 5, 6] rfl)) rfl rfl hl.1 rfl (lv_room (Nat.le_of_ble_eq_true rfl)) dX2_removeRow_8 ⟨Nat.zero_le _, Nat.zero_le _⟩) hS hP (fun H locs hP hS => ?_)
        refine lv_aload_n hx hb dX2_removeRow_11 rfl (lv_at hl 0 rfl) ?_
        refine lv_iload_n hx hb dX2_removeRow_12 rfl (lv_at hl 3 rfl) ?_
        exact absurd (by rw [f_X2_removeRow_x, if_neg c_2_0, if_pos c_2_1, if_pos c_8]) hx9
      · have ef : f_X2_removeRow_x zb zo zt p1 p2 = f_X2_requireRowOf_x zo p2 := by rw [f_X2_removeRow_x, if_neg c_2_0, if_pos c_2_1, if_neg c_8]
        exact vx_callv (vx_runS (As := [.ref (ad 4), .int p2]) (rest := []) ⟨hx, hb, hml, hown, hts⟩ (t_X2_requireRowOf l hlt D cyI cyZ (ad 4) (ad 5) (ad 6) zo p2 c_8) (va_cwS 2 hts gX2_removeRow_X2_requireRowOf rfl rfl rfl (by decide +kernel) ⟨Nat.le_of_ble_eq_true rfl, Nat.le_of_ble_eq_true rfl⟩) (ptS hG (hz.kept hS) (hP.sub (ws' := wT cyI (ad 4) (ad 5) (ad 6) zo) [4, 5, 6] rfl)) rfl rfl hl.1 rfl (lv_room (Nat.le_of_ble_eq_true rfl)) dX2_removeRow_8 ⟨Nat.le_of_ble_eq_true rfl, Nat.le_of_ble_eq_true rfl⟩) hS (fun _ _ h => h.elim) (fun _ h => h.elim) (fun _ _ h => h.elim) (fun E ce q9 u t H1 locs1 ht _ _ hE _ _ hS1 hce hcv hcl => vx_out (fun x h => (hnt x h).elim) hlocks hce hcv hcl (fun t9 h9 _ => ⟨(), trivial, hE.trans (congrArg xn ef.symm), hS1.F h9⟩) hS1.2.2 (Nat.le_refl _) (Nat.le_refl _)) (fun u t H1 locs1 ht hvm h hb9 hz1 hk1 hS1 => h.elim)
    · by_cases c_2_2 : p1 = 2
      · refine pr_r (va_runV (As := [.int p1]) (rest := []) ⟨hx, hb, hml, hown, hts⟩ (k_X2_tableToFill_2 l D cyI cyZ ad zb zo zt zm zu zr zl zf p1 c_2_2) (cwV 1 hts gX2_removeRow_X2_tableToFill rfl rfl rfl (by decide +kernel) ⟨Nat.le_of_ble_eq_true rfl, Nat.le_of_ble_eq_true rfl⟩) (prV hG hP (ci := 2) rfl rfl rfl) rfl rfl hl.1 rfl (lv_room (Nat.le_of_ble_eq_true rfl)) dX2_removeRow_2 ⟨Nat.zero_le _, Nat.zero_le _⟩) hS hP (fun H locs hP hS => ?_)
        refine lv_astore_n (lv' := [(3, .ref (ad 7)), (0, .ref (ad 0)), (1, .int p1), (2, .int p2)]) hx hb dX2_removeRow_5 rfl hl (by decide) rfl (fun ls hl => ?_)
        refine lv_aload_n hx hb dX2_removeRow_6 rfl (lv_at hl 0 rfl) ?_
        refine lv_iload_n hx hb dX2_removeRow_7 rfl (lv_at hl 3 rfl) ?_
        by_cases c_8 : (f_X2_requireRowOf_x zt p2) = 0
        · refine pr_v (va_runS (As := [.ref (ad 7), .int p2]) (rest := []) ⟨hx, hb, hml, hown, hts⟩ (k_X2_requireRowOf l D cyI cyZ (ad 7) (ad 8) (ad 9) zt p2 c_8) (va_cwS 2 hts gX2_removeRow_X2_requireRowOf rfl rfl rfl (by decide +kernel) ⟨Nat.le_of_ble_eq_true rfl, Nat.le_of_ble_eq_true rfl⟩) (prS hG (hP.sub (ws' := wT cyI (ad 7) (ad 8) (ad 9) zt) [7, 8, 9] rfl)) rfl rfl hl.1 rfl (lv_room (Nat.le_of_ble_eq_true rfl)) dX2_removeRow_8 ⟨Nat.zero_le _, Nat.zero_le _⟩) hS hP (fun H locs hP hS => ?_)
          refine lv_aload_n hx hb dX2_removeRow_11 rfl (lv_at hl 0 rfl) ?_
          refine lv_iload_n hx hb dX2_removeRow_12 rfl (lv_at hl 3 rfl) ?_
          exact absurd (by rw [f_X2_removeRow_x, if_neg c_2_0, if_neg c_2_1, if_pos c_2_2, if_pos c_8]) hx9
        · have ef : f_X2_removeRow_x zb zo zt p1 p2 = f_X2_requireRowOf_x zt p2 := by rw [f_X2_removeRow_x, if_neg c_2_0, if_neg c_2_1, if_pos c_2_2, if_neg c_8]
          exact vx_callv (vx_runS (As := [.ref (ad 7), .int p2]) (rest := []) ⟨hx, hb, hml, hown, hts⟩ (t_X2_requireRowOf l hlt D cyI cyZ (ad 7) (ad 8) (ad 9) zt p2 c_8) (va_cwS 2 hts gX2_removeRow_X2_requireRowOf rfl rfl rfl (by decide +kernel) ⟨Nat.le_of_ble_eq_true rfl, Nat.le_of_ble_eq_true rfl⟩) (ptS hG (hz.kept hS) (hP.sub (ws' := wT cyI (ad 7) (ad 8) (ad 9) zt) [7, 8, 9] rfl)) rfl rfl hl.1 rfl (lv_room (Nat.le_of_ble_eq_true rfl)) dX2_removeRow_8 ⟨Nat.le_of_ble_eq_true rfl, Nat.le_of_ble_eq_true rfl⟩) hS (fun _ _ h => h.elim) (fun _ h => h.elim) (fun _ _ h => h.elim) (fun E ce q9 u t H1 locs1 ht _ _ hE _ _ hS1 hce hcv hcl => vx_out (fun x h => (hnt x h).elim) hlocks hce hcv hcl (fun t9 h9 _ => ⟨(), trivial, hE.trans (congrArg xn ef.symm), hS1.F h9⟩) hS1.2.2 (Nat.le_refl _) (Nat.le_refl _)) (fun u t H1 locs1 ht hvm h hb9 hz1 hk1 hS1 => h.elim)
      · have ef : f_X2_removeRow_x zb zo zt p1 p2 = f_X2_tableToFill_x p1 := (by rw [f_X2_removeRow_x, if_neg c_2_0, if_neg c_2_1, if_neg c_2_2] : f_X2_removeRow_x zb zo zt p1 p2 = 1).trans (tf_x c_2_0 c_2_1 c_2_2).symm
        exact vx_callr (vx_runV (As := [.int p1]) (rest := []) ⟨hx, hb, hml, hown, hts⟩ (t_X2_tableToFill l hlt D cyI cyZ ad zb zo zt zm zu zr zl zf p1 (by rw [tf_x c_2_0 c_2_1 c_2_2]; decide)) (cwV 1 hts gX2_removeRow_X2_tableToFill rfl rfl rfl (by decide +kernel) ⟨Nat.le_of_ble_eq_true rfl, Nat.le_of_ble_eq_true rfl⟩) (ptV hG (hz.kept hS) hP (ci := 2) rfl rfl rfl) rfl rfl hl.1 rfl (lv_room (Nat.le_of_ble_eq_true rfl)) dX2_removeRow_2 ⟨Nat.le_of_ble_eq_true rfl, Nat.le_of_ble_eq_true rfl⟩) hS (fun _ _ h => h.elim) (fun _ h => h.elim) (fun _ _ h => h.elim) (fun E ce q9 u t H1 locs1 ht _ _ hE _ _ hS1 hce hcv hcl => vx_out (fun x h => (hnt x h).elim) hlocks hce hcv hcl (fun t9 h9 _ => ⟨(), trivial, hE.trans (congrArg xn ef.symm), hS1.F h9⟩) hS1.2.2 (Nat.le_refl _) (Nat.le_refl _)) (fun u ra t H1 locs1 ht hvm h hb9 hz1 hk1 hS1 => h.elim)
def f_X2_set (zb : Tr) (zo : Tr) (zt : Tr) (zf : Int32) (p1 : Int32) (p2 : Int32) (p3 : Int32) (p4 : Int32) : Int32 × Tr × Tr × Tr × Int32 := if p1 = 0 then (if (f_X2_requireRowOf_x zb p2) = 0 then (if (f_X2_requireColumnOf_x zb p3) = 0 then (if p4 < (-9999) then ((0, zb, zo, zt, zf)) else (if p4 ≤ 9999 then ((f_X1_cellAt zb p2 p3, (f_X1_putCell zb p2 p3 p4), zo, zt, 0)) else ((0, zb, zo, zt, zf)))) else ((0, zb, zo, zt, zf))) else ((0, zb, zo, zt, zf))) else (if p1 = 1 then (if (f_X2_requireRowOf_x zo p2) = 0 then (if (f_X2_requireColumnOf_x zo p3) = 0 then (if p4 < (-9999) then ((0, zb, zo, zt, zf)) else (if p4 ≤ 9999 then ((f_X1_cellAt zo p2 p3, zb, (f_X1_putCell zo p2 p3 p4), zt, 0)) else ((0, zb, zo, zt, zf)))) else ((0, zb, zo, zt, zf))) else ((0, zb, zo, zt, zf))) else (if p1 = 2 then (if (f_X2_requireRowOf_x zt p2) = 0 then (if (f_X2_requireColumnOf_x zt p3) = 0 then (if p4 < (-9999) then ((0, zb, zo, zt, zf)) else (if p4 ≤ 9999 then ((f_X1_cellAt zt p2 p3, zb, zo, (f_X1_putCell zt p2 p3 p4), 0)) else ((0, zb, zo, zt, zf)))) else ((0, zb, zo, zt, zf))) else ((0, zb, zo, zt, zf))) else ((0, zb, zo, zt, zf))))
theorem uin_X2_set_X2 : ∀ w ∈ wsX20, w ∈ wsX2_set := fun _ h => List.mem_cons_of_mem _ (List.mem_append_left _ (List.mem_append_left _ (List.mem_append_left _ (List.mem_append_right _ h))))
theorem uin_X2_set_X1 : ∀ w ∈ wsX10, w ∈ wsX2_set := fun _ h => List.mem_cons_of_mem _ (List.mem_append_left _ (List.mem_append_left _ (List.mem_append_right _ h)))
def f_X2_set_x (zb : Tr) (zo : Tr) (zt : Tr) (p1 : Int32) (p2 : Int32) (p3 : Int32) (p4 : Int32) : Nat := if p1 = 0 then (if (f_X2_requireRowOf_x zb p2) = 0 then (if (f_X2_requireColumnOf_x zb p3) = 0 then (if p4 < (-9999) then 2 else (if p4 ≤ 9999 then 0 else 2)) else (f_X2_requireColumnOf_x zb p3)) else (f_X2_requireRowOf_x zb p2)) else (if p1 = 1 then (if (f_X2_requireRowOf_x zo p2) = 0 then (if (f_X2_requireColumnOf_x zo p3) = 0 then (if p4 < (-9999) then 2 else (if p4 ≤ 9999 then 0 else 2)) else (f_X2_requireColumnOf_x zo p3)) else (f_X2_requireRowOf_x zo p2)) else (if p1 = 2 then (if (f_X2_requireRowOf_x zt p2) = 0 then (if (f_X2_requireColumnOf_x zt p3) = 0 then (if p4 < (-9999) then 2 else (if p4 ≤ 9999 then 0 else 2)) else (f_X2_requireColumnOf_x zt p3)) else (f_X2_requireRowOf_x zt p2)) else 1))
theorem xin_X2_set_IA : ∀ w ∈ (vx_atS RX2 112 "java/lang/IllegalArgumentException" ["java/lang/RuntimeException", "java/lang/Exception"]).filter goodWord, w ∈ wsX2_set := fun _ h => List.mem_cons_of_mem _ (List.mem_append_left _ (List.mem_append_right _ h))
theorem xin_X2_set_IO : ∀ w ∈ (vx_atS RX2 224 "java/lang/IndexOutOfBoundsException" ["java/lang/RuntimeException", "java/lang/Exception"]).filter goodWord, w ∈ wsX2_set := fun _ h => List.mem_cons_of_mem _ (List.mem_append_right _ h)
set_option maxHeartbeats 4000000 in
set_option maxRecDepth 100000 in
theorem k_X2_set (l : Launch) (D : va_G) (cyI cyZ : ClassId) (ad : Nat → Nat) (zb : Tr) (zo : Tr) (zt : Tr) (zm : Tr) (zu : Nat → Int32) (zr : Nat → Int32) (zl : Lr) (zf : Int32) (p1 : Int32) (p2 : Int32) (p3 : Int32) (p4 : Int32) (A : Nat → Prop) (sz : Nat) (hAe : A = va_A (wZ cyI cyZ ad zb zo zt zm zu zr zl zf) sz) (hx9 : f_X2_set_x zb zo zt p1 p2 p3 p4 = 0) : Met l yX2_set wsX2_set ({ frames := 3, cells := 0, slots := 0, locals := 66 } : Room) (pcM D cyI cyZ sz [.ref (ad 0), .int p1, .int p2, .int p3, .int p4] (wZ cyI cyZ ad zb zo zt zm zu zr zl zf)) (mI D A (wZ cyI cyZ ad (f_X2_set zb zo zt zf p1 p2 p3 p4).2.1 (f_X2_set zb zo zt zf p1 p2 p3 p4).2.2.1 (f_X2_set zb zo zt zf p1 p2 p3 p4).2.2.2.1 zm zu zr zl (f_X2_set zb zo zt zf p1 p2 p3 p4).2.2.2.2) (f_X2_set zb zo zt zf p1 p2 p3 p4).1) 0 0 A := by
  refine Met.ofW (cc := cX2_set) (maxL := 7) (ret := (some .int)) (by decide) rfl ?_
  intro p e s m args below meth c s₁ B hml hv
  obtain ⟨rfl, hsz, hP, hG, hD0⟩ := hv
  have hx := B.exec
  have hb := B.bytes
  have hr := B.returns
  have hts := atoms_spec (ws := wsX2_set) B.pre
  have hown : s.vm.findClass RX2 = some m.cls := findClass_of_methodNamed B.named
  have hlocks := B.notSynchronized
  subst hsz
  have hD : va_D A (wZ cyI cyZ ad zb zo zt zm zu zr zl zf) := by rw [hAe]; exact hD0.self
  have hA : ∀ q : Nat, s.heap.size ≤ q → A q := fun q h => by rw [hAe]; exact Or.inr h
  clear hAe hD0
  have hS : va_S nA s.heap s.heap [] := va_S.rf
  have hl := lv_entry ([.ref (ad 0), .int p1, .int p2, .int p3, .int p4]) (n := 7) (Nat.le_of_ble_eq_true rfl)
  rw [lg_entry_eq]
  generalize (lg_sl ([.ref (ad 0), .int p1, .int p2, .int p3, .int p4]) ++ List.replicate (7 - (lg_sl ([.ref (ad 0), .int p1, .int p2, .int p3, .int p4])).length) Slot.unset).toArray = ls at hl ⊢
  have hl : lv_has ls 7 [(0, .ref (ad 0)), (1, .int p1), (2, .int p2), (3, .int p3), (4, .int p4)] := hl
  have hP : va_P D vwCl (wZ cyI cyZ ad zb zo zt zm zu zr zl zf) s.heap := hP
  refine lv_aload_n hx hb dX2_set_0 rfl (lv_at hl 0 rfl) ?_
  refine lv_iload_n hx hb dX2_set_1 rfl (lv_at hl 1 rfl) ?_
  by_cases c_2_0 : p1 = 0
  · refine pr_r (va_runV (As := [.int p1]) (rest := []) ⟨hx, hb, hml, hown, hts⟩ (k_X2_tableToFill_0 l D cyI cyZ ad zb zo zt zm zu zr zl zf p1 c_2_0) (cwV 1 hts gX2_set_X2_tableToFill rfl rfl rfl (by decide +kernel) ⟨Nat.le_of_ble_eq_true rfl, Nat.le_of_ble_eq_true rfl⟩) (prV hG hP (ci := 2) rfl rfl rfl) rfl rfl hl.1 rfl (lv_room (Nat.le_of_ble_eq_true rfl)) dX2_set_2 ⟨Nat.zero_le _, Nat.zero_le _⟩) hS hP (fun H locs hP hS => ?_)
    refine lv_astore (lv' := [(5, .ref (ad 1)), (0, .ref (ad 0)), (1, .int p1), (2, .int p2), (3, .int p3), (4, .int p4)]) hx hb dX2_set_5 hl (by decide) rfl (fun ls hl => ?_)
    refine lv_aload hx hb dX2_set_7 (lv_at hl 0 rfl) ?_
    refine lv_iload_n hx hb dX2_set_9 rfl (lv_at hl 3 rfl) ?_
    by_cases c_10 : (f_X2_requireRowOf_x zb p2) = 0
    · refine pr_v (va_runS (As := [.ref (ad 1), .int p2]) (rest := []) ⟨hx, hb, hml, hown, hts⟩ (k_X2_requireRowOf l D cyI cyZ (ad 1) (ad 2) (ad 3) zb p2 c_10) (va_cwS 2 hts gX2_set_X2_requireRowOf rfl rfl rfl (by decide +kernel) ⟨Nat.le_of_ble_eq_true rfl, Nat.le_of_ble_eq_true rfl⟩) (prS hG (hP.sub (ws' := wT cyI (ad 1) (ad 2) (ad 3) zb) [1, 2, 3] rfl)) rfl rfl hl.1 rfl (lv_room (Nat.le_of_ble_eq_true rfl)) dX2_set_10 ⟨Nat.zero_le _, Nat.zero_le _⟩) hS hP (fun H locs hP hS => ?_)
      refine lv_aload hx hb dX2_set_13 (lv_at hl 0 rfl) ?_
      refine lv_iload_n hx hb dX2_set_15 rfl (lv_at hl 4 rfl) ?_
      by_cases c_16 : (f_X2_requireColumnOf_x zb p3) = 0
      · refine pr_v (va_runS (As := [.ref (ad 1), .int p3]) (rest := []) ⟨hx, hb, hml, hown, hts⟩ (k_X2_requireColumnOf l D cyI cyZ (ad 1) (ad 2) (ad 3) zb p3 c_16) (va_cwS 2 hts gX2_set_X2_requireColumnOf rfl rfl rfl (by decide +kernel) ⟨Nat.le_of_ble_eq_true rfl, Nat.le_of_ble_eq_true rfl⟩) (prS hG (hP.sub (ws' := wT cyI (ad 1) (ad 2) (ad 3) zb) [1, 2, 3] rfl)) rfl rfl hl.1 rfl (lv_room (Nat.le_of_ble_eq_true rfl)) dX2_set_16 ⟨Nat.zero_le _, Nat.zero_le _⟩) hS hP (fun H locs hP hS => ?_)
        refine lv_iload hx hb dX2_set_19 (lv_at hl 5 rfl) ?_
        refine lv_sipush (v := (-9999)) hx hb dX2_set_21 (by decide) ?_
        refine lv_icmp_lt (tgt := 35) hx hb dX2_set_24 (by decide) (fun c_24 => ?_) (fun c_24 => ?_)
        · exact absurd hx9 (by rw [f_X2_set_x, if_pos c_2_0, if_pos c_10, if_pos c_16, if_pos c_24]; decide)
        · refine lv_iload hx hb dX2_set_27 (lv_at hl 5 rfl) ?_
          refine lv_sipush (v := 9999) hx hb dX2_set_29 (by decide) ?_
          refine lv_icmp_le (tgt := 45) hx hb dX2_set_32 (by decide) (fun c_32 => ?_) (fun c_32 => ?_)
          · refine lv_aload hx hb dX2_set_45 (lv_at hl 0 rfl) ?_
            refine lv_iload_n hx hb dX2_set_47 rfl (lv_at hl 3 rfl) ?_
            refine lv_iload_n hx hb dX2_set_48 rfl (lv_at hl 4 rfl) ?_
            refine pr_i (va_runVN (As := [.int p2, .int p3]) (rest := []) ⟨hx, hb, hml, hown, hts⟩ (k_X1_cellAt l D cyI cyZ (ad 1) (ad 2) (ad 3) zb p2 p3) ⟨va_cnB 2 hts gX2_set_X1_cellAt_n113 rfl rfl rfl (hG.2.1 (RX2, 113, yX1_cellAt, "TableSplice") (List.mem_of_getElem? (i := 18) rfl)) (hts (.initialized RX1) (List.mem_of_getElem? (i := 23) rfl)) (by decide +kernel) ⟨Nat.le_of_ble_eq_true rfl, Nat.le_of_ble_eq_true rfl⟩, hts (.instanceMethod yX1_cellAt) (List.mem_of_getElem? (i := 34) rfl), hts (.selects RX1 yX1_cellAt yX1_cellAt) (List.mem_of_getElem? (i := 35) rfl)⟩ (prV hG (hP.sub (ws' := wT cyI (ad 1) (ad 2) (ad 3) zb) [1, 2, 3] rfl) (ci := 1) rfl rfl rfl) rfl rfl hl.1 rfl (lv_room (Nat.le_of_ble_eq_true rfl)) dX2_set_49 ⟨Nat.zero_le _, Nat.zero_le _⟩) hS hP (fun H locs hP hS => ?_)
            refine lv_istore (lv' := [(6, .int (f_X1_cellAt zb p2 p3)), (5, .ref (ad 1)), (0, .ref (ad 0)), (1, .int p1), (2, .int p2), (3, .int p3), (4, .int p4)]) hx hb dX2_set_52 hl (by decide) rfl (fun ls hl => ?_)
            refine lv_aload hx hb dX2_set_54 (lv_at hl 1 rfl) ?_
            refine lv_iload_n hx hb dX2_set_56 rfl (lv_at hl 4 rfl) ?_
            refine lv_iload_n hx hb dX2_set_57 rfl (lv_at hl 5 rfl) ?_
            refine lv_iload hx hb dX2_set_58 (lv_at hl 6 rfl) ?_
            have hS := sw_n (B := A) hS
            refine mr_v (va_runVN (As := [.int p2, .int p3, .int p4]) (rest := []) ⟨hx, hb, hml, hown, hts⟩ (k_X1_putCell l D cyI cyZ (ad 1) (ad 2) (ad 3) zb p2 p3 p4 _ _ rfl) ⟨va_cnB 3 hts gX2_set_X1_putCell_n117 rfl rfl rfl (hG.2.1 (RX2, 117, yX1_putCell, "TableSplice") (List.mem_of_getElem? (i := 19) rfl)) (hts (.initialized RX1) (List.mem_of_getElem? (i := 23) rfl)) (by decide +kernel) ⟨Nat.le_of_ble_eq_true rfl, Nat.le_of_ble_eq_true rfl⟩, hts (.instanceMethod yX1_putCell) (List.mem_of_getElem? (i := 44) rfl), hts (.selects RX1 yX1_putCell yX1_putCell) (List.mem_of_getElem? (i := 45) rfl)⟩ (pmV hG (hP.sub (ws' := wT cyI (ad 1) (ad 2) (ad 3) zb) [1, 2, 3] rfl) (hD.sub (ws' := wT cyI (ad 1) (ad 2) (ad 3) zb) [1, 2, 3] (by decide) rfl) (ci := 1) rfl rfl rfl) rfl rfl hl.1 rfl (lv_room (Nat.le_of_ble_eq_true rfl)) dX2_set_60 ⟨Nat.zero_le _, Nat.zero_le _⟩) hP hD hS hA [1, 2, 3] [0, 4, 5, 6, 7, 8, 9, 10, 11, 12, 13, 14, 15, 16, 17, 18, 19] [0, 17, 18, 19, 1, 2, 3, 4, 5, 6, 7, 8, 9, 10, 11, 12, 13, 14, 15, 16] rfl rfl (by decide) (by decide) (by decide) (w2 := wZ cyI cyZ ad (f_X1_putCell zb p2 p3 p4) zo zt zm zu zr zl zf) rfl (fun H locs hP hD hS => ?_)
            have hP : va_P D vwCl (wZ cyI cyZ ad (f_X1_putCell zb p2 p3 p4) zo zt zm zu zr zl zf) H := hP
            have hD : va_D A (wZ cyI cyZ ad (f_X1_putCell zb p2 p3 p4) zo zt zm zu zr zl zf) := hD
            refine lv_aload_n hx hb dX2_set_63 rfl (lv_at hl 2 rfl) ?_
            refine lv_iconst (v := 0) hx hb dX2_set_64 (by decide) ?_
            refine va_put (D := D) (ci := 2) (v := .int 0) (ty := .boolean) (C := RX2) (T := TX2) (N := 8) hx hb hts uin_X2_set_X2 tyX2 tyX2_ok nmX2 hown hG.1 hP hD hS 0 rfl rfl 7 (by decide) (hts (.fieldLink RX2 40 "TableSplice" "fresh" "Z") (List.mem_of_getElem? (i := 3) rfl)) (fun _ h9 => h9) rfl (by decide +kernel) rfl rfl (Nat.le_of_ble_eq_true rfl) dX2_set_65 (fun H locs hP hD hS => ?_)
            have hP : va_P D vwCl (wZ cyI cyZ ad (f_X1_putCell zb p2 p3 p4) zo zt zm zu zr zl 0) H := hP
            have hD : va_D A (wZ cyI cyZ ad (f_X1_putCell zb p2 p3 p4) zo zt zm zu zr zl 0) := hD
            refine lv_iload hx hb dX2_set_68 (lv_at hl 0 rfl) ?_
            have ef : f_X2_set zb zo zt zf p1 p2 p3 p4 = (f_X1_cellAt zb p2 p3, (f_X1_putCell zb p2 p3 p4), zo, zt, 0) := by rw [f_X2_set, if_pos c_2_0, if_pos c_10, if_pos c_16, if_neg c_24, if_pos c_32]
            exact W.iret (v := f_X1_cellAt zb p2 p3) hx hb hr (fun t ht hW => ⟨⟨f_X1_cellAt zb p2 p3, (), rfl, by rw [ef], by rw [ht, ef]; exact hP, by rw [ef]; exact hD⟩, hS.F ht⟩) hS.2.2 dX2_set_70
          · exact absurd hx9 (by rw [f_X2_set_x, if_pos c_2_0, if_pos c_10, if_pos c_16, if_neg c_24, if_neg c_32]; decide)
      · exact absurd hx9 (by rw [f_X2_set_x, if_pos c_2_0, if_pos c_10, if_neg c_16]; exact c_16)
    · exact absurd hx9 (by rw [f_X2_set_x, if_pos c_2_0, if_neg c_10]; exact c_10)
  · by_cases c_2_1 : p1 = 1
    · refine pr_r (va_runV (As := [.int p1]) (rest := []) ⟨hx, hb, hml, hown, hts⟩ (k_X2_tableToFill_1 l D cyI cyZ ad zb zo zt zm zu zr zl zf p1 c_2_1) (cwV 1 hts gX2_set_X2_tableToFill rfl rfl rfl (by decide +kernel) ⟨Nat.le_of_ble_eq_true rfl, Nat.le_of_ble_eq_true rfl⟩) (prV hG hP (ci := 2) rfl rfl rfl) rfl rfl hl.1 rfl (lv_room (Nat.le_of_ble_eq_true rfl)) dX2_set_2 ⟨Nat.zero_le _, Nat.zero_le _⟩) hS hP (fun H locs hP hS => ?_)
      refine lv_astore (lv' := [(5, .ref (ad 4)), (0, .ref (ad 0)), (1, .int p1), (2, .int p2), (3, .int p3), (4, .int p4)]) hx hb dX2_set_5 hl (by decide) rfl (fun ls hl => ?_)
      refine lv_aload hx hb dX2_set_7 (lv_at hl 0 rfl) ?_
      refine lv_iload_n hx hb dX2_set_9 rfl (lv_at hl 3 rfl) ?_
      by_cases c_10 : (f_X2_requireRowOf_x zo p2) = 0
      · refine pr_v (va_runS (As := [.ref (ad 4), .int p2]) (rest := []) ⟨hx, hb, hml, hown, hts⟩ (k_X2_requireRowOf l D cyI cyZ (ad 4) (ad 5) (ad 6) zo p2 c_10) (va_cwS 2 hts gX2_set_X2_requireRowOf rfl rfl rfl (by decide +kernel) ⟨Nat.le_of_ble_eq_true rfl, Nat.le_of_ble_eq_true rfl⟩) (prS hG (hP.sub (ws' := wT cyI (ad 4) (ad 5) (ad 6) zo) [4, 5, 6] rfl)) rfl rfl hl.1 rfl (lv_room (Nat.le_of_ble_eq_true rfl)) dX2_set_10 ⟨Nat.zero_le _, Nat.zero_le _⟩) hS hP (fun H locs hP hS => ?_)
        refine lv_aload hx hb dX2_set_13 (lv_at hl 0 rfl) ?_
        refine lv_iload_n hx hb dX2_set_15 rfl (lv_at hl 4 rfl) ?_
        by_cases c_16 : (f_X2_requireColumnOf_x zo p3) = 0
        · refine pr_v (va_runS (As := [.ref (ad 4), .int p3]) (rest := []) ⟨hx, hb, hml, hown, hts⟩ (k_X2_requireColumnOf l D cyI cyZ (ad 4) (ad 5) (ad 6) zo p3 c_16) (va_cwS 2 hts gX2_set_X2_requireColumnOf rfl rfl rfl (by decide +kernel) ⟨Nat.le_of_ble_eq_true rfl, Nat.le_of_ble_eq_true rfl⟩) (prS hG (hP.sub (ws' := wT cyI (ad 4) (ad 5) (ad 6) zo) [4, 5, 6] rfl)) rfl rfl hl.1 rfl (lv_room (Nat.le_of_ble_eq_true rfl)) dX2_set_16 ⟨Nat.zero_le _, Nat.zero_le _⟩) hS hP (fun H locs hP hS => ?_)
          refine lv_iload hx hb dX2_set_19 (lv_at hl 5 rfl) ?_
          refine lv_sipush (v := (-9999)) hx hb dX2_set_21 (by decide) ?_
          refine lv_icmp_lt (tgt := 35) hx hb dX2_set_24 (by decide) (fun c_24 => ?_) (fun c_24 => ?_)
          · exact absurd hx9 (by rw [f_X2_set_x, if_neg c_2_0, if_pos c_2_1, if_pos c_10, if_pos c_16, if_pos c_24]; decide)
          · refine lv_iload hx hb dX2_set_27 (lv_at hl 5 rfl) ?_
            refine lv_sipush (v := 9999) hx hb dX2_set_29 (by decide) ?_
            refine lv_icmp_le (tgt := 45) hx hb dX2_set_32 (by decide) (fun c_32 => ?_) (fun c_32 => ?_)
            · refine lv_aload hx hb dX2_set_45 (lv_at hl 0 rfl) ?_
              refine lv_iload_n hx hb dX2_set_47 rfl (lv_at hl 3 rfl) ?_
              refine lv_iload_n hx hb dX2_set_48 rfl (lv_at hl 4 rfl) ?_
              refine pr_i (va_runVN (As := [.int p2, .int p3]) (rest := []) ⟨hx, hb, hml, hown, hts⟩ (k_X1_cellAt l D cyI cyZ (ad 4) (ad 5) (ad 6) zo p2 p3) ⟨va_cnB 2 hts gX2_set_X1_cellAt_n113 rfl rfl rfl (hG.2.1 (RX2, 113, yX1_cellAt, "TableSplice") (List.mem_of_getElem? (i := 18) rfl)) (hts (.initialized RX1) (List.mem_of_getElem? (i := 23) rfl)) (by decide +kernel) ⟨Nat.le_of_ble_eq_true rfl, Nat.le_of_ble_eq_true rfl⟩, hts (.instanceMethod yX1_cellAt) (List.mem_of_getElem? (i := 34) rfl), hts (.selects RX1 yX1_cellAt yX1_cellAt) (List.mem_of_getElem? (i := 35) rfl)⟩ (prV hG (hP.sub (ws' := wT cyI (ad 4) (ad 5) (ad 6) zo) [4, 5, 6] rfl) (ci := 1) rfl rfl rfl) rfl rfl hl.1 rfl (lv_room (Nat.le_of_ble_eq_true rfl)) dX2_set_49 ⟨Nat.zero_le _, Nat.zero_le _⟩) hS hP (fun H locs hP hS => ?_)
              refine lv_istore (lv' := [(6, .int (f_X1_cellAt zo p2 p3)), (5, .ref (ad 4)), (0, .ref (ad 0)), (1, .int p1), (2, .int p2), (3, .int p3), (4, .int p4)]) hx hb dX2_set_52 hl (by decide) rfl (fun ls hl => ?_)
              refine lv_aload hx hb dX2_set_54 (lv_at hl 1 rfl) ?_
              refine lv_iload_n hx hb dX2_set_56 rfl (lv_at hl 4 rfl) ?_
              refine lv_iload_n hx hb dX2_set_57 rfl (lv_at hl 5 rfl) ?_
              refine lv_iload hx hb dX2_set_58 (lv_at hl 6 rfl) ?_
              have hS := sw_n (B := A) hS
              refine mr_v (va_runVN (As := [.int p2, .int p3, .int p4]) (rest := []) ⟨hx, hb, hml, hown, hts⟩ (k_X1_putCell l D cyI cyZ (ad 4) (ad 5) (ad 6) zo p2 p3 p4 _ _ rfl) ⟨va_cnB 3 hts gX2_set_X1_putCell_n117 rfl rfl rfl (hG.2.1 (RX2, 117, yX1_putCell, "TableSplice") (List.mem_of_getElem? (i := 19) rfl)) (hts (.initialized RX1) (List.mem_of_getElem? (i := 23) rfl)) (by decide +kernel) ⟨Nat.le_of_ble_eq_true rfl, Nat.le_of_ble_eq_true rfl⟩, hts (.instanceMethod yX1_putCell) (List.mem_of_getElem? (i := 44) rfl), hts (.selects RX1 yX1_putCell yX1_putCell) (List.mem_of_getElem? (i := 45) rfl)⟩ (pmV hG (hP.sub (ws' := wT cyI (ad 4) (ad 5) (ad 6) zo) [4, 5, 6] rfl) (hD.sub (ws' := wT cyI (ad 4) (ad 5) (ad 6) zo) [4, 5, 6] (by decide) rfl) (ci := 1) rfl rfl rfl) rfl rfl hl.1 rfl (lv_room (Nat.le_of_ble_eq_true rfl)) dX2_set_60 ⟨Nat.zero_le _, Nat.zero_le _⟩) hP hD hS hA [4, 5, 6] [0, 1, 2, 3, 7, 8, 9, 10, 11, 12, 13, 14, 15, 16, 17, 18, 19] [0, 1, 2, 3, 17, 18, 19, 4, 5, 6, 7, 8, 9, 10, 11, 12, 13, 14, 15, 16] rfl rfl (by decide) (by decide) (by decide) (w2 := wZ cyI cyZ ad zb (f_X1_putCell zo p2 p3 p4) zt zm zu zr zl zf) rfl (fun H locs hP hD hS => ?_)
              have hP : va_P D vwCl (wZ cyI cyZ ad zb (f_X1_putCell zo p2 p3 p4) zt zm zu zr zl zf) H := hP
              have hD : va_D A (wZ cyI cyZ ad zb (f_X1_putCell zo p2 p3 p4) zt zm zu zr zl zf) := hD
              refine lv_aload_n hx hb dX2_set_63 rfl (lv_at hl 2 rfl) ?_
              refine lv_iconst (v := 0) hx hb dX2_set_64 (by decide) ?_
              refine va_put (D := D) (ci := 2) (v := .int 0) (ty := .boolean) (C := RX2) (T := TX2) (N := 8) hx hb hts uin_X2_set_X2 tyX2 tyX2_ok nmX2 hown hG.1 hP hD hS 0 rfl rfl 7 (by decide) (hts (.fieldLink RX2 40 "TableSplice" "fresh" "Z") (List.mem_of_getElem? (i := 3) rfl)) (fun _ h9 => h9) rfl (by decide +kernel) rfl rfl (Nat.le_of_ble_eq_true rfl) dX2_set_65 (fun H locs hP hD hS => ?_)
              have hP : va_P D vwCl (wZ cyI cyZ ad zb (f_X1_putCell zo p2 p3 p4) zt zm zu zr zl 0) H := hP
              have hD : va_D A (wZ cyI cyZ ad zb (f_X1_putCell zo p2 p3 p4) zt zm zu zr zl 0) := hD
              refine lv_iload hx hb dX2_set_68 (lv_at hl 0 rfl) ?_
              have ef : f_X2_set zb zo zt zf p1 p2 p3 p4 = (f_X1_cellAt zo p2 p3, zb, (f_X1_putCell zo p2 p3 p4), zt, 0) := by rw [f_X2_set, if_neg c_2_0, if_pos c_2_1, if_pos c_10, if_pos c_16, if_neg c_24, if_pos c_32]
              exact W.iret (v := f_X1_cellAt zo p2 p3) hx hb hr (fun t ht hW => ⟨⟨f_X1_cellAt zo p2 p3, (), rfl, by rw [ef], by rw [ht, ef]; exact hP, by rw [ef]; exact hD⟩, hS.F ht⟩) hS.2.2 dX2_set_70
            · exact absurd hx9 (by rw [f_X2_set_x, if_neg c_2_0, if_pos c_2_1, if_pos c_10, if_pos c_16, if_neg c_24, if_neg c_32]; decide)
        · exact absurd hx9 (by rw [f_X2_set_x, if_neg c_2_0, if_pos c_2_1, if_pos c_10, if_neg c_16]; exact c_16)
      · exact absurd hx9 (by rw [f_X2_set_x, if_neg c_2_0, if_pos c_2_1, if_neg c_10]; exact c_10)
    · by_cases c_2_2 : p1 = 2
      · refine pr_r (va_runV (As := [.int p1]) (rest := []) ⟨hx, hb, hml, hown, hts⟩ (k_X2_tableToFill_2 l D cyI cyZ ad zb zo zt zm zu zr zl zf p1 c_2_2) (cwV 1 hts gX2_set_X2_tableToFill rfl rfl rfl (by decide +kernel) ⟨Nat.le_of_ble_eq_true rfl, Nat.le_of_ble_eq_true rfl⟩) (prV hG hP (ci := 2) rfl rfl rfl) rfl rfl hl.1 rfl (lv_room (Nat.le_of_ble_eq_true rfl)) dX2_set_2 ⟨Nat.zero_le _, Nat.zero_le _⟩) hS hP (fun H locs hP hS => ?_)
        refine lv_astore (lv' := [(5, .ref (ad 7)), (0, .ref (ad 0)), (1, .int p1), (2, .int p2), (3, .int p3), (4, .int p4)]) hx hb dX2_set_5 hl (by decide) rfl (fun ls hl => ?_)
        refine lv_aload hx hb dX2_set_7 (lv_at hl 0 rfl) ?_
        refine lv_iload_n hx hb dX2_set_9 rfl (lv_at hl 3 rfl) ?_
        by_cases c_10 : (f_X2_requireRowOf_x zt p2) = 0
        · refine pr_v (va_runS (As := [.ref (ad 7), .int p2]) (rest := []) ⟨hx, hb, hml, hown, hts⟩ (k_X2_requireRowOf l D cyI cyZ (ad 7) (ad 8) (ad 9) zt p2 c_10) (va_cwS 2 hts gX2_set_X2_requireRowOf rfl rfl rfl (by decide +kernel) ⟨Nat.le_of_ble_eq_true rfl, Nat.le_of_ble_eq_true rfl⟩) (prS hG (hP.sub (ws' := wT cyI (ad 7) (ad 8) (ad 9) zt) [7, 8, 9] rfl)) rfl rfl hl.1 rfl (lv_room (Nat.le_of_ble_eq_true rfl)) dX2_set_10 ⟨Nat.zero_le _, Nat.zero_le _⟩) hS hP (fun H locs hP hS => ?_)
          refine lv_aload hx hb dX2_set_13 (lv_at hl 0 rfl) ?_
          refine lv_iload_n hx hb dX2_set_15 rfl (lv_at hl 4 rfl) ?_
          by_cases c_16 : (f_X2_requireColumnOf_x zt p3) = 0
          · refine pr_v (va_runS (As := [.ref (ad 7), .int p3]) (rest := []) ⟨hx, hb, hml, hown, hts⟩ (k_X2_requireColumnOf l D cyI cyZ (ad 7) (ad 8) (ad 9) zt p3 c_16) (va_cwS 2 hts gX2_set_X2_requireColumnOf rfl rfl rfl (by decide +kernel) ⟨Nat.le_of_ble_eq_true rfl, Nat.le_of_ble_eq_true rfl⟩) (prS hG (hP.sub (ws' := wT cyI (ad 7) (ad 8) (ad 9) zt) [7, 8, 9] rfl)) rfl rfl hl.1 rfl (lv_room (Nat.le_of_ble_eq_true rfl)) dX2_set_16 ⟨Nat.zero_le _, Nat.zero_le _⟩) hS hP (fun H locs hP hS => ?_)
            refine lv_iload hx hb dX2_set_19 (lv_at hl 5 rfl) ?_
            refine lv_sipush (v := (-9999)) hx hb dX2_set_21 (by decide) ?_
            refine lv_icmp_lt (tgt := 35) hx hb dX2_set_24 (by decide) (fun c_24 => ?_) (fun c_24 => ?_)
            · exact absurd hx9 (by rw [f_X2_set_x, if_neg c_2_0, if_neg c_2_1, if_pos c_2_2, if_pos c_10, if_pos c_16, if_pos c_24]; decide)
            · refine lv_iload hx hb dX2_set_27 (lv_at hl 5 rfl) ?_
              refine lv_sipush (v := 9999) hx hb dX2_set_29 (by decide) ?_
              refine lv_icmp_le (tgt := 45) hx hb dX2_set_32 (by decide) (fun c_32 => ?_) (fun c_32 => ?_)
              · refine lv_aload hx hb dX2_set_45 (lv_at hl 0 rfl) ?_
                refine lv_iload_n hx hb dX2_set_47 rfl (lv_at hl 3 rfl) ?_
                refine lv_iload_n hx hb dX2_set_48 rfl (lv_at hl 4 rfl) ?_
                refine pr_i (va_runVN (As := [.int p2, .int p3]) (rest := []) ⟨hx, hb, hml, hown, hts⟩ (k_X1_cellAt l D cyI cyZ (ad 7) (ad 8) (ad 9) zt p2 p3) ⟨va_cnB 2 hts gX2_set_X1_cellAt_n113 rfl rfl rfl (hG.2.1 (RX2, 113, yX1_cellAt, "TableSplice") (List.mem_of_getElem? (i := 18) rfl)) (hts (.initialized RX1) (List.mem_of_getElem? (i := 23) rfl)) (by decide +kernel) ⟨Nat.le_of_ble_eq_true rfl, Nat.le_of_ble_eq_true rfl⟩, hts (.instanceMethod yX1_cellAt) (List.mem_of_getElem? (i := 34) rfl), hts (.selects RX1 yX1_cellAt yX1_cellAt) (List.mem_of_getElem? (i := 35) rfl)⟩ (prV hG (hP.sub (ws' := wT cyI (ad 7) (ad 8) (ad 9) zt) [7, 8, 9] rfl) (ci := 1) rfl rfl rfl) rfl rfl hl.1 rfl (lv_room (Nat.le_of_ble_eq_true rfl)) dX2_set_49 ⟨Nat.zero_le _, Nat.zero_le _⟩) hS hP (fun H locs hP hS => ?_)
                refine lv_istore (lv' := [(6, .int (f_X1_cellAt zt p2 p3)), (5, .ref (ad 7)), (0, .ref (ad 0)), (1, .int p1), (2, .int p2), (3, .int p3), (4, .int p4)]) hx hb dX2_set_52 hl (by decide) rfl (fun ls hl => ?_)
                refine lv_aload hx hb dX2_set_54 (lv_at hl 1 rfl) ?_
                refine lv_iload_n hx hb dX2_set_56 rfl (lv_at hl 4 rfl) ?_
                refine lv_iload_n hx hb dX2_set_57 rfl (lv_at hl 5 rfl) ?_
                refine lv_iload hx hb dX2_set_58 (lv_at hl 6 rfl) ?_
                have hS := sw_n (B := A) hS
                refine mr_v (va_runVN (As := [.int p2, .int p3, .int p4]) (rest := []) ⟨hx, hb, hml, hown, hts⟩ (k_X1_putCell l D cyI cyZ (ad 7) (ad 8) (ad 9) zt p2 p3 p4 _ _ rfl) ⟨va_cnB 3 hts gX2_set_X1_putCell_n117 rfl rfl rfl (hG.2.1 (RX2, 117, yX1_putCell, "TableSplice") (List.mem_of_getElem? (i := 19) rfl)) (hts (.initialized RX1) (List.mem_of_getElem? (i := 23) rfl)) (by decide +kernel) ⟨Nat.le_of_ble_eq_true rfl, Nat.le_of_ble_eq_true rfl⟩, hts (.instanceMethod yX1_putCell) (List.mem_of_getElem? (i := 44) rfl), hts (.selects RX1 yX1_putCell yX1_putCell) (List.mem_of_getElem? (i := 45) rfl)⟩ (pmV hG (hP.sub (ws' := wT cyI (ad 7) (ad 8) (ad 9) zt) [7, 8, 9] rfl) (hD.sub (ws' := wT cyI (ad 7) (ad 8) (ad 9) zt) [7, 8, 9] (by decide) rfl) (ci := 1) rfl rfl rfl) rfl rfl hl.1 rfl (lv_room (Nat.le_of_ble_eq_true rfl)) dX2_set_60 ⟨Nat.zero_le _, Nat.zero_le _⟩) hP hD hS hA [7, 8, 9] [0, 1, 2, 3, 4, 5, 6, 10, 11, 12, 13, 14, 15, 16, 17, 18, 19] [0, 1, 2, 3, 4, 5, 6, 17, 18, 19, 7, 8, 9, 10, 11, 12, 13, 14, 15, 16] rfl rfl (by decide) (by decide) (by decide) (w2 := wZ cyI cyZ ad zb zo (f_X1_putCell zt p2 p3 p4) zm zu zr zl zf) rfl (fun H locs hP hD hS => ?_)
                have hP : va_P D vwCl (wZ cyI cyZ ad zb zo (f_X1_putCell zt p2 p3 p4) zm zu zr zl zf) H := hP
                have hD : va_D A (wZ cyI cyZ ad zb zo (f_X1_putCell zt p2 p3 p4) zm zu zr zl zf) := hD
                refine lv_aload_n hx hb dX2_set_63 rfl (lv_at hl 2 rfl) ?_
                refine lv_iconst (v := 0) hx hb dX2_set_64 (by decide) ?_
                refine va_put (D := D) (ci := 2) (v := .int 0) (ty := .boolean) (C := RX2) (T := TX2) (N := 8) hx hb hts uin_X2_set_X2 tyX2 tyX2_ok nmX2 hown hG.1 hP hD hS 0 rfl rfl 7 (by decide) (hts (.fieldLink RX2 40 "TableSplice" "fresh" "Z") (List.mem_of_getElem? (i := 3) rfl)) (fun _ h9 => h9) rfl (by decide +kernel) rfl rfl (Nat.le_of_ble_eq_true rfl) dX2_set_65 (fun H locs hP hD hS => ?_)
                have hP : va_P D vwCl (wZ cyI cyZ ad zb zo (f_X1_putCell zt p2 p3 p4) zm zu zr zl 0) H := hP
                have hD : va_D A (wZ cyI cyZ ad zb zo (f_X1_putCell zt p2 p3 p4) zm zu zr zl 0) := hD
                refine lv_iload hx hb dX2_set_68 (lv_at hl 0 rfl) ?_
                have ef : f_X2_set zb zo zt zf p1 p2 p3 p4 = (f_X1_cellAt zt p2 p3, zb, zo, (f_X1_putCell zt p2 p3 p4), 0) := by rw [f_X2_set, if_neg c_2_0, if_neg c_2_1, if_pos c_2_2, if_pos c_10, if_pos c_16, if_neg c_24, if_pos c_32]
                exact W.iret (v := f_X1_cellAt zt p2 p3) hx hb hr (fun t ht hW => ⟨⟨f_X1_cellAt zt p2 p3, (), rfl, by rw [ef], by rw [ht, ef]; exact hP, by rw [ef]; exact hD⟩, hS.F ht⟩) hS.2.2 dX2_set_70
              · exact absurd hx9 (by rw [f_X2_set_x, if_neg c_2_0, if_neg c_2_1, if_pos c_2_2, if_pos c_10, if_pos c_16, if_neg c_24, if_neg c_32]; decide)
          · exact absurd hx9 (by rw [f_X2_set_x, if_neg c_2_0, if_neg c_2_1, if_pos c_2_2, if_pos c_10, if_neg c_16]; exact c_16)
        · exact absurd hx9 (by rw [f_X2_set_x, if_neg c_2_0, if_neg c_2_1, if_pos c_2_2, if_neg c_10]; exact c_10)
      · exact absurd hx9 (by rw [f_X2_set_x, if_neg c_2_0, if_neg c_2_1, if_neg c_2_2]; decide)
set_option maxHeartbeats 4000000 in
set_option maxRecDepth 100000 in
theorem t_X2_set (l : Launch) (hlt : l.stackTraces = false) (D : va_G) (cyI cyZ : ClassId) (ad : Nat → Nat) (zb : Tr) (zo : Tr) (zt : Tr) (zm : Tr) (zu : Nat → Int32) (zr : Nat → Int32) (zl : Lr) (zf : Int32) (p1 : Int32) (p2 : Int32) (p3 : Int32) (p4 : Int32) (hx9 : ¬ f_X2_set_x zb zo zt p1 p2 p3 p4 = 0) : vx_Met l yX2_set wsX2_set ({ frames := 8, cells := 1, slots := 6, locals := 142 } : Room) (pcT D cyI cyZ [.ref (ad 0), .int p1, .int p2, .int p3, .int p4] (wZ cyI cyZ ad zb zo zt zm zu zr zl zf)) qFi (xX (f_X2_set_x zb zo zt p1 p2 p3 p4)) 1 6 nA := by
  refine vx_ofW (cc := cX2_set) (maxL := 7) (ret := (some .int)) (by decide) rfl ?_
  intro p e s m args below meth c s₁ B hml hnt hv
  obtain ⟨rfl, hP, hG, hz⟩ := hv
  have hx := B.exec
  have hb := B.bytes
  have hr := B.returns
  have hts := atoms_spec (ws := wsX2_set) B.pre
  have hown : s.vm.findClass RX2 = some m.cls := findClass_of_methodNamed B.named
  have hlocks := B.notSynchronized
  have hS : va_S nA s.heap s.heap [] := va_S.rf
  have hl := lv_entry ([.ref (ad 0), .int p1, .int p2, .int p3, .int p4]) (n := 7) (Nat.le_of_ble_eq_true rfl)
  rw [lg_entry_eq]
  generalize (lg_sl ([.ref (ad 0), .int p1, .int p2, .int p3, .int p4]) ++ List.replicate (7 - (lg_sl ([.ref (ad 0), .int p1, .int p2, .int p3, .int p4])).length) Slot.unset).toArray = ls at hl ⊢
  have hl : lv_has ls 7 [(0, .ref (ad 0)), (1, .int p1), (2, .int p2), (3, .int p3), (4, .int p4)] := hl
  have hP : va_P D vwCl (wZ cyI cyZ ad zb zo zt zm zu zr zl zf) s.heap := hP
  refine lv_aload_n hx hb dX2_set_0 rfl (lv_at hl 0 rfl) ?_
  refine lv_iload_n hx hb dX2_set_1 rfl (lv_at hl 1 rfl) ?_
  by_cases c_2_0 : p1 = 0
  · refine pr_r (va_runV (As := [.int p1]) (rest := []) ⟨hx, hb, hml, hown, hts⟩ (k_X2_tableToFill_0 l D cyI cyZ ad zb zo zt zm zu zr zl zf p1 c_2_0) (cwV 1 hts gX2_set_X2_tableToFill rfl rfl rfl (by decide +kernel) ⟨Nat.le_of_ble_eq_true rfl, Nat.le_of_ble_eq_true rfl⟩) (prV hG hP (ci := 2) rfl rfl rfl) rfl rfl hl.1 rfl (lv_room (Nat.le_of_ble_eq_true rfl)) dX2_set_2 ⟨Nat.zero_le _, Nat.zero_le _⟩) hS hP (fun H locs hP hS => ?_)
    refine lv_astore (lv' := [(5, .ref (ad 1)), (0, .ref (ad 0)), (1, .int p1), (2, .int p2), (3, .int p3), (4, .int p4)]) hx hb dX2_set_5 hl (by decide) rfl (fun ls hl => ?_)
    refine lv_aload hx hb dX2_set_7 (lv_at hl 0 rfl) ?_
    refine lv_iload_n hx hb dX2_set_9 rfl (lv_at hl 3 rfl) ?_
    by_cases c_10 : (f_X2_requireRowOf_x zb p2) = 0
    · refine pr_v (va_runS (As := [.ref (ad 1), .int p2]) (rest := []) ⟨hx, hb, hml, hown, hts⟩ (k_X2_requireRowOf l D cyI cyZ (ad 1) (ad 2) (ad 3) zb p2 c_10) (va_cwS 2 hts gX2_set_X2_requireRowOf rfl rfl rfl (by decide +kernel) ⟨Nat.le_of_ble_eq_true rfl, Nat.le_of_ble_eq_true rfl⟩) (prS hG (hP.sub (ws' := wT cyI (ad 1) (ad 2) (ad 3) zb) [1, 2, 3] rfl)) rfl rfl hl.1 rfl (lv_room (Nat.le_of_ble_eq_true rfl)) dX2_set_10 ⟨Nat.zero_le _, Nat.zero_le _⟩) hS hP (fun H locs hP hS => ?_)
      refine lv_aload hx hb dX2_set_13 (lv_at hl 0 rfl) ?_
      refine lv_iload_n hx hb dX2_set_15 rfl (lv_at hl 4 rfl) ?_
      by_cases c_16 : (f_X2_requireColumnOf_x zb p3) = 0
      · refine pr_v (va_runS (As := [.ref (ad 1), .int p3]) (rest := []) ⟨hx, hb, hml, hown, hts⟩ (k_X2_requireColumnOf l D cyI cyZ (ad 1) (ad 2) (ad 3) zb p3 c_16) (va_cwS 2 hts gX2_set_X2_requireColumnOf rfl rfl rfl (by decide +kernel) ⟨Nat.le_of_ble_eq_true rfl, Nat.le_of_ble_eq_true rfl⟩) (prS hG (hP.sub (ws' := wT cyI (ad 1) (ad 2) (ad 3) zb) [1, 2, 3] rfl)) rfl rfl hl.1 rfl (lv_room (Nat.le_of_ble_eq_true rfl)) dX2_set_16 ⟨Nat.zero_le _, Nat.zero_le _⟩) hS hP (fun H locs hP hS => ?_)
        refine lv_iload hx hb dX2_set_19 (lv_at hl 5 rfl) ?_
        refine lv_sipush (v := (-9999)) hx hb dX2_set_21 (by decide) ?_
        refine lv_icmp_lt (tgt := 35) hx hb dX2_set_24 (by decide) (fun c_24 => ?_) (fun c_24 => ?_)
        · have ef : f_X2_set_x zb zo zt p1 p2 p3 p4 = 2 := by rw [f_X2_set_x, if_pos c_2_0, if_pos c_10, if_pos c_16, if_pos c_24]
          obtain ⟨sa, hsa⟩ := hz.2.2.1 (110, "the value is out of range") (List.mem_of_getElem? (i := 9) rfl)
          exact vx_throwS (own := RX2) (cls := "java/lang/IllegalArgumentException") (text := "the value is out of range") (names := xnm) (ik := 108) (is := 110) (ic := 112) (A := nA) hx hb hlt hown (by decide) (by decide) (hts (.classLink RX2 108 "java/lang/IllegalArgumentException") (List.mem_of_getElem? (i := 1) rfl)) (hts (.initialized "java/lang/IllegalArgumentException") (List.mem_of_getElem? (i := 2) rfl)) hsa (vx_hat (fun w h => hts w (xin_X2_set_IA w h)) xb_IA (hz.xb (X := "java/lang/IllegalArgumentException") (by decide))) (xg_IA) hz.1 hz.2.1 hS (hl.1.trans hml.symm) dX2_set_35 dX2_set_38 dX2_set_39 dX2_set_41 dX2_set_44 (fun x h => (hnt x h).elim) (Nat.le_of_ble_eq_true rfl) (Nat.le_of_ble_eq_true rfl) (Nat.le_of_ble_eq_true rfl) (Nat.le_of_ble_eq_true rfl) hlocks (fun t _ hz1 hk1 => ⟨(), trivial, by rw [ef]; rfl, ⟨Nat.le_trans hS.1 hz1, fun q h1 h2 => (hk1 q (Nat.lt_of_lt_of_le h1 hS.1)).trans (hS.2.1 q h1 h2)⟩⟩) hS.2.2 (Nat.le_refl _) (Nat.le_refl _)
        · refine lv_iload hx hb dX2_set_27 (lv_at hl 5 rfl) ?_
          refine lv_sipush (v := 9999) hx hb dX2_set_29 (by decide) ?_
          refine lv_icmp_le (tgt := 45) hx hb dX2_set_32 (by decide) (fun c_32 => ?_) (fun c_32 => ?_)
          · refine lv_aload hx hb dX2_set_45 (lv_at hl 0 rfl) ?_
            refine lv_iload_n hx hb dX2_set_47 rfl (lv_at hl 3 rfl) ?_
            refine lv_iload_n hx hb dX2_set_48 rfl (lv_at hl 4 rfl) ?_
            refine pr_i (va_runVN (As := [.int p2, .int p3]) (rest := []) ⟨hx, hb, hml, hown, hts⟩ (k_X1_cellAt l D cyI cyZ (ad 1) (ad 2) (ad 3) zb p2 p3) ⟨va_cnB 2 hts gX2_set_X1_cellAt_n113 rfl rfl rfl (hG.2.1 (RX2, 113, yX1_cellAt, "TableSplice") (List.mem_of_getElem? (i := 18) rfl)) (hts (.initialized RX1) (List.mem_of_getElem? (i := 23) rfl)) (by decide +kernel) ⟨Nat.le_of_ble_eq_true rfl, Nat.le_of_ble_eq_true rfl⟩, hts (.instanceMethod yX1_cellAt) (List.mem_of_getElem? (i := 34) rfl), hts (.selects RX1 yX1_cellAt yX1_cellAt) (List.mem_of_getElem? (i := 35) rfl)⟩ (prV hG (hP.sub (ws' := wT cyI (ad 1) (ad 2) (ad 3) zb) [1, 2, 3] rfl) (ci := 1) rfl rfl rfl) rfl rfl hl.1 rfl (lv_room (Nat.le_of_ble_eq_true rfl)) dX2_set_49 ⟨Nat.zero_le _, Nat.zero_le _⟩) hS hP (fun H locs hP hS => ?_)
            refine lv_istore (lv' := [(6, .int (f_X1_cellAt zb p2 p3)), (5, .ref (ad 1)), (0, .ref (ad 0)), (1, .int p1), (2, .int p2), (3, .int p3), (4, .int p4)]) hx hb dX2_set_52 hl (by decide) rfl (fun ls hl => ?_)
            refine lv_aload hx hb dX2_set_54 (lv_at hl 1 rfl) ?_
            refine lv_iload_n hx hb dX2_set_56 rfl (lv_at hl 4 rfl) ?_
            refine lv_iload_n hx hb dX2_set_57 rfl (lv_at hl 5 rfl) ?_
            refine lv_iload hx hb dX2_set_58 (lv_at hl 6 rfl) ?_
            exact absurd (by rw [f_X2_set_x, if_pos c_2_0, if_pos c_10, if_pos c_16, if_neg c_24, if_pos c_32]) hx9
          · have ef : f_X2_set_x zb zo zt p1 p2 p3 p4 = 2 := by rw [f_X2_set_x, if_pos c_2_0, if_pos c_10, if_pos c_16, if_neg c_24, if_neg c_32]
            obtain ⟨sa, hsa⟩ := hz.2.2.1 (110, "the value is out of range") (List.mem_of_getElem? (i := 9) rfl)
            exact vx_throwS (own := RX2) (cls := "java/lang/IllegalArgumentException") (text := "the value is out of range") (names := xnm) (ik := 108) (is := 110) (ic := 112) (A := nA) hx hb hlt hown (by decide) (by decide) (hts (.classLink RX2 108 "java/lang/IllegalArgumentException") (List.mem_of_getElem? (i := 1) rfl)) (hts (.initialized "java/lang/IllegalArgumentException") (List.mem_of_getElem? (i := 2) rfl)) hsa (vx_hat (fun w h => hts w (xin_X2_set_IA w h)) xb_IA (hz.xb (X := "java/lang/IllegalArgumentException") (by decide))) (xg_IA) hz.1 hz.2.1 hS (hl.1.trans hml.symm) dX2_set_35 dX2_set_38 dX2_set_39 dX2_set_41 dX2_set_44 (fun x h => (hnt x h).elim) (Nat.le_of_ble_eq_true rfl) (Nat.le_of_ble_eq_true rfl) (Nat.le_of_ble_eq_true rfl) (Nat.le_of_ble_eq_true rfl) hlocks (fun t _ hz1 hk1 => ⟨(), trivial, by rw [ef]; rfl, ⟨Nat.le_trans hS.1 hz1, fun q h1 h2 => (hk1 q (Nat.lt_of_lt_of_le h1 hS.1)).trans (hS.2.1 q h1 h2)⟩⟩) hS.2.2 (Nat.le_refl _) (Nat.le_refl _)
      · have ef : f_X2_set_x zb zo zt p1 p2 p3 p4 = f_X2_requireColumnOf_x zb p3 := by rw [f_X2_set_x, if_pos c_2_0, if_pos c_10, if_neg c_16]
        exact vx_callv (vx_runS (As := [.ref (ad 1), .int p3]) (rest := []) ⟨hx, hb, hml, hown, hts⟩ (t_X2_requireColumnOf l hlt D cyI cyZ (ad 1) (ad 2) (ad 3) zb p3 c_16) (va_cwS 2 hts gX2_set_X2_requireColumnOf rfl rfl rfl (by decide +kernel) ⟨Nat.le_of_ble_eq_true rfl, Nat.le_of_ble_eq_true rfl⟩) (ptS hG (hz.kept hS) (hP.sub (ws' := wT cyI (ad 1) (ad 2) (ad 3) zb) [1, 2, 3] rfl)) rfl rfl hl.1 rfl (lv_room (Nat.le_of_ble_eq_true rfl)) dX2_set_16 ⟨Nat.le_of_ble_eq_true rfl, Nat.le_of_ble_eq_true rfl⟩) hS (fun _ _ h => h.elim) (fun _ h => h.elim) (fun _ _ h => h.elim) (fun E ce q9 u t H1 locs1 ht _ _ hE _ _ hS1 hce hcv hcl => vx_out (fun x h => (hnt x h).elim) hlocks hce hcv hcl (fun t9 h9 _ => ⟨(), trivial, hE.trans (congrArg xn ef.symm), hS1.F h9⟩) hS1.2.2 (Nat.le_refl _) (Nat.le_refl _)) (fun u t H1 locs1 ht hvm h hb9 hz1 hk1 hS1 => h.elim)
    · have ef : f_X2_set_x zb zo zt p1 p2 p3 p4 = f_X2_requireRowOf_x zb p2 := by rw [f_X2_set_x, if_pos c_2_0, if_neg c_10]
      exact vx_callv (vx_runS (As := [.ref (ad 1), .int p2]) (rest := []) ⟨hx, hb, hml, hown, hts⟩ (t_X2_requireRowOf l hlt D cyI cyZ (ad 1) (ad 2) (ad 3) zb p2 c_10) (va_cwS 2 hts gX2_set_X2_requireRowOf rfl rfl rfl (by decide +kernel) ⟨Nat.le_of_ble_eq_true rfl, Nat.le_of_ble_eq_true rfl⟩) (ptS hG (hz.kept hS) (hP.sub (ws' := wT cyI (ad 1) (ad 2) (ad 3) zb) [1, 2, 3] rfl)) rfl rfl hl.1 rfl (lv_room (Nat.le_of_ble_eq_true rfl)) dX2_set_10 ⟨Nat.le_of_ble_eq_true rfl, Nat.le_of_ble_eq_true rfl⟩) hS (fun _ _ h => h.elim) (fun _ h => h.elim) (fun _ _ h => h.elim) (fun E ce q9 u t H1 locs1 ht _ _ hE _ _ hS1 hce hcv hcl => vx_out (fun x h => (hnt x h).elim) hlocks hce hcv hcl (fun t9 h9 _ => ⟨(), trivial, hE.trans (congrArg xn ef.symm), hS1.F h9⟩) hS1.2.2 (Nat.le_refl _) (Nat.le_refl _)) (fun u t H1 locs1 ht hvm h hb9 hz1 hk1 hS1 => h.elim)
  · by_cases c_2_1 : p1 = 1
    · refine pr_r (va_runV (As := [.int p1]) (rest := []) ⟨hx, hb, hml, hown, hts⟩ (k_X2_tableToFill_1 l D cyI cyZ ad zb zo zt zm zu zr zl zf p1 c_2_1) (cwV 1 hts gX2_set_X2_tableToFill rfl rfl rfl (by decide +kernel) ⟨Nat.le_of_ble_eq_true rfl, Nat.le_of_ble_eq_true rfl⟩) (prV hG hP (ci := 2) rfl rfl rfl) rfl rfl hl.1 rfl (lv_room (Nat.le_of_ble_eq_true rfl)) dX2_set_2 ⟨Nat.zero_le _, Nat.zero_le _⟩) hS hP (fun H locs hP hS => ?_)
      refine lv_astore (lv' := [(5, .ref (ad 4)), (0, .ref (ad 0)), (1, .int p1), (2, .int p2), (3, .int p3), (4, .int p4)]) hx hb dX2_set_5 hl (by decide) rfl (fun ls hl => ?_)
      refine lv_aload hx hb dX2_set_7 (lv_at hl 0 rfl) ?_
      refine lv_iload_n hx hb dX2_set_9 rfl (lv_at hl 3 rfl) ?_
      by_cases c_10 : (f_X2_requireRowOf_x zo p2) = 0
      · refine pr_v (va_runS (As := [.ref (ad 4), .int p2]) (rest := []) ⟨hx, hb, hml, hown, hts⟩ (k_X2_requireRowOf l D cyI cyZ (ad 4) (ad 5) (ad 6) zo p2 c_10) (va_cwS 2 hts gX2_set_X2_requireRowOf rfl rfl rfl (by decide +kernel) ⟨Nat.le_of_ble_eq_true rfl, Nat.le_of_ble_eq_true rfl⟩) (prS hG (hP.sub (ws' := wT cyI (ad 4) (ad 5) (ad 6) zo) [4, 5, 6] rfl)) rfl rfl hl.1 rfl (lv_room (Nat.le_of_ble_eq_true rfl)) dX2_set_10 ⟨Nat.zero_le _, Nat.zero_le _⟩) hS hP (fun H locs hP hS => ?_)
        refine lv_aload hx hb dX2_set_13 (lv_at hl 0 rfl) ?_
        refine lv_iload_n hx hb dX2_set_15 rfl (lv_at hl 4 rfl) ?_
        by_cases c_16 : (f_X2_requireColumnOf_x zo p3) = 0
        · refine pr_v (va_runS (As := [.ref (ad 4), .int p3]) (rest := []) ⟨hx, hb, hml, hown, hts⟩ (k_X2_requireColumnOf l D cyI cyZ (ad 4) (ad 5) (ad 6) zo p3 c_16) (va_cwS 2 hts gX2_set_X2_requireColumnOf rfl rfl rfl (by decide +kernel) ⟨Nat.le_of_ble_eq_true rfl, Nat.le_of_ble_eq_true rfl⟩) (prS hG (hP.sub (ws' := wT cyI (ad 4) (ad 5) (ad 6) zo) [4, 5, 6] rfl)) rfl rfl hl.1 rfl (lv_room (Nat.le_of_ble_eq_true rfl)) dX2_set_16 ⟨Nat.zero_le _, Nat.zero_le _⟩) hS hP (fun H locs hP hS => ?_)
          refine lv_iload hx hb dX2_set_19 (lv_at hl 5 rfl) ?_
          refine lv_sipush (v := (-9999)) hx hb dX2_set_21 (by decide) ?_
          refine lv_icmp_lt (tgt := 35) hx hb dX2_set_24 (by decide) (fun c_24 => ?_) (fun c_24 => ?_)
          · have ef : f_X2_set_x zb zo zt p1 p2 p3 p4 = 2 := by rw [f_X2_set_x, if_neg c_2_0, if_pos c_2_1, if_pos c_10, if_pos c_16, if_pos c_24]
            obtain ⟨sa, hsa⟩ := hz.2.2.1 (110, "the value is out of range") (List.mem_of_getElem? (i := 9) rfl)
            exact vx_throwS (own := RX2) (cls := "java/lang/IllegalArgumentException") (text := "the value is out of range") (names := xnm) (ik := 108) (is := 110) (ic := 112) (A := nA) hx hb hlt hown (by decide) (by decide) (hts (.classLink RX2 108 "java/lang/IllegalArgumentException") (List.mem_of_getElem? (i := 1) rfl)) (hts (.initialized "java/lang/IllegalArgumentException") (List.mem_of_getElem? (i := 2) rfl)) hsa (vx_hat (fun w h => hts w (xin_X2_set_IA w h)) xb_IA (hz.xb (X := "java/lang/IllegalArgumentException") (by decide))) (xg_IA) hz.1 hz.2.1 hS (hl.1.trans hml.symm) dX2_set_35 dX2_set_38 dX2_set_39 dX2_set_41 dX2_set_44 (fun x h => (hnt x h).elim) (Nat.le_of_ble_eq_true rfl) (Nat.le_of_ble_eq_true rfl) (Nat.le_of_ble_eq_true rfl) (Nat.le_of_ble_eq_true rfl) hlocks (fun t _ hz1 hk1 => ⟨(), trivial, by rw [ef]; rfl, ⟨Nat.le_trans hS.1 hz1, fun q h1 h2 => (hk1 q (Nat.lt_of_lt_of_le h1 hS.1)).trans (hS.2.1 q h1 h2)⟩⟩) hS.2.2 (Nat.le_refl _) (Nat.le_refl _)
          · refine lv_iload hx hb dX2_set_27 (lv_at hl 5 rfl) ?_
            refine lv_sipush (v := 9999) hx hb dX2_set_29 (by decide) ?_
            refine lv_icmp_le (tgt := 45) hx hb dX2_set_32 (by decide) (fun c_32 => ?_) (fun c_32 => ?_)
            · refine lv_aload hx hb dX2_set_45 (lv_at hl 0 rfl) ?_
              refine lv_iload_n hx hb dX2_set_47 rfl (lv_at hl 3 rfl) ?_
              refine lv_iload_n hx hb dX2_set_48 rfl (lv_at hl 4 rfl) ?_
              refine pr_i (va_runVN (As := [.int p2, .int p3]) (rest := []) ⟨hx, hb, hml, hown, hts⟩ (k_X1_cellAt l D cyI cyZ (ad 4) (ad 5) (ad 6) zo p2 p3) ⟨va_cnB 2 hts gX2_set_X1_cellAt_n113 rfl rfl rfl (hG.2.1 (RX2, 113, yX1_cellAt, "TableSplice") (List.mem_of_getElem? (i := 18) rfl)) (hts (.initialized RX1) (List.mem_of_getElem? (i := 23) rfl)) (by decide +kernel) ⟨Nat.le_of_ble_eq_true rfl, Nat.le_of_ble_eq_true rfl⟩, hts (.instanceMethod yX1_cellAt) (List.mem_of_getElem? (i := 34) rfl), hts (.selects RX1 yX1_cellAt yX1_cellAt) (List.mem_of_getElem? (i := 35) rfl)⟩ (prV hG (hP.sub (ws' := wT cyI (ad 4) (ad 5) (ad 6) zo) [4, 5, 6] rfl) (ci := 1) rfl rfl rfl) rfl rfl hl.1 rfl (lv_room (Nat.le_of_ble_eq_true rfl)) dX2_set_49 ⟨Nat.zero_le _, Nat.zero_le _⟩) hS hP (fun H locs hP hS => ?_)
              refine lv_istore (lv' := [(6, .int (f_X1_cellAt zo p2 p3)), (5, .ref (ad 4)), (0, .ref (ad 0)), (1, .int p1), (2, .int p2), (3, .int p3), (4, .int p4)]) hx hb dX2_set_52 hl (by decide) rfl (fun ls hl => ?_)
              refine lv_aload hx hb dX2_set_54 (lv_at hl 1 rfl) ?_
              refine lv_iload_n hx hb dX2_set_56 rfl (lv_at hl 4 rfl) ?_
              refine lv_iload_n hx hb dX2_set_57 rfl (lv_at hl 5 rfl) ?_
              refine lv_iload hx hb dX2_set_58 (lv_at hl 6 rfl) ?_
              exact absurd (by rw [f_X2_set_x, if_neg c_2_0, if_pos c_2_1, if_pos c_10, if_pos c_16, if_neg c_24, if_pos c_32]) hx9
            · have ef : f_X2_set_x zb zo zt p1 p2 p3 p4 = 2 := by rw [f_X2_set_x, if_neg c_2_0, if_pos c_2_1, if_pos c_10, if_pos c_16, if_neg c_24, if_neg c_32]
              obtain ⟨sa, hsa⟩ := hz.2.2.1 (110, "the value is out of range") (List.mem_of_getElem? (i := 9) rfl)
              exact vx_throwS (own := RX2) (cls := "java/lang/IllegalArgumentException") (text := "the value is out of range") (names := xnm) (ik := 108) (is := 110) (ic := 112) (A := nA) hx hb hlt hown (by decide) (by decide) (hts (.classLink RX2 108 "java/lang/IllegalArgumentException") (List.mem_of_getElem? (i := 1) rfl)) (hts (.initialized "java/lang/IllegalArgumentException") (List.mem_of_getElem? (i := 2) rfl)) hsa (vx_hat (fun w h => hts w (xin_X2_set_IA w h)) xb_IA (hz.xb (X := "java/lang/IllegalArgumentException") (by decide))) (xg_IA) hz.1 hz.2.1 hS (hl.1.trans hml.symm) dX2_set_35 dX2_set_38 dX2_set_39 dX2_set_41 dX2_set_44 (fun x h => (hnt x h).elim) (Nat.le_of_ble_eq_true rfl) (Nat.le_of_ble_eq_true rfl) (Nat.le_of_ble_eq_true rfl) (Nat.le_of_ble_eq_true rfl) hlocks (fun t _ hz1 hk1 => ⟨(), trivial, by rw [ef]; rfl, ⟨Nat.le_trans hS.1 hz1, fun q h1 h2 => (hk1 q (Nat.lt_of_lt_of_le h1 hS.1)).trans (hS.2.1 q h1 h2)⟩⟩) hS.2.2 (Nat.le_refl _) (Nat.le_refl _)
        · have ef : f_X2_set_x zb zo zt p1 p2 p3 p4 = f_X2_requireColumnOf_x zo p3 := by rw [f_X2_set_x, if_neg c_2_0, if_pos c_2_1, if_pos c_10, if_neg c_16]
          exact vx_callv (vx_runS (As := [.ref (ad 4), .int p3]) (rest := []) ⟨hx, hb, hml, hown, hts⟩ (t_X2_requireColumnOf l hlt D cyI cyZ (ad 4) (ad 5) (ad 6) zo p3 c_16) (va_cwS 2 hts gX2_set_X2_requireColumnOf rfl rfl rfl (by decide +kernel) ⟨Nat.le_of_ble_eq_true rfl, Nat.le_of_ble_eq_true rfl⟩) (ptS hG (hz.kept hS) (hP.sub (ws' := wT cyI (ad 4) (ad 5) (ad 6) zo) [4, 5, 6] rfl)) rfl rfl hl.1 rfl (lv_room (Nat.le_of_ble_eq_true rfl)) dX2_set_16 ⟨Nat.le_of_ble_eq_true rfl, Nat.le_of_ble_eq_true rfl⟩) hS (fun _ _ h => h.elim) (fun _ h => h.elim) (fun _ _ h => h.elim) (fun E ce q9 u t H1 locs1 ht _ _ hE _ _ hS1 hce hcv hcl => vx_out (fun x h => (hnt x h).elim) hlocks hce hcv hcl (fun t9 h9 _ => ⟨(), trivial, hE.trans (congrArg xn ef.symm), hS1.F h9⟩) hS1.2.2 (Nat.le_refl _) (Nat.le_refl _)) (fun u t H1 locs1 ht hvm h hb9 hz1 hk1 hS1 => h.elim)
      · have ef : f_X2_set_x zb zo zt p1 p2 p3 p4 = f_X2_requireRowOf_x zo p2 := by rw [f_X2_set_x, if_neg c_2_0, if_pos c_2_1, if_neg c_10]
        exact vx_callv (vx_runS (As := [.ref (ad 4), .int p2]) (rest := []) ⟨hx, hb, hml, hown, hts⟩ (t_X2_requireRowOf l hlt D cyI cyZ (ad 4) (ad 5) (ad 6) zo p2 c_10) (va_cwS 2 hts gX2_set_X2_requireRowOf rfl rfl rfl (by decide +kernel) ⟨Nat.le_of_ble_eq_true rfl, Nat.le_of_ble_eq_true rfl⟩) (ptS hG (hz.kept hS) (hP.sub (ws' := wT cyI (ad 4) (ad 5) (ad 6) zo) [4, 5, 6] rfl)) rfl rfl hl.1 rfl (lv_room (Nat.le_of_ble_eq_true rfl)) dX2_set_10 ⟨Nat.le_of_ble_eq_true rfl, Nat.le_of_ble_eq_true rfl⟩) hS (fun _ _ h => h.elim) (fun _ h => h.elim) (fun _ _ h => h.elim) (fun E ce q9 u t H1 locs1 ht _ _ hE _ _ hS1 hce hcv hcl => vx_out (fun x h => (hnt x h).elim) hlocks hce hcv hcl (fun t9 h9 _ => ⟨(), trivial, hE.trans (congrArg xn ef.symm), hS1.F h9⟩) hS1.2.2 (Nat.le_refl _) (Nat.le_refl _)) (fun u t H1 locs1 ht hvm h hb9 hz1 hk1 hS1 => h.elim)
    · by_cases c_2_2 : p1 = 2
      · refine pr_r (va_runV (As := [.int p1]) (rest := []) ⟨hx, hb, hml, hown, hts⟩ (k_X2_tableToFill_2 l D cyI cyZ ad zb zo zt zm zu zr zl zf p1 c_2_2) (cwV 1 hts gX2_set_X2_tableToFill rfl rfl rfl (by decide +kernel) ⟨Nat.le_of_ble_eq_true rfl, Nat.le_of_ble_eq_true rfl⟩) (prV hG hP (ci := 2) rfl rfl rfl) rfl rfl hl.1 rfl (lv_room (Nat.le_of_ble_eq_true rfl)) dX2_set_2 ⟨Nat.zero_le _, Nat.zero_le _⟩) hS hP (fun H locs hP hS => ?_)
        refine lv_astore (lv' := [(5, .ref (ad 7)), (0, .ref (ad 0)), (1, .int p1), (2, .int p2), (3, .int p3), (4, .int p4)]) hx hb dX2_set_5 hl (by decide) rfl (fun ls hl => ?_)
        refine lv_aload hx hb dX2_set_7 (lv_at hl 0 rfl) ?_
        refine lv_iload_n hx hb dX2_set_9 rfl (lv_at hl 3 rfl) ?_
        by_cases c_10 : (f_X2_requireRowOf_x zt p2) = 0
        · refine pr_v (va_runS (As := [.ref (ad 7), .int p2]) (rest := []) ⟨hx, hb, hml, hown, hts⟩ (k_X2_requireRowOf l D cyI cyZ (ad 7) (ad 8) (ad 9) zt p2 c_10) (va_cwS 2 hts gX2_set_X2_requireRowOf rfl rfl rfl (by decide +kernel) ⟨Nat.le_of_ble_eq_true rfl, Nat.le_of_ble_eq_true rfl⟩) (prS hG (hP.sub (ws' := wT cyI (ad 7) (ad 8) (ad 9) zt) [7, 8, 9] rfl)) rfl rfl hl.1 rfl (lv_room (Nat.le_of_ble_eq_true rfl)) dX2_set_10 ⟨Nat.zero_le _, Nat.zero_le _⟩) hS hP (fun H locs hP hS => ?_)
          refine lv_aload hx hb dX2_set_13 (lv_at hl 0 rfl) ?_
          refine lv_iload_n hx hb dX2_set_15 rfl (lv_at hl 4 rfl) ?_
          by_cases c_16 : (f_X2_requireColumnOf_x zt p3) = 0
          · refine pr_v (va_runS (As := [.ref (ad 7), .int p3]) (rest := []) ⟨hx, hb, hml, hown, hts⟩ (k_X2_requireColumnOf l D cyI cyZ (ad 7) (ad 8) (ad 9) zt p3 c_16) (va_cwS 2 hts gX2_set_X2_requireColumnOf rfl rfl rfl (by decide +kernel) ⟨Nat.le_of_ble_eq_true rfl, Nat.le_of_ble_eq_true rfl⟩) (prS hG (hP.sub (ws' := wT cyI (ad 7) (ad 8) (ad 9) zt) [7, 8, 9] rfl)) rfl rfl hl.1 rfl (lv_room (Nat.le_of_ble_eq_true rfl)) dX2_set_16 ⟨Nat.zero_le _, Nat.zero_le _⟩) hS hP (fun H locs hP hS => ?_)
            refine lv_iload hx hb dX2_set_19 (lv_at hl 5 rfl) ?_
            refine lv_sipush (v := (-9999)) hx hb dX2_set_21 (by decide) ?_
            refine lv_icmp_lt (tgt := 35) hx hb dX2_set_24 (by decide) (fun c_24 => ?_) (fun c_24 => ?_)
            · have ef : f_X2_set_x zb zo zt p1 p2 p3 p4 = 2 := by rw [f_X2_set_x, if_neg c_2_0, if_neg c_2_1, if_pos c_2_2, if_pos c_10, if_pos c_16, if_pos c_24]
              obtain ⟨sa, hsa⟩ := hz.2.2.1 (110, "the value is out of range") (List.mem_of_getElem? (i := 9) rfl)
              exact vx_throwS (own := RX2) (cls := "java/lang/IllegalArgumentException") (text := "the value is out of range") (names := xnm) (ik := 108) (is := 110) (ic := 112) (A := nA) hx hb hlt hown (by decide) (by decide) (hts (.classLink RX2 108 "java/lang/IllegalArgumentException") (List.mem_of_getElem? (i := 1) rfl)) (hts (.initialized "java/lang/IllegalArgumentException") (List.mem_of_getElem? (i := 2) rfl)) hsa (vx_hat (fun w h => hts w (xin_X2_set_IA w h)) xb_IA (hz.xb (X := "java/lang/IllegalArgumentException") (by decide))) (xg_IA) hz.1 hz.2.1 hS (hl.1.trans hml.symm) dX2_set_35 dX2_set_38 dX2_set_39 dX2_set_41 dX2_set_44 (fun x h => (hnt x h).elim) (Nat.le_of_ble_eq_true rfl) (Nat.le_of_ble_eq_true rfl) (Nat.le_of_ble_eq_true rfl) (Nat.le_of_ble_eq_true rfl) hlocks (fun t _ hz1 hk1 => ⟨(), trivial, by rw [ef]; rfl, ⟨Nat.le_trans hS.1 hz1, fun q h1 h2 => (hk1 q (Nat.lt_of_lt_of_le h1 hS.1)).trans (hS.2.1 q h1 h2)⟩⟩) hS.2.2 (Nat.le_refl _) (Nat.le_refl _)
            · refine lv_iload hx hb dX2_set_27 (lv_at hl 5 rfl) ?_
              refine lv_sipush (v := 9999) hx hb dX2_set_29 (by decide) ?_
              refine lv_icmp_le (tgt := 45) hx hb dX2_set_32 (by decide) (fun c_32 => ?_) (fun c_32 => ?_)
              · refine lv_aload hx hb dX2_set_45 (lv_at hl 0 rfl) ?_
                refine lv_iload_n hx hb dX2_set_47 rfl (lv_at hl 3 rfl) ?_
                refine lv_iload_n hx hb dX2_set_48 rfl (lv_at hl 4 rfl) ?_
                refine pr_i (va_runVN (As := [.int p2, .int p3]) (rest := []) ⟨hx, hb, hml, hown, hts⟩ (k_X1_cellAt l D cyI cyZ (ad 7) (ad 8) (ad 9) zt p2 p3) ⟨va_cnB 2 hts gX2_set_X1_cellAt_n113 rfl rfl rfl (hG.2.1 (RX2, 113, yX1_cellAt, "TableSplice") (List.mem_of_getElem? (i := 18) rfl)) (hts (.initialized RX1) (List.mem_of_getElem? (i := 23) rfl)) (by decide +kernel) ⟨Nat.le_of_ble_eq_true rfl, Nat.le_of_ble_eq_true rfl⟩, hts (.instanceMethod yX1_cellAt) (List.mem_of_getElem? (i := 34) rfl), hts (.selects RX1 yX1_cellAt yX1_cellAt) (List.mem_of_getElem? (i := 35) rfl)⟩ (prV hG (hP.sub (ws' := wT cyI (ad 7) (ad 8) (ad 9) zt) [7, 8, 9] rfl) (ci := 1) rfl rfl rfl) rfl rfl hl.1 rfl (lv_room (Nat.le_of_ble_eq_true rfl)) dX2_set_49 ⟨Nat.zero_le _, Nat.zero_le _⟩) hS hP (fun H locs hP hS => ?_)
                refine lv_istore (lv' := [(6, .int (f_X1_cellAt zt p2 p3)), (5, .ref (ad 7)), (0, .ref (ad 0)), (1, .int p1), (2, .int p2), (3, .int p3), (4, .int p4)]) hx hb dX2_set_52 hl (by decide) rfl (fun ls hl => ?_)
                refine lv_aload hx hb dX2_set_54 (lv_at hl 1 rfl) ?_
                refine lv_iload_n hx hb dX2_set_56 rfl (lv_at hl 4 rfl) ?_
                refine lv_iload_n hx hb dX2_set_57 rfl (lv_at hl 5 rfl) ?_
                refine lv_iload hx hb dX2_set_58 (lv_at hl 6 rfl) ?_
                exact absurd (by rw [f_X2_set_x, if_neg c_2_0, if_neg c_2_1, if_pos c_2_2, if_pos c_10, if_pos c_16, if_neg c_24, if_pos c_32]) hx9
              · have ef : f_X2_set_x zb zo zt p1 p2 p3 p4 = 2 := by rw [f_X2_set_x, if_neg c_2_0, if_neg c_2_1, if_pos c_2_2, if_pos c_10, if_pos c_16, if_neg c_24, if_neg c_32]
                obtain ⟨sa, hsa⟩ := hz.2.2.1 (110, "the value is out of range") (List.mem_of_getElem? (i := 9) rfl)
                exact vx_throwS (own := RX2) (cls := "java/lang/IllegalArgumentException") (text := "the value is out of range") (names := xnm) (ik := 108) (is := 110) (ic := 112) (A := nA) hx hb hlt hown (by decide) (by decide) (hts (.classLink RX2 108 "java/lang/IllegalArgumentException") (List.mem_of_getElem? (i := 1) rfl)) (hts (.initialized "java/lang/IllegalArgumentException") (List.mem_of_getElem? (i := 2) rfl)) hsa (vx_hat (fun w h => hts w (xin_X2_set_IA w h)) xb_IA (hz.xb (X := "java/lang/IllegalArgumentException") (by decide))) (xg_IA) hz.1 hz.2.1 hS (hl.1.trans hml.symm) dX2_set_35 dX2_set_38 dX2_set_39 dX2_set_41 dX2_set_44 (fun x h => (hnt x h).elim) (Nat.le_of_ble_eq_true rfl) (Nat.le_of_ble_eq_true rfl) (Nat.le_of_ble_eq_true rfl) (Nat.le_of_ble_eq_true rfl) hlocks (fun t _ hz1 hk1 => ⟨(), trivial, by rw [ef]; rfl, ⟨Nat.le_trans hS.1 hz1, fun q h1 h2 => (hk1 q (Nat.lt_of_lt_of_le h1 hS.1)).trans (hS.2.1 q h1 h2)⟩⟩) hS.2.2 (Nat.le_refl _) (Nat.le_refl _)
          · have ef : f_X2_set_x zb zo zt p1 p2 p3 p4 = f_X2_requireColumnOf_x zt p3 := by rw [f_X2_set_x, if_neg c_2_0, if_neg c_2_1, if_pos c_2_2, if_pos c_10, if_neg c_16]
            exact vx_callv (vx_runS (As := [.ref (ad 7), .int p3]) (rest := []) ⟨hx, hb, hml, hown, hts⟩ (t_X2_requireColumnOf l hlt D cyI cyZ (ad 7) (ad 8) (ad 9) zt p3 c_16) (va_cwS 2 hts gX2_set_X2_requireColumnOf rfl rfl rfl (by decide +kernel) ⟨Nat.le_of_ble_eq_true rfl, Nat.le_of_ble_eq_true rfl⟩) (ptS hG (hz.kept hS) (hP.sub (ws' := wT cyI (ad 7) (ad 8) (ad 9) zt) [7, 8, 9] rfl)) rfl rfl hl.1 rfl (lv_room (Nat.le_of_ble_eq_true rfl)) dX2_set_16 ⟨Nat.le_of_ble_eq_true rfl, Nat.le_of_ble_eq_true rfl⟩) hS (fun _ _ h => h.elim) (fun _ h => h.elim) (fun _ _ h => h.elim) (fun E ce q9 u t H1 locs1 ht _ _ hE _ _ hS1 hce hcv hcl => vx_out (fun x h => (hnt x h).elim) hlocks hce hcv hcl (fun t9 h9 _ => ⟨(), trivial, hE.trans (congrArg xn ef.symm), hS1.F h9⟩) hS1.2.2 (Nat.le_refl _) (Nat.le_refl _)) (fun u t H1 locs1 ht hvm h hb9 hz1 hk1 hS1 => h.elim)
        · have ef : f_X2_set_x zb zo zt p1 p2 p3 p4 = f_X2_requireRowOf_x zt p2 := by rw [f_X2_set_x, if_neg c_2_0, if_neg c_2_1, if_pos c_2_2, if_neg c_10]
          exact vx_callv (vx_runS (As := [.ref (ad 7), .int p2]) (rest := []) ⟨hx, hb, hml, hown, hts⟩ (t_X2_requireRowOf l hlt D cyI cyZ (ad 7) (ad 8) (ad 9) zt p2 c_10) (va_cwS 2 hts gX2_set_X2_requireRowOf rfl rfl rfl (by decide +kernel) ⟨Nat.le_of_ble_eq_true rfl, Nat.le_of_ble_eq_true rfl⟩) (ptS hG (hz.kept hS) (hP.sub (ws' := wT cyI (ad 7) (ad 8) (ad 9) zt) [7, 8, 9] rfl)) rfl rfl hl.1 rfl (lv_room (Nat.le_of_ble_eq_true rfl)) dX2_set_10 ⟨Nat.le_of_ble_eq_true rfl, Nat.le_of_ble_eq_true rfl⟩) hS (fun _ _ h => h.elim) (fun _ h => h.elim) (fun _ _ h => h.elim) (fun E ce q9 u t H1 locs1 ht _ _ hE _ _ hS1 hce hcv hcl => vx_out (fun x h => (hnt x h).elim) hlocks hce hcv hcl (fun t9 h9 _ => ⟨(), trivial, hE.trans (congrArg xn ef.symm), hS1.F h9⟩) hS1.2.2 (Nat.le_refl _) (Nat.le_refl _)) (fun u t H1 locs1 ht hvm h hb9 hz1 hk1 hS1 => h.elim)
      · have ef : f_X2_set_x zb zo zt p1 p2 p3 p4 = f_X2_tableToFill_x p1 := (by rw [f_X2_set_x, if_neg c_2_0, if_neg c_2_1, if_neg c_2_2] : f_X2_set_x zb zo zt p1 p2 p3 p4 = 1).trans (tf_x c_2_0 c_2_1 c_2_2).symm
        exact vx_callr (vx_runV (As := [.int p1]) (rest := []) ⟨hx, hb, hml, hown, hts⟩ (t_X2_tableToFill l hlt D cyI cyZ ad zb zo zt zm zu zr zl zf p1 (by rw [tf_x c_2_0 c_2_1 c_2_2]; decide)) (cwV 1 hts gX2_set_X2_tableToFill rfl rfl rfl (by decide +kernel) ⟨Nat.le_of_ble_eq_true rfl, Nat.le_of_ble_eq_true rfl⟩) (ptV hG (hz.kept hS) hP (ci := 2) rfl rfl rfl) rfl rfl hl.1 rfl (lv_room (Nat.le_of_ble_eq_true rfl)) dX2_set_2 ⟨Nat.le_of_ble_eq_true rfl, Nat.le_of_ble_eq_true rfl⟩) hS (fun _ _ h => h.elim) (fun _ h => h.elim) (fun _ _ h => h.elim) (fun E ce q9 u t H1 locs1 ht _ _ hE _ _ hS1 hce hcv hcl => vx_out (fun x h => (hnt x h).elim) hlocks hce hcv hcl (fun t9 h9 _ => ⟨(), trivial, hE.trans (congrArg xn ef.symm), hS1.F h9⟩) hS1.2.2 (Nat.le_refl _) (Nat.le_refl _)) (fun u ra t H1 locs1 ht hvm h hb9 hz1 hk1 hS1 => h.elim)
def f_X2_setRule (zu : Nat → Int32) (zf : Int32) (p1 : Int32) (p2 : Int32) : Int32 × (Nat → Int32) × Int32 := if (f_X2_requireColumnNumber_x p1) = 0 then (if p2 < 0 then ((0, zu, zf)) else (if p2 ≤ 3 then ((zu (p1).toNatClampNeg, (upd zu (p1).toNatClampNeg p2), 0)) else ((0, zu, zf)))) else ((0, zu, zf))
theorem uin_X2_setRule_X2 : ∀ w ∈ wsX20, w ∈ wsX2_setRule := fun _ h => List.mem_cons_of_mem _ (List.mem_append_left _ (List.mem_append_left _ (List.mem_append_right _ h)))
def f_X2_setRule_x (p1 : Int32) (p2 : Int32) : Nat := if (f_X2_requireColumnNumber_x p1) = 0 then (if p2 < 0 then 2 else (if p2 ≤ 3 then 0 else 2)) else (f_X2_requireColumnNumber_x p1)
theorem xin_X2_setRule_IA : ∀ w ∈ (vx_atS RX2 112 "java/lang/IllegalArgumentException" ["java/lang/RuntimeException", "java/lang/Exception"]).filter goodWord, w ∈ wsX2_setRule := fun _ h => List.mem_cons_of_mem _ (List.mem_append_left _ (List.mem_append_right _ h))
theorem xin_X2_setRule_IO : ∀ w ∈ (vx_atS RX2 224 "java/lang/IndexOutOfBoundsException" ["java/lang/RuntimeException", "java/lang/Exception"]).filter goodWord, w ∈ wsX2_setRule := fun _ h => List.mem_cons_of_mem _ (List.mem_append_right _ h)
set_option maxHeartbeats 4000000 in
set_option maxRecDepth 100000 in
theorem k_X2_setRule (l : Launch) (D : va_G) (cyI cyZ : ClassId) (ad : Nat → Nat) (zb : Tr) (zo : Tr) (zt : Tr) (zm : Tr) (zu : Nat → Int32) (zr : Nat → Int32) (zl : Lr) (zf : Int32) (p1 : Int32) (p2 : Int32) (A : Nat → Prop) (sz : Nat) (hAe : A = va_A (wZ cyI cyZ ad zb zo zt zm zu zr zl zf) sz) (hx9 : f_X2_setRule_x p1 p2 = 0) : Met l yX2_setRule wsX2_setRule ({ frames := 2, cells := 0, slots := 0, locals := 40 } : Room) (pcM D cyI cyZ sz [.ref (ad 0), .int p1, .int p2] (wZ cyI cyZ ad zb zo zt zm zu zr zl zf)) (mI D A (wZ cyI cyZ ad zb zo zt zm (f_X2_setRule zu zf p1 p2).2.1 zr zl (f_X2_setRule zu zf p1 p2).2.2) (f_X2_setRule zu zf p1 p2).1) 0 0 A := by
  refine Met.ofW (cc := cX2_setRule) (maxL := 4) (ret := (some .int)) (by decide) rfl ?_
  intro p e s m args below meth c s₁ B hml hv
  obtain ⟨rfl, hsz, hP, hG, hD0⟩ := hv
  have hx := B.exec
  have hb := B.bytes
  have hr := B.returns
  have hts := atoms_spec (ws := wsX2_setRule) B.pre
  have hown : s.vm.findClass RX2 = some m.cls := findClass_of_methodNamed B.named
  have hlocks := B.notSynchronized
  subst hsz
  have hD : va_D A (wZ cyI cyZ ad zb zo zt zm zu zr zl zf) := by rw [hAe]; exact hD0.self
  have hA : ∀ q : Nat, s.heap.size ≤ q → A q := fun q h => by rw [hAe]; exact Or.inr h
  clear hAe hD0
  have hS : va_S nA s.heap s.heap [] := va_S.rf
  have hl := lv_entry ([.ref (ad 0), .int p1, .int p2]) (n := 4) (Nat.le_of_ble_eq_true rfl)
  rw [lg_entry_eq]
  generalize (lg_sl ([.ref (ad 0), .int p1, .int p2]) ++ List.replicate (4 - (lg_sl ([.ref (ad 0), .int p1, .int p2])).length) Slot.unset).toArray = ls at hl ⊢
  have hl : lv_has ls 4 [(0, .ref (ad 0)), (1, .int p1), (2, .int p2)] := hl
  have hP : va_P D vwCl (wZ cyI cyZ ad zb zo zt zm zu zr zl zf) s.heap := hP
  refine lv_iload_n hx hb dX2_setRule_0 rfl (lv_at hl 1 rfl) ?_
  by_cases c_1 : (f_X2_requireColumnNumber_x p1) = 0
  · refine pr_v (va_runS (As := [.int p1]) (rest := []) ⟨hx, hb, hml, hown, hts⟩ (k_X2_requireColumnNumber l D cyI cyZ p1 c_1) (va_cwS 1 hts gX2_setRule_X2_requireColumnNumber rfl rfl rfl (by decide +kernel) ⟨Nat.le_of_ble_eq_true rfl, Nat.le_of_ble_eq_true rfl⟩) (prS hG (hP.sub (ws' := []) [] rfl)) rfl rfl hl.1 rfl (lv_room (Nat.le_of_ble_eq_true rfl)) dX2_setRule_1 ⟨Nat.zero_le _, Nat.zero_le _⟩) hS hP (fun H locs hP hS => ?_)
    refine lv_iload_n hx hb dX2_setRule_4 rfl (lv_at hl 2 rfl) ?_
    refine lv_if_lt (tgt := 13) hx hb dX2_setRule_5 (by decide) (fun c_5 => ?_) (fun c_5 => ?_)
    · exact absurd hx9 (by rw [f_X2_setRule_x, if_pos c_1, if_pos c_5]; decide)
    · refine lv_iload_n hx hb dX2_setRule_8 rfl (lv_at hl 2 rfl) ?_
      refine lv_iconst (v := 3) hx hb dX2_setRule_9 (by decide) ?_
      refine lv_icmp_le (tgt := 23) hx hb dX2_setRule_10 (by decide) (fun c_10 => ?_) (fun c_10 => ?_)
      · refine lv_aload_n hx hb dX2_setRule_23 rfl (lv_at hl 0 rfl) ?_
        refine va_get (D := D) (ci := 2) (v := .ref (ad 13)) (C := RX2) (T := TX2) (N := 8) hx hb hts uin_X2_setRule_X2 hown hG.1 hP 0 rfl rfl 4 (by decide) (hts (.fieldLink RX2 25 "TableSplice" "rules" "[I") (List.mem_of_getElem? (i := 3) rfl)) (fun _ h9 => h9) rfl dX2_setRule_24 ?_
        refine lv_iload_n hx hb dX2_setRule_27 rfl (lv_at hl 1 rfl) ?_
        refine va_iald hx hb hG.1 hP 13 0 rfl rfl (in_reqcol c_1) dX2_setRule_28 ?_
        refine lv_istore_n (lv' := [(3, .int (zu (p1).toNatClampNeg)), (0, .ref (ad 0)), (1, .int p1), (2, .int p2)]) hx hb dX2_setRule_29 rfl hl (by decide) rfl (fun ls hl => ?_)
        refine lv_aload_n hx hb dX2_setRule_30 rfl (lv_at hl 1 rfl) ?_
        refine va_get (D := D) (ci := 2) (v := .ref (ad 13)) (C := RX2) (T := TX2) (N := 8) hx hb hts uin_X2_setRule_X2 hown hG.1 hP 0 rfl rfl 4 (by decide) (hts (.fieldLink RX2 25 "TableSplice" "rules" "[I") (List.mem_of_getElem? (i := 3) rfl)) (fun _ h9 => h9) rfl dX2_setRule_31 ?_
        refine lv_iload_n hx hb dX2_setRule_34 rfl (lv_at hl 2 rfl) ?_
        refine lv_iload_n hx hb dX2_setRule_35 rfl (lv_at hl 3 rfl) ?_
        have hS := sw_n (B := A) hS
        refine va_iast hx hb hG.1 hP hD hS 13 0 rfl rfl (in_reqcol c_1) dX2_setRule_36 (fun H locs hP hD hS => ?_)
        have hP : va_P D vwCl (wZ cyI cyZ ad zb zo zt zm (upd zu (p1).toNatClampNeg p2) zr zl zf) H := hP
        have hD : va_D A (wZ cyI cyZ ad zb zo zt zm (upd zu (p1).toNatClampNeg p2) zr zl zf) := hD
        refine lv_aload_n hx hb dX2_setRule_37 rfl (lv_at hl 1 rfl) ?_
        refine lv_iconst (v := 0) hx hb dX2_setRule_38 (by decide) ?_
        refine va_put (D := D) (ci := 2) (v := .int 0) (ty := .boolean) (C := RX2) (T := TX2) (N := 8) hx hb hts uin_X2_setRule_X2 tyX2 tyX2_ok nmX2 hown hG.1 hP hD hS 0 rfl rfl 7 (by decide) (hts (.fieldLink RX2 40 "TableSplice" "fresh" "Z") (List.mem_of_getElem? (i := 4) rfl)) (fun _ h9 => h9) rfl (by decide +kernel) rfl rfl (Nat.le_of_ble_eq_true rfl) dX2_setRule_39 (fun H locs hP hD hS => ?_)
        have hP : va_P D vwCl (wZ cyI cyZ ad zb zo zt zm (upd zu (p1).toNatClampNeg p2) zr zl 0) H := hP
        have hD : va_D A (wZ cyI cyZ ad zb zo zt zm (upd zu (p1).toNatClampNeg p2) zr zl 0) := hD
        refine lv_iload_n hx hb dX2_setRule_42 rfl (lv_at hl 0 rfl) ?_
        have ef : f_X2_setRule zu zf p1 p2 = (zu (p1).toNatClampNeg, (upd zu (p1).toNatClampNeg p2), 0) := by rw [f_X2_setRule, if_pos c_1, if_neg c_5, if_pos c_10]
        exact W.iret (v := zu (p1).toNatClampNeg) hx hb hr (fun t ht hW => ⟨⟨zu (p1).toNatClampNeg, (), rfl, by rw [ef], by rw [ht, ef]; exact hP, by rw [ef]; exact hD⟩, hS.F ht⟩) hS.2.2 dX2_setRule_43
      · exact absurd hx9 (by rw [f_X2_setRule_x, if_pos c_1, if_neg c_5, if_neg c_10]; decide)
  · exact absurd hx9 (by rw [f_X2_setRule_x, if_neg c_1]; exact c_1)
set_option maxHeartbeats 4000000 in
set_option maxRecDepth 100000 in
theorem t_X2_setRule (l : Launch) (hlt : l.stackTraces = false) (D : va_G) (cyI cyZ : ClassId) (ad : Nat → Nat) (zb : Tr) (zo : Tr) (zt : Tr) (zm : Tr) (zu : Nat → Int32) (zr : Nat → Int32) (zl : Lr) (zf : Int32) (p1 : Int32) (p2 : Int32) (hx9 : ¬ f_X2_setRule_x p1 p2 = 0) : vx_Met l yX2_setRule wsX2_setRule ({ frames := 7, cells := 1, slots := 6, locals := 120 } : Room) (pcT D cyI cyZ [.ref (ad 0), .int p1, .int p2] (wZ cyI cyZ ad zb zo zt zm zu zr zl zf)) qFi (xX (f_X2_setRule_x p1 p2)) 1 6 nA := by
  refine vx_ofW (cc := cX2_setRule) (maxL := 4) (ret := (some .int)) (by decide) rfl ?_
  intro p e s m args below meth c s₁ B hml hnt hv
  obtain ⟨rfl, hP, hG, hz⟩ := hv
  have hx := B.exec
  have hb := B.bytes
  have hr := B.returns
  have hts := atoms_spec (ws := wsX2_setRule) B.pre
  have hown : s.vm.findClass RX2 = some m.cls := findClass_of_methodNamed B.named
  have hlocks := B.notSynchronized
  have hS : va_S nA s.heap s.heap [] := va_S.rf
  have hl := lv_entry ([.ref (ad 0), .int p1, .int p2]) (n := 4) (Nat.le_of_ble_eq_true rfl)
  rw [lg_entry_eq]
  generalize (lg_sl ([.ref (ad 0), .int p1, .int p2]) ++ List.replicate (4 - (lg_sl ([.ref (ad 0), .int p1, .int p2])).length) Slot.unset).toArray = ls at hl ⊢
  have hl : lv_has ls 4 [(0, .ref (ad 0)), (1, .int p1), (2, .int p2)] := hl
  have hP : va_P D vwCl (wZ cyI cyZ ad zb zo zt zm zu zr zl zf) s.heap := hP
  refine lv_iload_n hx hb dX2_setRule_0 rfl (lv_at hl 1 rfl) ?_
  by_cases c_1 : (f_X2_requireColumnNumber_x p1) = 0
  · refine pr_v (va_runS (As := [.int p1]) (rest := []) ⟨hx, hb, hml, hown, hts⟩ (k_X2_requireColumnNumber l D cyI cyZ p1 c_1) (va_cwS 1 hts gX2_setRule_X2_requireColumnNumber rfl rfl rfl (by decide +kernel) ⟨Nat.le_of_ble_eq_true rfl, Nat.le_of_ble_eq_true rfl⟩) (prS hG (hP.sub (ws' := []) [] rfl)) rfl rfl hl.1 rfl (lv_room (Nat.le_of_ble_eq_true rfl)) dX2_setRule_1 ⟨Nat.zero_le _, Nat.zero_le _⟩) hS hP (fun H locs hP hS => ?_)
    refine lv_iload_n hx hb dX2_setRule_4 rfl (lv_at hl 2 rfl) ?_
    refine lv_if_lt (tgt := 13) hx hb dX2_setRule_5 (by decide) (fun c_5 => ?_) (fun c_5 => ?_)
    · have ef : f_X2_setRule_x p1 p2 = 2 := by rw [f_X2_setRule_x, if_pos c_1, if_pos c_5]
      obtain ⟨sa, hsa⟩ := hz.2.2.1 (121, "the rule is out of range") (List.mem_of_getElem? (i := 10) rfl)
      exact vx_throwS (own := RX2) (cls := "java/lang/IllegalArgumentException") (text := "the rule is out of range") (names := xnm) (ik := 108) (is := 121) (ic := 112) (A := nA) hx hb hlt hown (by decide) (by decide) (hts (.classLink RX2 108 "java/lang/IllegalArgumentException") (List.mem_of_getElem? (i := 1) rfl)) (hts (.initialized "java/lang/IllegalArgumentException") (List.mem_of_getElem? (i := 2) rfl)) hsa (vx_hat (fun w h => hts w (xin_X2_setRule_IA w h)) xb_IA (hz.xb (X := "java/lang/IllegalArgumentException") (by decide))) (xg_IA) hz.1 hz.2.1 hS (hl.1.trans hml.symm) dX2_setRule_13 dX2_setRule_16 dX2_setRule_17 dX2_setRule_19 dX2_setRule_22 (fun x h => (hnt x h).elim) (Nat.le_of_ble_eq_true rfl) (Nat.le_of_ble_eq_true rfl) (Nat.le_of_ble_eq_true rfl) (Nat.le_of_ble_eq_true rfl) hlocks (fun t _ hz1 hk1 => ⟨(), trivial, by rw [ef]; rfl, ⟨Nat.le_trans hS.1 hz1, fun q h1 h2 => (hk1 q (Nat.lt_of_lt_of_le h1 hS.1)).trans (hS.2.1 q h1 h2)⟩⟩) hS.2.2 (Nat.le_refl _) (Nat.le_refl _)
    · refine lv_iload_n hx hb dX2_setRule_8 rfl (lv_at hl 2 rfl) ?_
      refine lv_iconst (v := 3) hx hb dX2_setRule_9 (by decide) ?_
      refine lv_icmp_le (tgt := 23) hx hb dX2_setRule_10 (by decide) (fun c_10 => ?_) (fun c_10 => ?_)
      · refine lv_aload_n hx hb dX2_setRule_23 rfl (lv_at hl 0 rfl) ?_
        refine va_get (D := D) (ci := 2) (v := .ref (ad 13)) (C := RX2) (T := TX2) (N := 8) hx hb hts uin_X2_setRule_X2 hown hG.1 hP 0 rfl rfl 4 (by decide) (hts (.fieldLink RX2 25 "TableSplice" "rules" "[I") (List.mem_of_getElem? (i := 3) rfl)) (fun _ h9 => h9) rfl dX2_setRule_24 ?_
        refine lv_iload_n hx hb dX2_setRule_27 rfl (lv_at hl 1 rfl) ?_
        refine va_iald hx hb hG.1 hP 13 0 rfl rfl (in_reqcol c_1) dX2_setRule_28 ?_
        refine lv_istore_n (lv' := [(3, .int (zu (p1).toNatClampNeg)), (0, .ref (ad 0)), (1, .int p1), (2, .int p2)]) hx hb dX2_setRule_29 rfl hl (by decide) rfl (fun ls hl => ?_)
        refine lv_aload_n hx hb dX2_setRule_30 rfl (lv_at hl 1 rfl) ?_
        refine va_get (D := D) (ci := 2) (v := .ref (ad 13)) (C := RX2) (T := TX2) (N := 8) hx hb hts uin_X2_setRule_X2 hown hG.1 hP 0 rfl rfl 4 (by decide) (hts (.fieldLink RX2 25 "TableSplice" "rules" "[I") (List.mem_of_getElem? (i := 3) rfl)) (fun _ h9 => h9) rfl dX2_setRule_31 ?_
        refine lv_iload_n hx hb dX2_setRule_34 rfl (lv_at hl 2 rfl) ?_
        refine lv_iload_n hx hb dX2_setRule_35 rfl (lv_at hl 3 rfl) ?_
        exact absurd (by rw [f_X2_setRule_x, if_pos c_1, if_neg c_5, if_pos c_10]) hx9
      · have ef : f_X2_setRule_x p1 p2 = 2 := by rw [f_X2_setRule_x, if_pos c_1, if_neg c_5, if_neg c_10]
        obtain ⟨sa, hsa⟩ := hz.2.2.1 (121, "the rule is out of range") (List.mem_of_getElem? (i := 10) rfl)
        exact vx_throwS (own := RX2) (cls := "java/lang/IllegalArgumentException") (text := "the rule is out of range") (names := xnm) (ik := 108) (is := 121) (ic := 112) (A := nA) hx hb hlt hown (by decide) (by decide) (hts (.classLink RX2 108 "java/lang/IllegalArgumentException") (List.mem_of_getElem? (i := 1) rfl)) (hts (.initialized "java/lang/IllegalArgumentException") (List.mem_of_getElem? (i := 2) rfl)) hsa (vx_hat (fun w h => hts w (xin_X2_setRule_IA w h)) xb_IA (hz.xb (X := "java/lang/IllegalArgumentException") (by decide))) (xg_IA) hz.1 hz.2.1 hS (hl.1.trans hml.symm) dX2_setRule_13 dX2_setRule_16 dX2_setRule_17 dX2_setRule_19 dX2_setRule_22 (fun x h => (hnt x h).elim) (Nat.le_of_ble_eq_true rfl) (Nat.le_of_ble_eq_true rfl) (Nat.le_of_ble_eq_true rfl) (Nat.le_of_ble_eq_true rfl) hlocks (fun t _ hz1 hk1 => ⟨(), trivial, by rw [ef]; rfl, ⟨Nat.le_trans hS.1 hz1, fun q h1 h2 => (hk1 q (Nat.lt_of_lt_of_le h1 hS.1)).trans (hS.2.1 q h1 h2)⟩⟩) hS.2.2 (Nat.le_refl _) (Nat.le_refl _)
  · have ef : f_X2_setRule_x p1 p2 = f_X2_requireColumnNumber_x p1 := by rw [f_X2_setRule_x, if_neg c_1]
    exact vx_callv (vx_runS (As := [.int p1]) (rest := []) ⟨hx, hb, hml, hown, hts⟩ (t_X2_requireColumnNumber l hlt D cyI cyZ p1 c_1) (va_cwS 1 hts gX2_setRule_X2_requireColumnNumber rfl rfl rfl (by decide +kernel) ⟨Nat.le_of_ble_eq_true rfl, Nat.le_of_ble_eq_true rfl⟩) (ptS hG (hz.kept hS) (hP.sub (ws' := []) [] rfl)) rfl rfl hl.1 rfl (lv_room (Nat.le_of_ble_eq_true rfl)) dX2_setRule_1 ⟨Nat.le_of_ble_eq_true rfl, Nat.le_of_ble_eq_true rfl⟩) hS (fun _ _ h => h.elim) (fun _ h => h.elim) (fun _ _ h => h.elim) (fun E ce q9 u t H1 locs1 ht _ _ hE _ _ hS1 hce hcv hcl => vx_out (fun x h => (hnt x h).elim) hlocks hce hcv hcl (fun t9 h9 _ => ⟨(), trivial, hE.trans (congrArg xn ef.symm), hS1.F h9⟩) hS1.2.2 (Nat.le_refl _) (Nat.le_refl _)) (fun u t H1 locs1 ht hvm h hb9 hz1 hk1 hS1 => h.elim)
def f_X2_setReference (zr : Nat → Int32) (zf : Int32) (p1 : Int32) (p2 : Int32) : Int32 × (Nat → Int32) × Int32 := if (f_X2_requireColumnNumber_x p1) = 0 then (if (zr (p1).toNatClampNeg) = p2 then (0, (upd zr (p1).toNatClampNeg p2), 0) else (1, (upd zr (p1).toNatClampNeg p2), 0)) else ((0, zr, zf))
theorem uin_X2_setReference_X2 : ∀ w ∈ wsX20, w ∈ wsX2_setReference := fun _ h => List.mem_cons_of_mem _ (List.mem_append_left _ (List.mem_append_right _ h))
def f_X2_setReference_x (p1 : Int32) : Nat := if (f_X2_requireColumnNumber_x p1) = 0 then 0 else (f_X2_requireColumnNumber_x p1)
theorem xin_X2_setReference_IO : ∀ w ∈ (vx_atS RX2 224 "java/lang/IndexOutOfBoundsException" ["java/lang/RuntimeException", "java/lang/Exception"]).filter goodWord, w ∈ wsX2_setReference := fun _ h => List.mem_cons_of_mem _ (List.mem_append_right _ h)
set_option maxHeartbeats 4000000 in
set_option maxRecDepth 100000 in
theorem k_X2_setReference (l : Launch) (D : va_G) (cyI cyZ : ClassId) (ad : Nat → Nat) (zb : Tr) (zo : Tr) (zt : Tr) (zm : Tr) (zu : Nat → Int32) (zr : Nat → Int32) (zl : Lr) (zf : Int32) (p1 : Int32) (p2 : Int32) (A : Nat → Prop) (sz : Nat) (hAe : A = va_A (wZ cyI cyZ ad zb zo zt zm zu zr zl zf) sz) (hb2 : p2 = 0 ∨ p2 = 1) (hx9 : f_X2_setReference_x p1 = 0) : Met l yX2_setReference wsX2_setReference ({ frames := 2, cells := 0, slots := 0, locals := 40 } : Room) (pcM D cyI cyZ sz [.ref (ad 0), .int p1, .int p2] (wZ cyI cyZ ad zb zo zt zm zu zr zl zf)) (mI D A (wZ cyI cyZ ad zb zo zt zm zu (f_X2_setReference zr zf p1 p2).2.1 zl (f_X2_setReference zr zf p1 p2).2.2) (f_X2_setReference zr zf p1 p2).1) 0 0 A := by
  refine Met.ofW (cc := cX2_setReference) (maxL := 4) (ret := (some .boolean)) (by decide) rfl ?_
  intro p e s m args below meth c s₁ B hml hv
  obtain ⟨rfl, hsz, hP, hG, hD0⟩ := hv
  have hx := B.exec
  have hb := B.bytes
  have hr := B.returns
  have hts := atoms_spec (ws := wsX2_setReference) B.pre
  have hown : s.vm.findClass RX2 = some m.cls := findClass_of_methodNamed B.named
  have hlocks := B.notSynchronized
  subst hsz
  have hD : va_D A (wZ cyI cyZ ad zb zo zt zm zu zr zl zf) := by rw [hAe]; exact hD0.self
  have hA : ∀ q : Nat, s.heap.size ≤ q → A q := fun q h => by rw [hAe]; exact Or.inr h
  clear hAe hD0
  have hS : va_S nA s.heap s.heap [] := va_S.rf
  have hl := lv_entry ([.ref (ad 0), .int p1, .int p2]) (n := 4) (Nat.le_of_ble_eq_true rfl)
  rw [lg_entry_eq]
  generalize (lg_sl ([.ref (ad 0), .int p1, .int p2]) ++ List.replicate (4 - (lg_sl ([.ref (ad 0), .int p1, .int p2])).length) Slot.unset).toArray = ls at hl ⊢
  have hl : lv_has ls 4 [(0, .ref (ad 0)), (1, .int p1), (2, .int p2)] := hl
  have hP : va_P D vwCl (wZ cyI cyZ ad zb zo zt zm zu zr zl zf) s.heap := hP
  refine lv_iload_n hx hb dX2_setReference_0 rfl (lv_at hl 1 rfl) ?_
  by_cases c_1 : (f_X2_requireColumnNumber_x p1) = 0
  · refine pr_v (va_runS (As := [.int p1]) (rest := []) ⟨hx, hb, hml, hown, hts⟩ (k_X2_requireColumnNumber l D cyI cyZ p1 c_1) (va_cwS 1 hts gX2_setReference_X2_requireColumnNumber rfl rfl rfl (by decide +kernel) ⟨Nat.le_of_ble_eq_true rfl, Nat.le_of_ble_eq_true rfl⟩) (prS hG (hP.sub (ws' := []) [] rfl)) rfl rfl hl.1 rfl (lv_room (Nat.le_of_ble_eq_true rfl)) dX2_setReference_1 ⟨Nat.zero_le _, Nat.zero_le _⟩) hS hP (fun H locs hP hS => ?_)
    refine lv_aload_n hx hb dX2_setReference_4 rfl (lv_at hl 0 rfl) ?_
    refine va_get (D := D) (ci := 2) (v := .ref (ad 14)) (C := RX2) (T := TX2) (N := 8) hx hb hts uin_X2_setReference_X2 hown hG.1 hP 0 rfl rfl 5 (by decide) (hts (.fieldLink RX2 29 "TableSplice" "references" "[Z") (List.mem_of_getElem? (i := 1) rfl)) (fun _ h9 => h9) rfl dX2_setReference_5 ?_
    refine lv_iload_n hx hb dX2_setReference_8 rfl (lv_at hl 1 rfl) ?_
    refine va_zald hx hb hG.1 hP 14 1 rfl rfl (in_reqcol c_1) dX2_setReference_9 ?_
    refine lv_istore_n (lv' := [(3, .int (zr (p1).toNatClampNeg)), (0, .ref (ad 0)), (1, .int p1), (2, .int p2)]) hx hb dX2_setReference_10 rfl hl (by decide) rfl (fun ls hl => ?_)
    refine lv_aload_n hx hb dX2_setReference_11 rfl (lv_at hl 1 rfl) ?_
    refine va_get (D := D) (ci := 2) (v := .ref (ad 14)) (C := RX2) (T := TX2) (N := 8) hx hb hts uin_X2_setReference_X2 hown hG.1 hP 0 rfl rfl 5 (by decide) (hts (.fieldLink RX2 29 "TableSplice" "references" "[Z") (List.mem_of_getElem? (i := 1) rfl)) (fun _ h9 => h9) rfl dX2_setReference_12 ?_
    refine lv_iload_n hx hb dX2_setReference_15 rfl (lv_at hl 2 rfl) ?_
    refine lv_iload_n hx hb dX2_setReference_16 rfl (lv_at hl 3 rfl) ?_
    have hS := sw_n (B := A) hS
    refine va_zast hx hb hG.1 hP hD hS 14 1 rfl rfl (in_reqcol c_1) dX2_setReference_17 (fun H locs hP hD hS => ?_)
    rw [nr_b hb2] at hP hD
    have hP : va_P D vwCl (wZ cyI cyZ ad zb zo zt zm zu (upd zr (p1).toNatClampNeg p2) zl zf) H := hP
    have hD : va_D A (wZ cyI cyZ ad zb zo zt zm zu (upd zr (p1).toNatClampNeg p2) zl zf) := hD
    refine lv_aload_n hx hb dX2_setReference_18 rfl (lv_at hl 1 rfl) ?_
    refine lv_iconst (v := 0) hx hb dX2_setReference_19 (by decide) ?_
    refine va_put (D := D) (ci := 2) (v := .int 0) (ty := .boolean) (C := RX2) (T := TX2) (N := 8) hx hb hts uin_X2_setReference_X2 tyX2 tyX2_ok nmX2 hown hG.1 hP hD hS 0 rfl rfl 7 (by decide) (hts (.fieldLink RX2 40 "TableSplice" "fresh" "Z") (List.mem_of_getElem? (i := 2) rfl)) (fun _ h9 => h9) rfl (by decide +kernel) rfl rfl (Nat.le_of_ble_eq_true rfl) dX2_setReference_20 (fun H locs hP hD hS => ?_)
    have hP : va_P D vwCl (wZ cyI cyZ ad zb zo zt zm zu (upd zr (p1).toNatClampNeg p2) zl 0) H := hP
    have hD : va_D A (wZ cyI cyZ ad zb zo zt zm zu (upd zr (p1).toNatClampNeg p2) zl 0) := hD
    refine lv_iload_n hx hb dX2_setReference_23 rfl (lv_at hl 0 rfl) ?_
    refine lv_iload_n hx hb dX2_setReference_24 rfl (lv_at hl 3 rfl) ?_
    refine lv_icmp_eq (tgt := 32) hx hb dX2_setReference_25 (by decide) (fun c_25 => ?_) (fun c_25 => ?_)
    · refine lv_iconst (v := 0) hx hb dX2_setReference_32 (by decide) ?_
      have ef : f_X2_setReference zr zf p1 p2 = (0, (upd zr (p1).toNatClampNeg p2), 0) := by rw [f_X2_setReference, if_pos c_1, if_pos c_25]
      exact W.zret (v := 0) (ty := .boolean) hx hb hr rfl (fun t ht hW => ⟨⟨0, (), rfl, by rw [ef], by rw [ht, ef]; exact hP, by rw [ef]; exact hD⟩, hS.F ht⟩) hS.2.2 dX2_setReference_33
    · refine lv_iconst (v := 1) hx hb dX2_setReference_28 (by decide) ?_
      refine lv_goto (tgt := 33) hx hb dX2_setReference_29 (by decide) ?_
      have ef : f_X2_setReference zr zf p1 p2 = (1, (upd zr (p1).toNatClampNeg p2), 0) := by rw [f_X2_setReference, if_pos c_1, if_neg c_25]
      exact W.zret (v := 1) (ty := .boolean) hx hb hr rfl (fun t ht hW => ⟨⟨1, (), rfl, by rw [ef], by rw [ht, ef]; exact hP, by rw [ef]; exact hD⟩, hS.F ht⟩) hS.2.2 dX2_setReference_33
  · exact absurd hx9 (by rw [f_X2_setReference_x, if_neg c_1]; exact c_1)
set_option maxHeartbeats 4000000 in
set_option maxRecDepth 100000 in
theorem t_X2_setReference (l : Launch) (hlt : l.stackTraces = false) (D : va_G) (cyI cyZ : ClassId) (ad : Nat → Nat) (zb : Tr) (zo : Tr) (zt : Tr) (zm : Tr) (zu : Nat → Int32) (zr : Nat → Int32) (zl : Lr) (zf : Int32) (p1 : Int32) (p2 : Int32) (hb2 : p2 = 0 ∨ p2 = 1) (hx9 : ¬ f_X2_setReference_x p1 = 0) : vx_Met l yX2_setReference wsX2_setReference ({ frames := 7, cells := 1, slots := 6, locals := 120 } : Room) (pcT D cyI cyZ [.ref (ad 0), .int p1, .int p2] (wZ cyI cyZ ad zb zo zt zm zu zr zl zf)) qFi (xX (f_X2_setReference_x p1)) 1 6 nA := by
  refine vx_ofW (cc := cX2_setReference) (maxL := 4) (ret := (some .boolean)) (by decide) rfl ?_
  intro p e s m args below meth c s₁ B hml hnt hv
  obtain ⟨rfl, hP, hG, hz⟩ := hv
  have hx := B.exec
  have hb := B.bytes
  have hr := B.returns
  have hts := atoms_spec (ws := wsX2_setReference) B.pre
  have hown : s.vm.findClass RX2 = some m.cls := findClass_of_methodNamed B.named
  have hlocks := B.notSynchronized
  have hS : va_S nA s.heap s.heap [] := va_S.rf
  have hl := lv_entry ([.ref (ad 0), .int p1, .int p2]) (n := 4) (Nat.le_of_ble_eq_true rfl)
  rw [lg_entry_eq]
  generalize (lg_sl ([.ref (ad 0), .int p1, .int p2]) ++ List.replicate (4 - (lg_sl ([.ref (ad 0), .int p1, .int p2])).length) Slot.unset).toArray = ls at hl ⊢
  have hl : lv_has ls 4 [(0, .ref (ad 0)), (1, .int p1), (2, .int p2)] := hl
  have hP : va_P D vwCl (wZ cyI cyZ ad zb zo zt zm zu zr zl zf) s.heap := hP
  refine lv_iload_n hx hb dX2_setReference_0 rfl (lv_at hl 1 rfl) ?_
  by_cases c_1 : (f_X2_requireColumnNumber_x p1) = 0
  · refine pr_v (va_runS (As := [.int p1]) (rest := []) ⟨hx, hb, hml, hown, hts⟩ (k_X2_requireColumnNumber l D cyI cyZ p1 c_1) (va_cwS 1 hts gX2_setReference_X2_requireColumnNumber rfl rfl rfl (by decide +kernel) ⟨Nat.le_of_ble_eq_true rfl, Nat.le_of_ble_eq_true rfl⟩) (prS hG (hP.sub (ws' := []) [] rfl)) rfl rfl hl.1 rfl (lv_room (Nat.le_of_ble_eq_true rfl)) dX2_setReference_1 ⟨Nat.zero_le _, Nat.zero_le _⟩) hS hP (fun H locs hP hS => ?_)
    refine lv_aload_n hx hb dX2_setReference_4 rfl (lv_at hl 0 rfl) ?_
    refine va_get (D := D) (ci := 2) (v := .ref (ad 14)) (C := RX2) (T := TX2) (N := 8) hx hb hts uin_X2_setReference_X2 hown hG.1 hP 0 rfl rfl 5 (by decide) (hts (.fieldLink RX2 29 "TableSplice" "references" "[Z") (List.mem_of_getElem? (i := 1) rfl)) (fun _ h9 => h9) rfl dX2_setReference_5 ?_
    refine lv_iload_n hx hb dX2_setReference_8 rfl (lv_at hl 1 rfl) ?_
    refine va_zald hx hb hG.1 hP 14 1 rfl rfl (in_reqcol c_1) dX2_setReference_9 ?_
    refine lv_istore_n (lv' := [(3, .int (zr (p1).toNatClampNeg)), (0, .ref (ad 0)), (1, .int p1), (2, .int p2)]) hx hb dX2_setReference_10 rfl hl (by decide) rfl (fun ls hl => ?_)
    refine lv_aload_n hx hb dX2_setReference_11 rfl (lv_at hl 1 rfl) ?_
    refine va_get (D := D) (ci := 2) (v := .ref (ad 14)) (C := RX2) (T := TX2) (N := 8) hx hb hts uin_X2_setReference_X2 hown hG.1 hP 0 rfl rfl 5 (by decide) (hts (.fieldLink RX2 29 "TableSplice" "references" "[Z") (List.mem_of_getElem? (i := 1) rfl)) (fun _ h9 => h9) rfl dX2_setReference_12 ?_
    refine lv_iload_n hx hb dX2_setReference_15 rfl (lv_at hl 2 rfl) ?_
    refine lv_iload_n hx hb dX2_setReference_16 rfl (lv_at hl 3 rfl) ?_
    exact absurd (by rw [f_X2_setReference_x, if_pos c_1]) hx9
  · have ef : f_X2_setReference_x p1 = f_X2_requireColumnNumber_x p1 := by rw [f_X2_setReference_x, if_neg c_1]
    exact vx_callv (vx_runS (As := [.int p1]) (rest := []) ⟨hx, hb, hml, hown, hts⟩ (t_X2_requireColumnNumber l hlt D cyI cyZ p1 c_1) (va_cwS 1 hts gX2_setReference_X2_requireColumnNumber rfl rfl rfl (by decide +kernel) ⟨Nat.le_of_ble_eq_true rfl, Nat.le_of_ble_eq_true rfl⟩) (ptS hG (hz.kept hS) (hP.sub (ws' := []) [] rfl)) rfl rfl hl.1 rfl (lv_room (Nat.le_of_ble_eq_true rfl)) dX2_setReference_1 ⟨Nat.le_of_ble_eq_true rfl, Nat.le_of_ble_eq_true rfl⟩) hS (fun _ _ h => h.elim) (fun _ h => h.elim) (fun _ _ h => h.elim) (fun E ce q9 u t H1 locs1 ht _ _ hE _ _ hS1 hce hcv hcl => vx_out (fun x h => (hnt x h).elim) hlocks hce hcv hcl (fun t9 h9 _ => ⟨(), trivial, hE.trans (congrArg xn ef.symm), hS1.F h9⟩) hS1.2.2 (Nat.le_refl _) (Nat.le_refl _)) (fun u t H1 locs1 ht hvm h hb9 hz1 hk1 hS1 => h.elim)
def f_X2_accept (zb : Tr) (zo : Tr) (zt : Tr) (zm : Tr) (zl : Lr) (zf : Int32) : Int32 × Tr × Tr × Tr × Tr × Lr × Int32 := if zf = 0 then ((0, zb, zo, zt, zm, zl, zf)) else (if zl.2.1 ≤ 0 then (((f_X2_fork (f_X1_becomeLike zb zm) zo zt zm zl).1, (f_X1_becomeLike zb zm), ((f_X2_fork (f_X1_becomeLike zb zm) zo zt zm zl).2.1), ((f_X2_fork (f_X1_becomeLike zb zm) zo zt zm zl).2.2.1), ((f_X2_fork (f_X1_becomeLike zb zm) zo zt zm zl).2.2.2.1), ((f_X2_fork (f_X1_becomeLike zb zm) zo zt zm zl).2.2.2.2.1), ((f_X2_fork (f_X1_becomeLike zb zm) zo zt zm zl).2.2.2.2.2))) else ((0, zb, zo, zt, zm, zl, zf)))
theorem uin_X2_accept_X2 : ∀ w ∈ wsX20, w ∈ wsX2_accept := fun _ h => List.mem_cons_of_mem _ (List.mem_append_left _ (List.mem_append_left _ (List.mem_append_left _ (List.mem_append_right _ h))))
theorem uin_X2_accept_X0 : ∀ w ∈ wsX00, w ∈ wsX2_accept := fun _ h => List.mem_cons_of_mem _ (List.mem_append_left _ (List.mem_append_left _ (List.mem_append_right _ h)))
theorem uin_X2_accept_X1 : ∀ w ∈ wsX10, w ∈ wsX2_accept := fun _ h => List.mem_cons_of_mem _ (List.mem_append_left _ (List.mem_append_right _ h))
def f_X2_accept_x (zl : Lr) (zf : Int32) : Nat := if zf = 0 then 3 else (if zl.2.1 ≤ 0 then 0 else 3)
theorem xin_X2_accept_IS : ∀ w ∈ (vx_atS RX2 63 "java/lang/IllegalStateException" ["java/lang/RuntimeException", "java/lang/Exception"]).filter goodWord, w ∈ wsX2_accept := fun _ h => List.mem_cons_of_mem _ (List.mem_append_right _ h)
set_option maxHeartbeats 4000000 in
set_option maxRecDepth 100000 in
theorem k_X2_accept (l : Launch) (D : va_G) (cyI cyZ : ClassId) (ad : Nat → Nat) (zb : Tr) (zo : Tr) (zt : Tr) (zm : Tr) (zu : Nat → Int32) (zr : Nat → Int32) (zl : Lr) (zf : Int32) (A : Nat → Prop) (sz : Nat) (hAe : A = va_A (wZ cyI cyZ ad zb zo zt zm zu zr zl zf) sz) (hx9 : f_X2_accept_x zl zf = 0) : Met l yX2_accept wsX2_accept ({ frames := 4, cells := 0, slots := 0, locals := 105 } : Room) (pcM D cyI cyZ sz [.ref (ad 0)] (wZ cyI cyZ ad zb zo zt zm zu zr zl zf)) (mI D A (wZ cyI cyZ ad (f_X2_accept zb zo zt zm zl zf).2.1 (f_X2_accept zb zo zt zm zl zf).2.2.1 (f_X2_accept zb zo zt zm zl zf).2.2.2.1 (f_X2_accept zb zo zt zm zl zf).2.2.2.2.1 zu zr (f_X2_accept zb zo zt zm zl zf).2.2.2.2.2.1 (f_X2_accept zb zo zt zm zl zf).2.2.2.2.2.2) (f_X2_accept zb zo zt zm zl zf).1) 0 0 A := by
  refine Met.ofW (cc := cX2_accept) (maxL := 1) (ret := (some .int)) (by decide) rfl ?_
  intro p e s m args below meth c s₁ B hml hv
  obtain ⟨rfl, hsz, hP, hG, hD0⟩ := hv
  have hx := B.exec
  have hb := B.bytes
  have hr := B.returns
  have hts := atoms_spec (ws := wsX2_accept) B.pre
  have hown : s.vm.findClass RX2 = some m.cls := findClass_of_methodNamed B.named
  have hlocks := B.notSynchronized
  subst hsz
  have hD : va_D A (wZ cyI cyZ ad zb zo zt zm zu zr zl zf) := by rw [hAe]; exact hD0.self
  have hA : ∀ q : Nat, s.heap.size ≤ q → A q := fun q h => by rw [hAe]; exact Or.inr h
  clear hAe hD0
  have hS : va_S nA s.heap s.heap [] := va_S.rf
  have hl := lv_entry ([.ref (ad 0)]) (n := 1) (Nat.le_of_ble_eq_true rfl)
  rw [lg_entry_eq]
  generalize (lg_sl ([.ref (ad 0)]) ++ List.replicate (1 - (lg_sl ([.ref (ad 0)])).length) Slot.unset).toArray = ls at hl ⊢
  have hl : lv_has ls 1 [(0, .ref (ad 0))] := hl
  have hP : va_P D vwCl (wZ cyI cyZ ad zb zo zt zm zu zr zl zf) s.heap := hP
  refine lv_aload_n hx hb dX2_accept_0 rfl (lv_at hl 0 rfl) ?_
  refine va_get (D := D) (ci := 2) (v := .int zf) (C := RX2) (T := TX2) (N := 8) hx hb hts uin_X2_accept_X2 hown hG.1 hP 0 rfl rfl 7 (by decide) (hts (.fieldLink RX2 40 "TableSplice" "fresh" "Z") (List.mem_of_getElem? (i := 3) rfl)) (fun _ h9 => h9) rfl dX2_accept_1 ?_
  refine lv_if_ne (tgt := 17) hx hb dX2_accept_4 (by decide) (fun c_4 => ?_) (fun c_4 => ?_)
  · refine lv_aload_n hx hb dX2_accept_17 rfl (lv_at hl 0 rfl) ?_
    refine va_get (D := D) (ci := 2) (v := .ref (ad 15)) (C := RX2) (T := TX2) (N := 8) hx hb hts uin_X2_accept_X2 hown hG.1 hP 0 rfl rfl 6 (by decide) (hts (.fieldLink RX2 36 "TableSplice" "list" "LTableSplice$ConflictList;") (List.mem_of_getElem? (i := 4) rfl)) (fun _ h9 => h9) rfl dX2_accept_18 ?_
    refine va_getN (D := D) (ci := 0) (v := .int zl.2.1) (C := RX0) (T := TX0) (N := 6) hx hb hts uin_X2_accept_X0 hown hG.1 hP 15 rfl rfl 1 (by decide) (va_Nw.use rfl (hG.2.2 ("TableSplice", 171, "TableSplice$ConflictList", "openCount", "I", "TableSplice") (List.mem_of_getElem? (i := 3) rfl))) (fun _ h9 => h9) rfl dX2_accept_21 ?_
    refine lv_if_le (tgt := 37) hx hb dX2_accept_24 (by decide) (fun c_24 => ?_) (fun c_24 => ?_)
    · refine lv_aload_n hx hb dX2_accept_37 rfl (lv_at hl 0 rfl) ?_
      refine va_get (D := D) (ci := 2) (v := .ref (ad 1)) (C := RX2) (T := TX2) (N := 8) hx hb hts uin_X2_accept_X2 hown hG.1 hP 0 rfl rfl 0 (by decide) (hts (.fieldLink RX2 10 "TableSplice" "base" "LTableSplice$Table;") (List.mem_of_getElem? (i := 5) rfl)) (fun _ h9 => h9) rfl dX2_accept_38 ?_
      refine lv_aload_n hx hb dX2_accept_41 rfl (lv_at hl 0 rfl) ?_
      refine va_get (D := D) (ci := 2) (v := .ref (ad 10)) (C := RX2) (T := TX2) (N := 8) hx hb hts uin_X2_accept_X2 hown hG.1 hP 0 rfl rfl 3 (by decide) (hts (.fieldLink RX2 22 "TableSplice" "merged" "LTableSplice$Table;") (List.mem_of_getElem? (i := 6) rfl)) (fun _ h9 => h9) rfl dX2_accept_42 ?_
      have hS := sw_n (B := A) hS
      refine mr_v (va_runVN (As := [.ref (ad 10)]) (rest := []) ⟨hx, hb, hml, hown, hts⟩ (k_X1_becomeLike l D cyI cyZ (ad 1) (ad 2) (ad 3) (ad 10) (ad 11) (ad 12) zb zm _ _ rfl) ⟨va_cnB 1 hts gX2_accept_X1_becomeLike_n140 rfl rfl rfl (hG.2.1 (RX2, 140, yX1_becomeLike, "TableSplice") (List.mem_of_getElem? (i := 2) rfl)) (hts (.initialized RX1) (List.mem_of_getElem? (i := 8) rfl)) (by decide +kernel) ⟨Nat.le_of_ble_eq_true rfl, Nat.le_of_ble_eq_true rfl⟩, hts (.instanceMethod yX1_becomeLike) (List.mem_of_getElem? (i := 7) rfl), hts (.selects RX1 yX1_becomeLike yX1_becomeLike) (List.mem_of_getElem? (i := 9) rfl)⟩ (pmV hG (hP.sub (ws' := wU cyI (ad 1) (ad 2) (ad 3) zb (ad 10) (ad 11) (ad 12) zm) [1, 2, 3, 10, 11, 12] rfl) (hD.sub (ws' := wU cyI (ad 1) (ad 2) (ad 3) zb (ad 10) (ad 11) (ad 12) zm) [1, 2, 3, 10, 11, 12] (by decide) rfl) (ci := 1) rfl rfl rfl) rfl rfl hl.1 rfl (lv_room (Nat.le_of_ble_eq_true rfl)) dX2_accept_45 ⟨Nat.zero_le _, Nat.zero_le _⟩) hP hD hS hA [1, 2, 3, 10, 11, 12] [0, 4, 5, 6, 7, 8, 9, 13, 14, 15, 16, 17, 18, 19] [0, 14, 15, 16, 1, 2, 3, 4, 5, 6, 17, 18, 19, 7, 8, 9, 10, 11, 12, 13] rfl rfl (by decide) (by decide) (by decide) (w2 := wZ cyI cyZ ad (f_X1_becomeLike zb zm) zo zt zm zu zr zl zf) rfl (fun H locs hP hD hS => ?_)
      have hP : va_P D vwCl (wZ cyI cyZ ad (f_X1_becomeLike zb zm) zo zt zm zu zr zl zf) H := hP
      have hD : va_D A (wZ cyI cyZ ad (f_X1_becomeLike zb zm) zo zt zm zu zr zl zf) := hD
      refine lv_aload_n hx hb dX2_accept_48 rfl (lv_at hl 0 rfl) ?_
      refine mr_i0 (va_runV (As := []) (rest := []) ⟨hx, hb, hml, hown, hts⟩ (k_X2_fork l D cyI cyZ ad (f_X1_becomeLike zb zm) zo zt zm zu zr zl zf _ _ rfl) (cwV 0 hts gX2_accept_X2_fork rfl rfl rfl (by decide +kernel) ⟨Nat.le_of_ble_eq_true rfl, Nat.le_of_ble_eq_true rfl⟩) (pmV hG hP hD (ci := 2) rfl rfl rfl) rfl rfl hl.1 rfl (lv_room (Nat.le_of_ble_eq_true rfl)) dX2_accept_49 ⟨Nat.zero_le _, Nat.zero_le _⟩) hD hS hA (fun H locs hP hD hS => ?_)
      have hP : va_P D vwCl (wZ cyI cyZ ad (f_X1_becomeLike zb zm) ((f_X2_fork (f_X1_becomeLike zb zm) zo zt zm zl).2.1) ((f_X2_fork (f_X1_becomeLike zb zm) zo zt zm zl).2.2.1) ((f_X2_fork (f_X1_becomeLike zb zm) zo zt zm zl).2.2.2.1) zu zr ((f_X2_fork (f_X1_becomeLike zb zm) zo zt zm zl).2.2.2.2.1) ((f_X2_fork (f_X1_becomeLike zb zm) zo zt zm zl).2.2.2.2.2)) H := hP
      have hD : va_D A (wZ cyI cyZ ad (f_X1_becomeLike zb zm) ((f_X2_fork (f_X1_becomeLike zb zm) zo zt zm zl).2.1) ((f_X2_fork (f_X1_becomeLike zb zm) zo zt zm zl).2.2.1) ((f_X2_fork (f_X1_becomeLike zb zm) zo zt zm zl).2.2.2.1) zu zr ((f_X2_fork (f_X1_becomeLike zb zm) zo zt zm zl).2.2.2.2.1) ((f_X2_fork (f_X1_becomeLike zb zm) zo zt zm zl).2.2.2.2.2)) := hD
      have ef : f_X2_accept zb zo zt zm zl zf = ((f_X2_fork (f_X1_becomeLike zb zm) zo zt zm zl).1, (f_X1_becomeLike zb zm), ((f_X2_fork (f_X1_becomeLike zb zm) zo zt zm zl).2.1), ((f_X2_fork (f_X1_becomeLike zb zm) zo zt zm zl).2.2.1), ((f_X2_fork (f_X1_becomeLike zb zm) zo zt zm zl).2.2.2.1), ((f_X2_fork (f_X1_becomeLike zb zm) zo zt zm zl).2.2.2.2.1), ((f_X2_fork (f_X1_becomeLike zb zm) zo zt zm zl).2.2.2.2.2)) := by rw [f_X2_accept, if_neg c_4, if_pos c_24]
      exact W.iret (v := (f_X2_fork (f_X1_becomeLike zb zm) zo zt zm zl).1) hx hb hr (fun t ht hW => ⟨⟨(f_X2_fork (f_X1_becomeLike zb zm) zo zt zm zl).1, (), rfl, by rw [ef], by rw [ht, ef]; exact hP, by rw [ef]; exact hD⟩, hS.F ht⟩) hS.2.2 dX2_accept_52
    · exact absurd hx9 (by rw [f_X2_accept_x, if_neg c_4, if_neg c_24]; decide)
  · exact absurd hx9 (by rw [f_X2_accept_x, if_pos c_4]; decide)
set_option maxHeartbeats 4000000 in
set_option maxRecDepth 100000 in
theorem t_X2_accept (l : Launch) (hlt : l.stackTraces = false) (D : va_G) (cyI cyZ : ClassId) (ad : Nat → Nat) (zb : Tr) (zo : Tr) (zt : Tr) (zm : Tr) (zu : Nat → Int32) (zr : Nat → Int32) (zl : Lr) (zf : Int32) (hx9 : ¬ f_X2_accept_x zl zf = 0) : vx_Met l yX2_accept wsX2_accept ({ frames := 6, cells := 1, slots := 6, locals := 100 } : Room) (pcT D cyI cyZ [.ref (ad 0)] (wZ cyI cyZ ad zb zo zt zm zu zr zl zf)) qFi (xX (f_X2_accept_x zl zf)) 1 6 nA := by
  refine vx_ofW (cc := cX2_accept) (maxL := 1) (ret := (some .int)) (by decide) rfl ?_
  intro p e s m args below meth c s₁ B hml hnt hv
  obtain ⟨rfl, hP, hG, hz⟩ := hv
  have hx := B.exec
  have hb := B.bytes
  have hr := B.returns
  have hts := atoms_spec (ws := wsX2_accept) B.pre
  have hown : s.vm.findClass RX2 = some m.cls := findClass_of_methodNamed B.named
  have hlocks := B.notSynchronized
  have hS : va_S nA s.heap s.heap [] := va_S.rf
  have hl := lv_entry ([.ref (ad 0)]) (n := 1) (Nat.le_of_ble_eq_true rfl)
  rw [lg_entry_eq]
  generalize (lg_sl ([.ref (ad 0)]) ++ List.replicate (1 - (lg_sl ([.ref (ad 0)])).length) Slot.unset).toArray = ls at hl ⊢
  have hl : lv_has ls 1 [(0, .ref (ad 0))] := hl
  have hP : va_P D vwCl (wZ cyI cyZ ad zb zo zt zm zu zr zl zf) s.heap := hP
  refine lv_aload_n hx hb dX2_accept_0 rfl (lv_at hl 0 rfl) ?_
  refine va_get (D := D) (ci := 2) (v := .int zf) (C := RX2) (T := TX2) (N := 8) hx hb hts uin_X2_accept_X2 hown hG.1 hP 0 rfl rfl 7 (by decide) (hts (.fieldLink RX2 40 "TableSplice" "fresh" "Z") (List.mem_of_getElem? (i := 3) rfl)) (fun _ h9 => h9) rfl dX2_accept_1 ?_
  refine lv_if_ne (tgt := 17) hx hb dX2_accept_4 (by decide) (fun c_4 => ?_) (fun c_4 => ?_)
  · refine lv_aload_n hx hb dX2_accept_17 rfl (lv_at hl 0 rfl) ?_
    refine va_get (D := D) (ci := 2) (v := .ref (ad 15)) (C := RX2) (T := TX2) (N := 8) hx hb hts uin_X2_accept_X2 hown hG.1 hP 0 rfl rfl 6 (by decide) (hts (.fieldLink RX2 36 "TableSplice" "list" "LTableSplice$ConflictList;") (List.mem_of_getElem? (i := 4) rfl)) (fun _ h9 => h9) rfl dX2_accept_18 ?_
    refine va_getN (D := D) (ci := 0) (v := .int zl.2.1) (C := RX0) (T := TX0) (N := 6) hx hb hts uin_X2_accept_X0 hown hG.1 hP 15 rfl rfl 1 (by decide) (va_Nw.use rfl (hG.2.2 ("TableSplice", 171, "TableSplice$ConflictList", "openCount", "I", "TableSplice") (List.mem_of_getElem? (i := 3) rfl))) (fun _ h9 => h9) rfl dX2_accept_21 ?_
    refine lv_if_le (tgt := 37) hx hb dX2_accept_24 (by decide) (fun c_24 => ?_) (fun c_24 => ?_)
    · refine lv_aload_n hx hb dX2_accept_37 rfl (lv_at hl 0 rfl) ?_
      refine va_get (D := D) (ci := 2) (v := .ref (ad 1)) (C := RX2) (T := TX2) (N := 8) hx hb hts uin_X2_accept_X2 hown hG.1 hP 0 rfl rfl 0 (by decide) (hts (.fieldLink RX2 10 "TableSplice" "base" "LTableSplice$Table;") (List.mem_of_getElem? (i := 5) rfl)) (fun _ h9 => h9) rfl dX2_accept_38 ?_
      refine lv_aload_n hx hb dX2_accept_41 rfl (lv_at hl 0 rfl) ?_
      refine va_get (D := D) (ci := 2) (v := .ref (ad 10)) (C := RX2) (T := TX2) (N := 8) hx hb hts uin_X2_accept_X2 hown hG.1 hP 0 rfl rfl 3 (by decide) (hts (.fieldLink RX2 22 "TableSplice" "merged" "LTableSplice$Table;") (List.mem_of_getElem? (i := 6) rfl)) (fun _ h9 => h9) rfl dX2_accept_42 ?_
      exact absurd (by rw [f_X2_accept_x, if_neg c_4, if_pos c_24]) hx9
    · have ef : f_X2_accept_x zl zf = 3 := by rw [f_X2_accept_x, if_neg c_4, if_neg c_24]
      obtain ⟨sa, hsa⟩ := hz.2.2.1 (174, "some conflict is not settled") (List.mem_of_getElem? (i := 13) rfl)
      exact vx_throwS (own := RX2) (cls := "java/lang/IllegalStateException") (text := "some conflict is not settled") (names := xnm) (ik := 59) (is := 174) (ic := 63) (A := nA) hx hb hlt hown (by decide) (by decide) (hts (.classLink RX2 59 "java/lang/IllegalStateException") (List.mem_of_getElem? (i := 1) rfl)) (hts (.initialized "java/lang/IllegalStateException") (List.mem_of_getElem? (i := 2) rfl)) hsa (vx_hat (fun w h => hts w (xin_X2_accept_IS w h)) xb_IS (hz.xb (X := "java/lang/IllegalStateException") (by decide))) (xg_IS) hz.1 hz.2.1 hS (hl.1.trans hml.symm) dX2_accept_27 dX2_accept_30 dX2_accept_31 dX2_accept_33 dX2_accept_36 (fun x h => (hnt x h).elim) (Nat.le_of_ble_eq_true rfl) (Nat.le_of_ble_eq_true rfl) (Nat.le_of_ble_eq_true rfl) (Nat.le_of_ble_eq_true rfl) hlocks (fun t _ hz1 hk1 => ⟨(), trivial, by rw [ef]; rfl, ⟨Nat.le_trans hS.1 hz1, fun q h1 h2 => (hk1 q (Nat.lt_of_lt_of_le h1 hS.1)).trans (hS.2.1 q h1 h2)⟩⟩) hS.2.2 (Nat.le_refl _) (Nat.le_refl _)
  · have ef : f_X2_accept_x zl zf = 3 := by rw [f_X2_accept_x, if_pos c_4]
    obtain ⟨sa, hsa⟩ := hz.2.2.1 (169, "the list is not fresh") (List.mem_of_getElem? (i := 12) rfl)
    exact vx_throwS (own := RX2) (cls := "java/lang/IllegalStateException") (text := "the list is not fresh") (names := xnm) (ik := 59) (is := 169) (ic := 63) (A := nA) hx hb hlt hown (by decide) (by decide) (hts (.classLink RX2 59 "java/lang/IllegalStateException") (List.mem_of_getElem? (i := 1) rfl)) (hts (.initialized "java/lang/IllegalStateException") (List.mem_of_getElem? (i := 2) rfl)) hsa (vx_hat (fun w h => hts w (xin_X2_accept_IS w h)) xb_IS (hz.xb (X := "java/lang/IllegalStateException") (by decide))) (xg_IS) hz.1 hz.2.1 hS (hl.1.trans hml.symm) dX2_accept_7 dX2_accept_10 dX2_accept_11 dX2_accept_13 dX2_accept_16 (fun x h => (hnt x h).elim) (Nat.le_of_ble_eq_true rfl) (Nat.le_of_ble_eq_true rfl) (Nat.le_of_ble_eq_true rfl) (Nat.le_of_ble_eq_true rfl) hlocks (fun t _ hz1 hk1 => ⟨(), trivial, by rw [ef]; rfl, ⟨Nat.le_trans hS.1 hz1, fun q h1 h2 => (hk1 q (Nat.lt_of_lt_of_le h1 hS.1)).trans (hS.2.1 q h1 h2)⟩⟩) hS.2.2 (Nat.le_refl _) (Nat.le_refl _)
def f_X2_settle (zo : Tr) (zt : Tr) (zm : Tr) (zl : Lr) (zf : Int32) (p1 : Int32) (p2 : Int32) : Int32 × Tr × Lr := if (f_X2_requireConflict_x zl p1) = 0 then (if p2 = 1 then (if zf = 0 then ((0, zm, zl)) else (if (f_X0_isSettled zl p1) = 0 then (((f_X0_markSettled zl p1).2.1, (f_X2_takeSide_o zo zm (f_X0_kindAt zl p1) (f_X0_keyAt zl p1) (f_X0_columnAt zl p1)), (f_X0_markSettled zl p1))) else ((0, zm, zl)))) else (if p2 = 2 then (if zf = 0 then ((0, zm, zl)) else (if (f_X0_isSettled zl p1) = 0 then (((f_X0_markSettled zl p1).2.1, (f_X2_takeSide_t zt zm (f_X0_kindAt zl p1) (f_X0_keyAt zl p1) (f_X0_columnAt zl p1)), (f_X0_markSettled zl p1))) else ((0, zm, zl)))) else ((0, zm, zl)))) else ((0, zm, zl))
theorem uin_X2_settle_X2 : ∀ w ∈ wsX20, w ∈ wsX2_settle := fun _ h => List.mem_cons_of_mem _ (List.mem_append_left _ (List.mem_append_left _ (List.mem_append_left _ (List.mem_append_left _ (List.mem_append_right _ h)))))
theorem uin_X2_settle_X0 : ∀ w ∈ wsX00, w ∈ wsX2_settle := fun _ h => List.mem_cons_of_mem _ (List.mem_append_left _ (List.mem_append_left _ (List.mem_append_left _ (List.mem_append_right _ h))))
theorem uin_X2_settle_X1 : ∀ w ∈ wsX10, w ∈ wsX2_settle := fun _ h => List.mem_cons_of_mem _ (List.mem_append_left _ (List.mem_append_left _ (List.mem_append_right _ h)))
def f_X2_settle_x (zl : Lr) (zf : Int32) (p1 : Int32) (p2 : Int32) : Nat := if (f_X2_requireConflict_x zl p1) = 0 then (if p2 = 1 then (if zf = 0 then 3 else (if (f_X0_isSettled zl p1) = 0 then 0 else 3)) else (if p2 = 2 then (if zf = 0 then 3 else (if (f_X0_isSettled zl p1) = 0 then 0 else 3)) else 1)) else (f_X2_requireConflict_x zl p1)
theorem xin_X2_settle_IS : ∀ w ∈ (vx_atS RX2 63 "java/lang/IllegalStateException" ["java/lang/RuntimeException", "java/lang/Exception"]).filter goodWord, w ∈ wsX2_settle := fun _ h => List.mem_cons_of_mem _ (List.mem_append_left _ (List.mem_append_right _ h))
theorem xin_X2_settle_IO : ∀ w ∈ (vx_atS RX2 224 "java/lang/IndexOutOfBoundsException" ["java/lang/RuntimeException", "java/lang/Exception"]).filter goodWord, w ∈ wsX2_settle := fun _ h => List.mem_cons_of_mem _ (List.mem_append_right _ h)
set_option maxHeartbeats 4000000 in
set_option maxRecDepth 100000 in
theorem k_X2_settle (l : Launch) (D : va_G) (cyI cyZ : ClassId) (ad : Nat → Nat) (zb : Tr) (zo : Tr) (zt : Tr) (zm : Tr) (zu : Nat → Int32) (zr : Nat → Int32) (zl : Lr) (zf : Int32) (p1 : Int32) (p2 : Int32) (A : Nat → Prop) (sz : Nat) (hAe : A = va_A (wZ cyI cyZ ad zb zo zt zm zu zr zl zf) sz) (hx9 : f_X2_settle_x zl zf p1 p2 = 0) : Met l yX2_settle wsX2_settle ({ frames := 5, cells := 0, slots := 0, locals := 112 } : Room) (pcM D cyI cyZ sz [.ref (ad 0), .int p1, .int p2] (wZ cyI cyZ ad zb zo zt zm zu zr zl zf)) (mI D A (wZ cyI cyZ ad zb zo zt (f_X2_settle zo zt zm zl zf p1 p2).2.1 zu zr (f_X2_settle zo zt zm zl zf p1 p2).2.2 zf) (f_X2_settle zo zt zm zl zf p1 p2).1) 0 0 A := by
  refine Met.ofW (cc := cX2_settle) (maxL := 4) (ret := (some .int)) (by decide) rfl ?_
  intro p e s m args below meth c s₁ B hml hv
  obtain ⟨rfl, hsz, hP, hG, hD0⟩ := hv
  have hx := B.exec
  have hb := B.bytes
  have hr := B.returns
  have hts := atoms_spec (ws := wsX2_settle) B.pre
  have hown : s.vm.findClass RX2 = some m.cls := findClass_of_methodNamed B.named
  have hlocks := B.notSynchronized
  subst hsz
  have hD : va_D A (wZ cyI cyZ ad zb zo zt zm zu zr zl zf) := by rw [hAe]; exact hD0.self
  have hA : ∀ q : Nat, s.heap.size ≤ q → A q := fun q h => by rw [hAe]; exact Or.inr h
  clear hAe hD0
  have hS : va_S nA s.heap s.heap [] := va_S.rf
  have hl := lv_entry ([.ref (ad 0), .int p1, .int p2]) (n := 4) (Nat.le_of_ble_eq_true rfl)
  rw [lg_entry_eq]
  generalize (lg_sl ([.ref (ad 0), .int p1, .int p2]) ++ List.replicate (4 - (lg_sl ([.ref (ad 0), .int p1, .int p2])).length) Slot.unset).toArray = ls at hl ⊢
  have hl : lv_has ls 4 [(0, .ref (ad 0)), (1, .int p1), (2, .int p2)] := hl
  have hP : va_P D vwCl (wZ cyI cyZ ad zb zo zt zm zu zr zl zf) s.heap := hP
  refine lv_aload_n hx hb dX2_settle_0 rfl (lv_at hl 0 rfl) ?_
  refine lv_iload_n hx hb dX2_settle_1 rfl (lv_at hl 1 rfl) ?_
  by_cases c_2 : (f_X2_requireConflict_x zl p1) = 0
  · refine pr_v (va_runV (As := [.int p1]) (rest := []) ⟨hx, hb, hml, hown, hts⟩ (k_X2_requireConflict l D cyI cyZ ad zb zo zt zm zu zr zl zf p1 c_2) (cwV 1 hts gX2_settle_X2_requireConflict rfl rfl rfl (by decide +kernel) ⟨Nat.le_of_ble_eq_true rfl, Nat.le_of_ble_eq_true rfl⟩) (prV hG hP (ci := 2) rfl rfl rfl) rfl rfl hl.1 rfl (lv_room (Nat.le_of_ble_eq_true rfl)) dX2_settle_2 ⟨Nat.zero_le _, Nat.zero_le _⟩) hS hP (fun H locs hP hS => ?_)
    refine lv_aload_n hx hb dX2_settle_5 rfl (lv_at hl 0 rfl) ?_
    refine lv_iload_n hx hb dX2_settle_6 rfl (lv_at hl 2 rfl) ?_
    by_cases c_7_1 : p2 = 1
    · refine pr_r (va_runV (As := [.int p2]) (rest := []) ⟨hx, hb, hml, hown, hts⟩ (k_X2_sideTable_1 l D cyI cyZ ad zb zo zt zm zu zr zl zf p2 c_7_1) (cwV 1 hts gX2_settle_X2_sideTable rfl rfl rfl (by decide +kernel) ⟨Nat.le_of_ble_eq_true rfl, Nat.le_of_ble_eq_true rfl⟩) (prV hG hP (ci := 2) rfl rfl rfl) rfl rfl hl.1 rfl (lv_room (Nat.le_of_ble_eq_true rfl)) dX2_settle_7 ⟨Nat.zero_le _, Nat.zero_le _⟩) hS hP (fun H locs hP hS => ?_)
      refine lv_astore_n (lv' := [(3, .ref (ad 4)), (0, .ref (ad 0)), (1, .int p1), (2, .int p2)]) hx hb dX2_settle_10 rfl hl (by decide) rfl (fun ls hl => ?_)
      refine lv_aload_n hx hb dX2_settle_11 rfl (lv_at hl 1 rfl) ?_
      refine va_get (D := D) (ci := 2) (v := .int zf) (C := RX2) (T := TX2) (N := 8) hx hb hts uin_X2_settle_X2 hown hG.1 hP 0 rfl rfl 7 (by decide) (hts (.fieldLink RX2 40 "TableSplice" "fresh" "Z") (List.mem_of_getElem? (i := 3) rfl)) (fun _ h9 => h9) rfl dX2_settle_12 ?_
      refine lv_if_ne (tgt := 28) hx hb dX2_settle_15 (by decide) (fun c_15 => ?_) (fun c_15 => ?_)
      · refine lv_aload_n hx hb dX2_settle_28 rfl (lv_at hl 1 rfl) ?_
        refine va_get (D := D) (ci := 2) (v := .ref (ad 15)) (C := RX2) (T := TX2) (N := 8) hx hb hts uin_X2_settle_X2 hown hG.1 hP 0 rfl rfl 6 (by decide) (hts (.fieldLink RX2 36 "TableSplice" "list" "LTableSplice$ConflictList;") (List.mem_of_getElem? (i := 4) rfl)) (fun _ h9 => h9) rfl dX2_settle_29 ?_
        refine lv_iload_n hx hb dX2_settle_32 rfl (lv_at hl 2 rfl) ?_
        refine pr_i (va_runVN (As := [.int p1]) (rest := []) ⟨hx, hb, hml, hown, hts⟩ (k_X0_isSettled l D cyI cyZ (ad 15) (ad 16) (ad 17) (ad 18) (ad 19) zl p1) ⟨va_cnB 1 hts gX2_settle_X0_isSettled_n208 rfl rfl rfl (hG.2.1 (RX2, 208, yX0_isSettled, "TableSplice") (List.mem_of_getElem? (i := 31) rfl)) (hts (.initialized RX0) (List.mem_of_getElem? (i := 13) rfl)) (by decide +kernel) ⟨Nat.le_of_ble_eq_true rfl, Nat.le_of_ble_eq_true rfl⟩, hts (.instanceMethod yX0_isSettled) (List.mem_of_getElem? (i := 23) rfl), hts (.selects RX0 yX0_isSettled yX0_isSettled) (List.mem_of_getElem? (i := 24) rfl)⟩ (prV hG (hP.sub (ws' := wL cyI cyZ (ad 15) (ad 16) (ad 17) (ad 18) (ad 19) zl) [15, 16, 17, 18, 19] rfl) (ci := 0) rfl rfl rfl) rfl rfl hl.1 rfl (lv_room (Nat.le_of_ble_eq_true rfl)) dX2_settle_33 ⟨Nat.zero_le _, Nat.zero_le _⟩) hS hP (fun H locs hP hS => ?_)
        refine lv_if_eq (tgt := 49) hx hb dX2_settle_36 (by decide) (fun c_36 => ?_) (fun c_36 => ?_)
        · refine lv_aload_n hx hb dX2_settle_49 rfl (lv_at hl 1 rfl) ?_
          refine lv_aload_n hx hb dX2_settle_50 rfl (lv_at hl 0 rfl) ?_
          refine lv_aload_n hx hb dX2_settle_51 rfl (lv_at hl 1 rfl) ?_
          refine va_get (D := D) (ci := 2) (v := .ref (ad 15)) (C := RX2) (T := TX2) (N := 8) hx hb hts uin_X2_settle_X2 hown hG.1 hP 0 rfl rfl 6 (by decide) (hts (.fieldLink RX2 36 "TableSplice" "list" "LTableSplice$ConflictList;") (List.mem_of_getElem? (i := 4) rfl)) (fun _ h9 => h9) rfl dX2_settle_52 ?_
          refine lv_iload_n hx hb dX2_settle_55 rfl (lv_at hl 2 rfl) ?_
          refine pr_i (va_runVN (As := [.int p1]) (rest := [.ref (ad 4), .ref (ad 0)]) ⟨hx, hb, hml, hown, hts⟩ (k_X0_kindAt l D cyI cyZ (ad 15) (ad 16) (ad 17) (ad 18) (ad 19) zl p1) ⟨va_cnB 1 hts gX2_settle_X0_kindAt_n199 rfl rfl rfl (hG.2.1 (RX2, 199, yX0_kindAt, "TableSplice") (List.mem_of_getElem? (i := 28) rfl)) (hts (.initialized RX0) (List.mem_of_getElem? (i := 13) rfl)) (by decide +kernel) ⟨Nat.le_of_ble_eq_true rfl, Nat.le_of_ble_eq_true rfl⟩, hts (.instanceMethod yX0_kindAt) (List.mem_of_getElem? (i := 28) rfl), hts (.selects RX0 yX0_kindAt yX0_kindAt) (List.mem_of_getElem? (i := 29) rfl)⟩ (prV hG (hP.sub (ws' := wL cyI cyZ (ad 15) (ad 16) (ad 17) (ad 18) (ad 19) zl) [15, 16, 17, 18, 19] rfl) (ci := 0) rfl rfl rfl) rfl rfl hl.1 rfl (lv_room (Nat.le_of_ble_eq_true rfl)) dX2_settle_56 ⟨Nat.zero_le _, Nat.zero_le _⟩) hS hP (fun H locs hP hS => ?_)
          refine lv_aload_n hx hb dX2_settle_59 rfl (lv_at hl 1 rfl) ?_
          refine va_get (D := D) (ci := 2) (v := .ref (ad 15)) (C := RX2) (T := TX2) (N := 8) hx hb hts uin_X2_settle_X2 hown hG.1 hP 0 rfl rfl 6 (by decide) (hts (.fieldLink RX2 36 "TableSplice" "list" "LTableSplice$ConflictList;") (List.mem_of_getElem? (i := 4) rfl)) (fun _ h9 => h9) rfl dX2_settle_60 ?_
          refine lv_iload_n hx hb dX2_settle_63 rfl (lv_at hl 2 rfl) ?_
          refine pr_i (va_runVN (As := [.int p1]) (rest := [.int (f_X0_kindAt zl p1), .ref (ad 4), .ref (ad 0)]) ⟨hx, hb, hml, hown, hts⟩ (k_X0_keyAt l D cyI cyZ (ad 15) (ad 16) (ad 17) (ad 18) (ad 19) zl p1) ⟨va_cnB 1 hts gX2_settle_X0_keyAt_n202 rfl rfl rfl (hG.2.1 (RX2, 202, yX0_keyAt, "TableSplice") (List.mem_of_getElem? (i := 29) rfl)) (hts (.initialized RX0) (List.mem_of_getElem? (i := 13) rfl)) (by decide +kernel) ⟨Nat.le_of_ble_eq_true rfl, Nat.le_of_ble_eq_true rfl⟩, hts (.instanceMethod yX0_keyAt) (List.mem_of_getElem? (i := 32) rfl), hts (.selects RX0 yX0_keyAt yX0_keyAt) (List.mem_of_getElem? (i := 33) rfl)⟩ (prV hG (hP.sub (ws' := wL cyI cyZ (ad 15) (ad 16) (ad 17) (ad 18) (ad 19) zl) [15, 16, 17, 18, 19] rfl) (ci := 0) rfl rfl rfl) rfl rfl hl.1 rfl (lv_room (Nat.le_of_ble_eq_true rfl)) dX2_settle_64 ⟨Nat.zero_le _, Nat.zero_le _⟩) hS hP (fun H locs hP hS => ?_)
          refine lv_aload_n hx hb dX2_settle_67 rfl (lv_at hl 1 rfl) ?_
          refine va_get (D := D) (ci := 2) (v := .ref (ad 15)) (C := RX2) (T := TX2) (N := 8) hx hb hts uin_X2_settle_X2 hown hG.1 hP 0 rfl rfl 6 (by decide) (hts (.fieldLink RX2 36 "TableSplice" "list" "LTableSplice$ConflictList;") (List.mem_of_getElem? (i := 4) rfl)) (fun _ h9 => h9) rfl dX2_settle_68 ?_
          refine lv_iload_n hx hb dX2_settle_71 rfl (lv_at hl 2 rfl) ?_
          refine pr_i (va_runVN (As := [.int p1]) (rest := [.int (f_X0_keyAt zl p1), .int (f_X0_kindAt zl p1), .ref (ad 4), .ref (ad 0)]) ⟨hx, hb, hml, hown, hts⟩ (k_X0_columnAt l D cyI cyZ (ad 15) (ad 16) (ad 17) (ad 18) (ad 19) zl p1) ⟨va_cnB 1 hts gX2_settle_X0_columnAt_n205 rfl rfl rfl (hG.2.1 (RX2, 205, yX0_columnAt, "TableSplice") (List.mem_of_getElem? (i := 30) rfl)) (hts (.initialized RX0) (List.mem_of_getElem? (i := 13) rfl)) (by decide +kernel) ⟨Nat.le_of_ble_eq_true rfl, Nat.le_of_ble_eq_true rfl⟩, hts (.instanceMethod yX0_columnAt) (List.mem_of_getElem? (i := 36) rfl), hts (.selects RX0 yX0_columnAt yX0_columnAt) (List.mem_of_getElem? (i := 37) rfl)⟩ (prV hG (hP.sub (ws' := wL cyI cyZ (ad 15) (ad 16) (ad 17) (ad 18) (ad 19) zl) [15, 16, 17, 18, 19] rfl) (ci := 0) rfl rfl rfl) rfl rfl hl.1 rfl (lv_room (Nat.le_of_ble_eq_true rfl)) dX2_settle_72 ⟨Nat.zero_le _, Nat.zero_le _⟩) hS hP (fun H locs hP hS => ?_)
          have hS := sw_n (B := A) hS
          refine mr_v0 (va_runV (As := [.ref (ad 4), .int (f_X0_kindAt zl p1), .int (f_X0_keyAt zl p1), .int (f_X0_columnAt zl p1)]) (rest := []) ⟨hx, hb, hml, hown, hts⟩ (k_X2_takeSide_o l D cyI cyZ ad zb zo zt zm zu zr zl zf (f_X0_kindAt zl p1) (f_X0_keyAt zl p1) (f_X0_columnAt zl p1) _ _ rfl) (cwV 4 hts gX2_settle_X2_takeSide rfl rfl rfl (by decide +kernel) ⟨Nat.le_of_ble_eq_true rfl, Nat.le_of_ble_eq_true rfl⟩) (pmV hG hP hD (ci := 2) rfl rfl rfl) rfl rfl hl.1 rfl (lv_room (Nat.le_of_ble_eq_true rfl)) dX2_settle_75 ⟨Nat.zero_le _, Nat.zero_le _⟩) hD hS hA (fun H locs hP hD hS => ?_)
          have hP : va_P D vwCl (wZ cyI cyZ ad zb zo zt (f_X2_takeSide_o zo zm (f_X0_kindAt zl p1) (f_X0_keyAt zl p1) (f_X0_columnAt zl p1)) zu zr zl zf) H := hP
          have hD : va_D A (wZ cyI cyZ ad zb zo zt (f_X2_takeSide_o zo zm (f_X0_kindAt zl p1) (f_X0_keyAt zl p1) (f_X0_columnAt zl p1)) zu zr zl zf) := hD
          refine lv_aload_n hx hb dX2_settle_78 rfl (lv_at hl 1 rfl) ?_
          refine va_get (D := D) (ci := 2) (v := .ref (ad 15)) (C := RX2) (T := TX2) (N := 8) hx hb hts uin_X2_settle_X2 hown hG.1 hP 0 rfl rfl 6 (by decide) (hts (.fieldLink RX2 36 "TableSplice" "list" "LTableSplice$ConflictList;") (List.mem_of_getElem? (i := 4) rfl)) (fun _ h9 => h9) rfl dX2_settle_79 ?_
          refine lv_iload_n hx hb dX2_settle_82 rfl (lv_at hl 2 rfl) ?_
          refine mr_v (va_runVN (As := [.int p1]) (rest := []) ⟨hx, hb, hml, hown, hts⟩ (k_X0_markSettled l D cyI cyZ (ad 15) (ad 16) (ad 17) (ad 18) (ad 19) zl p1 _ _ rfl) ⟨va_cnB 1 hts gX2_settle_X0_markSettled_n217 rfl rfl rfl (hG.2.1 (RX2, 217, yX0_markSettled, "TableSplice") (List.mem_of_getElem? (i := 32) rfl)) (hts (.initialized RX0) (List.mem_of_getElem? (i := 13) rfl)) (by decide +kernel) ⟨Nat.le_of_ble_eq_true rfl, Nat.le_of_ble_eq_true rfl⟩, hts (.instanceMethod yX0_markSettled) (List.mem_of_getElem? (i := 81) rfl), hts (.selects RX0 yX0_markSettled yX0_markSettled) (List.mem_of_getElem? (i := 82) rfl)⟩ (pmV hG (hP.sub (ws' := wL cyI cyZ (ad 15) (ad 16) (ad 17) (ad 18) (ad 19) zl) [15, 16, 17, 18, 19] rfl) (hD.sub (ws' := wL cyI cyZ (ad 15) (ad 16) (ad 17) (ad 18) (ad 19) zl) [15, 16, 17, 18, 19] (by decide) rfl) (ci := 0) rfl rfl rfl) rfl rfl hl.1 rfl (lv_room (Nat.le_of_ble_eq_true rfl)) dX2_settle_83 ⟨Nat.zero_le _, Nat.zero_le _⟩) hP hD hS hA [15, 16, 17, 18, 19] [0, 1, 2, 3, 4, 5, 6, 7, 8, 9, 10, 11, 12, 13, 14] [0, 1, 2, 3, 4, 5, 6, 7, 8, 9, 10, 11, 12, 13, 14, 15, 16, 17, 18, 19] rfl rfl (by decide) (by decide) (by decide) (w2 := wZ cyI cyZ ad zb zo zt (f_X2_takeSide_o zo zm (f_X0_kindAt zl p1) (f_X0_keyAt zl p1) (f_X0_columnAt zl p1)) zu zr (f_X0_markSettled zl p1) zf) rfl (fun H locs hP hD hS => ?_)
          have hP : va_P D vwCl (wZ cyI cyZ ad zb zo zt (f_X2_takeSide_o zo zm (f_X0_kindAt zl p1) (f_X0_keyAt zl p1) (f_X0_columnAt zl p1)) zu zr (f_X0_markSettled zl p1) zf) H := hP
          have hD : va_D A (wZ cyI cyZ ad zb zo zt (f_X2_takeSide_o zo zm (f_X0_kindAt zl p1) (f_X0_keyAt zl p1) (f_X0_columnAt zl p1)) zu zr (f_X0_markSettled zl p1) zf) := hD
          refine lv_aload_n hx hb dX2_settle_86 rfl (lv_at hl 1 rfl) ?_
          refine va_get (D := D) (ci := 2) (v := .ref (ad 15)) (C := RX2) (T := TX2) (N := 8) hx hb hts uin_X2_settle_X2 hown hG.1 hP 0 rfl rfl 6 (by decide) (hts (.fieldLink RX2 36 "TableSplice" "list" "LTableSplice$ConflictList;") (List.mem_of_getElem? (i := 4) rfl)) (fun _ h9 => h9) rfl dX2_settle_87 ?_
          refine va_getN (D := D) (ci := 0) (v := .int ((f_X0_markSettled zl p1).2.1)) (C := RX0) (T := TX0) (N := 6) hx hb hts uin_X2_settle_X0 hown hG.1 hP 15 rfl rfl 1 (by decide) (va_Nw.use rfl (hG.2.2 ("TableSplice", 171, "TableSplice$ConflictList", "openCount", "I", "TableSplice") (List.mem_of_getElem? (i := 3) rfl))) (fun _ h9 => h9) rfl dX2_settle_90 ?_
          have ef : f_X2_settle zo zt zm zl zf p1 p2 = ((f_X0_markSettled zl p1).2.1, (f_X2_takeSide_o zo zm (f_X0_kindAt zl p1) (f_X0_keyAt zl p1) (f_X0_columnAt zl p1)), (f_X0_markSettled zl p1)) := by rw [f_X2_settle, if_pos c_2, if_pos c_7_1, if_neg c_15, if_pos c_36]
          exact W.iret (v := (f_X0_markSettled zl p1).2.1) hx hb hr (fun t ht hW => ⟨⟨(f_X0_markSettled zl p1).2.1, (), rfl, by rw [ef], by rw [ht, ef]; exact hP, by rw [ef]; exact hD⟩, hS.F ht⟩) hS.2.2 dX2_settle_93
        · exact absurd hx9 (by rw [f_X2_settle_x, if_pos c_2, if_pos c_7_1, if_neg c_15, if_neg c_36]; decide)
      · exact absurd hx9 (by rw [f_X2_settle_x, if_pos c_2, if_pos c_7_1, if_pos c_15]; decide)
    · by_cases c_7_2 : p2 = 2
      · refine pr_r (va_runV (As := [.int p2]) (rest := []) ⟨hx, hb, hml, hown, hts⟩ (k_X2_sideTable_2 l D cyI cyZ ad zb zo zt zm zu zr zl zf p2 c_7_2) (cwV 1 hts gX2_settle_X2_sideTable rfl rfl rfl (by decide +kernel) ⟨Nat.le_of_ble_eq_true rfl, Nat.le_of_ble_eq_true rfl⟩) (prV hG hP (ci := 2) rfl rfl rfl) rfl rfl hl.1 rfl (lv_room (Nat.le_of_ble_eq_true rfl)) dX2_settle_7 ⟨Nat.zero_le _, Nat.zero_le _⟩) hS hP (fun H locs hP hS => ?_)
        refine lv_astore_n (lv' := [(3, .ref (ad 7)), (0, .ref (ad 0)), (1, .int p1), (2, .int p2)]) hx hb dX2_settle_10 rfl hl (by decide) rfl (fun ls hl => ?_)
        refine lv_aload_n hx hb dX2_settle_11 rfl (lv_at hl 1 rfl) ?_
        refine va_get (D := D) (ci := 2) (v := .int zf) (C := RX2) (T := TX2) (N := 8) hx hb hts uin_X2_settle_X2 hown hG.1 hP 0 rfl rfl 7 (by decide) (hts (.fieldLink RX2 40 "TableSplice" "fresh" "Z") (List.mem_of_getElem? (i := 3) rfl)) (fun _ h9 => h9) rfl dX2_settle_12 ?_
        refine lv_if_ne (tgt := 28) hx hb dX2_settle_15 (by decide) (fun c_15 => ?_) (fun c_15 => ?_)
        · refine lv_aload_n hx hb dX2_settle_28 rfl (lv_at hl 1 rfl) ?_
          refine va_get (D := D) (ci := 2) (v := .ref (ad 15)) (C := RX2) (T := TX2) (N := 8) hx hb hts uin_X2_settle_X2 hown hG.1 hP 0 rfl rfl 6 (by decide) (hts (.fieldLink RX2 36 "TableSplice" "list" "LTableSplice$ConflictList;") (List.mem_of_getElem? (i := 4) rfl)) (fun _ h9 => h9) rfl dX2_settle_29 ?_
          refine lv_iload_n hx hb dX2_settle_32 rfl (lv_at hl 2 rfl) ?_
          refine pr_i (va_runVN (As := [.int p1]) (rest := []) ⟨hx, hb, hml, hown, hts⟩ (k_X0_isSettled l D cyI cyZ (ad 15) (ad 16) (ad 17) (ad 18) (ad 19) zl p1) ⟨va_cnB 1 hts gX2_settle_X0_isSettled_n208 rfl rfl rfl (hG.2.1 (RX2, 208, yX0_isSettled, "TableSplice") (List.mem_of_getElem? (i := 31) rfl)) (hts (.initialized RX0) (List.mem_of_getElem? (i := 13) rfl)) (by decide +kernel) ⟨Nat.le_of_ble_eq_true rfl, Nat.le_of_ble_eq_true rfl⟩, hts (.instanceMethod yX0_isSettled) (List.mem_of_getElem? (i := 23) rfl), hts (.selects RX0 yX0_isSettled yX0_isSettled) (List.mem_of_getElem? (i := 24) rfl)⟩ (prV hG (hP.sub (ws' := wL cyI cyZ (ad 15) (ad 16) (ad 17) (ad 18) (ad 19) zl) [15, 16, 17, 18, 19] rfl) (ci := 0) rfl rfl rfl) rfl rfl hl.1 rfl (lv_room (Nat.le_of_ble_eq_true rfl)) dX2_settle_33 ⟨Nat.zero_le _, Nat.zero_le _⟩) hS hP (fun H locs hP hS => ?_)
          refine lv_if_eq (tgt := 49) hx hb dX2_settle_36 (by decide) (fun c_36 => ?_) (fun c_36 => ?_)
          · refine lv_aload_n hx hb dX2_settle_49 rfl (lv_at hl 1 rfl) ?_
            refine lv_aload_n hx hb dX2_settle_50 rfl (lv_at hl 0 rfl) ?_
            refine lv_aload_n hx hb dX2_settle_51 rfl (lv_at hl 1 rfl) ?_
            refine va_get (D := D) (ci := 2) (v := .ref (ad 15)) (C := RX2) (T := TX2) (N := 8) hx hb hts uin_X2_settle_X2 hown hG.1 hP 0 rfl rfl 6 (by decide) (hts (.fieldLink RX2 36 "TableSplice" "list" "LTableSplice$ConflictList;") (List.mem_of_getElem? (i := 4) rfl)) (fun _ h9 => h9) rfl dX2_settle_52 ?_
            refine lv_iload_n hx hb dX2_settle_55 rfl (lv_at hl 2 rfl) ?_
            refine pr_i (va_runVN (As := [.int p1]) (rest := [.ref (ad 7), .ref (ad 0)]) ⟨hx, hb, hml, hown, hts⟩ (k_X0_kindAt l D cyI cyZ (ad 15) (ad 16) (ad 17) (ad 18) (ad 19) zl p1) ⟨va_cnB 1 hts gX2_settle_X0_kindAt_n199 rfl rfl rfl (hG.2.1 (RX2, 199, yX0_kindAt, "TableSplice") (List.mem_of_getElem? (i := 28) rfl)) (hts (.initialized RX0) (List.mem_of_getElem? (i := 13) rfl)) (by decide +kernel) ⟨Nat.le_of_ble_eq_true rfl, Nat.le_of_ble_eq_true rfl⟩, hts (.instanceMethod yX0_kindAt) (List.mem_of_getElem? (i := 28) rfl), hts (.selects RX0 yX0_kindAt yX0_kindAt) (List.mem_of_getElem? (i := 29) rfl)⟩ (prV hG (hP.sub (ws' := wL cyI cyZ (ad 15) (ad 16) (ad 17) (ad 18) (ad 19) zl) [15, 16, 17, 18, 19] rfl) (ci := 0) rfl rfl rfl) rfl rfl hl.1 rfl (lv_room (Nat.le_of_ble_eq_true rfl)) dX2_settle_56 ⟨Nat.zero_le _, Nat.zero_le _⟩) hS hP (fun H locs hP hS => ?_)
            refine lv_aload_n hx hb dX2_settle_59 rfl (lv_at hl 1 rfl) ?_
            refine va_get (D := D) (ci := 2) (v := .ref (ad 15)) (C := RX2) (T := TX2) (N := 8) hx hb hts uin_X2_settle_X2 hown hG.1 hP 0 rfl rfl 6 (by decide) (hts (.fieldLink RX2 36 "TableSplice" "list" "LTableSplice$ConflictList;") (List.mem_of_getElem? (i := 4) rfl)) (fun _ h9 => h9) rfl dX2_settle_60 ?_
            refine lv_iload_n hx hb dX2_settle_63 rfl (lv_at hl 2 rfl) ?_
            refine pr_i (va_runVN (As := [.int p1]) (rest := [.int (f_X0_kindAt zl p1), .ref (ad 7), .ref (ad 0)]) ⟨hx, hb, hml, hown, hts⟩ (k_X0_keyAt l D cyI cyZ (ad 15) (ad 16) (ad 17) (ad 18) (ad 19) zl p1) ⟨va_cnB 1 hts gX2_settle_X0_keyAt_n202 rfl rfl rfl (hG.2.1 (RX2, 202, yX0_keyAt, "TableSplice") (List.mem_of_getElem? (i := 29) rfl)) (hts (.initialized RX0) (List.mem_of_getElem? (i := 13) rfl)) (by decide +kernel) ⟨Nat.le_of_ble_eq_true rfl, Nat.le_of_ble_eq_true rfl⟩, hts (.instanceMethod yX0_keyAt) (List.mem_of_getElem? (i := 32) rfl), hts (.selects RX0 yX0_keyAt yX0_keyAt) (List.mem_of_getElem? (i := 33) rfl)⟩ (prV hG (hP.sub (ws' := wL cyI cyZ (ad 15) (ad 16) (ad 17) (ad 18) (ad 19) zl) [15, 16, 17, 18, 19] rfl) (ci := 0) rfl rfl rfl) rfl rfl hl.1 rfl (lv_room (Nat.le_of_ble_eq_true rfl)) dX2_settle_64 ⟨Nat.zero_le _, Nat.zero_le _⟩) hS hP (fun H locs hP hS => ?_)
            refine lv_aload_n hx hb dX2_settle_67 rfl (lv_at hl 1 rfl) ?_
            refine va_get (D := D) (ci := 2) (v := .ref (ad 15)) (C := RX2) (T := TX2) (N := 8) hx hb hts uin_X2_settle_X2 hown hG.1 hP 0 rfl rfl 6 (by decide) (hts (.fieldLink RX2 36 "TableSplice" "list" "LTableSplice$ConflictList;") (List.mem_of_getElem? (i := 4) rfl)) (fun _ h9 => h9) rfl dX2_settle_68 ?_
            refine lv_iload_n hx hb dX2_settle_71 rfl (lv_at hl 2 rfl) ?_
            refine pr_i (va_runVN (As := [.int p1]) (rest := [.int (f_X0_keyAt zl p1), .int (f_X0_kindAt zl p1), .ref (ad 7), .ref (ad 0)]) ⟨hx, hb, hml, hown, hts⟩ (k_X0_columnAt l D cyI cyZ (ad 15) (ad 16) (ad 17) (ad 18) (ad 19) zl p1) ⟨va_cnB 1 hts gX2_settle_X0_columnAt_n205 rfl rfl rfl (hG.2.1 (RX2, 205, yX0_columnAt, "TableSplice") (List.mem_of_getElem? (i := 30) rfl)) (hts (.initialized RX0) (List.mem_of_getElem? (i := 13) rfl)) (by decide +kernel) ⟨Nat.le_of_ble_eq_true rfl, Nat.le_of_ble_eq_true rfl⟩, hts (.instanceMethod yX0_columnAt) (List.mem_of_getElem? (i := 36) rfl), hts (.selects RX0 yX0_columnAt yX0_columnAt) (List.mem_of_getElem? (i := 37) rfl)⟩ (prV hG (hP.sub (ws' := wL cyI cyZ (ad 15) (ad 16) (ad 17) (ad 18) (ad 19) zl) [15, 16, 17, 18, 19] rfl) (ci := 0) rfl rfl rfl) rfl rfl hl.1 rfl (lv_room (Nat.le_of_ble_eq_true rfl)) dX2_settle_72 ⟨Nat.zero_le _, Nat.zero_le _⟩) hS hP (fun H locs hP hS => ?_)
            have hS := sw_n (B := A) hS
            refine mr_v0 (va_runV (As := [.ref (ad 7), .int (f_X0_kindAt zl p1), .int (f_X0_keyAt zl p1), .int (f_X0_columnAt zl p1)]) (rest := []) ⟨hx, hb, hml, hown, hts⟩ (k_X2_takeSide_t l D cyI cyZ ad zb zo zt zm zu zr zl zf (f_X0_kindAt zl p1) (f_X0_keyAt zl p1) (f_X0_columnAt zl p1) _ _ rfl) (cwV 4 hts gX2_settle_X2_takeSide rfl rfl rfl (by decide +kernel) ⟨Nat.le_of_ble_eq_true rfl, Nat.le_of_ble_eq_true rfl⟩) (pmV hG hP hD (ci := 2) rfl rfl rfl) rfl rfl hl.1 rfl (lv_room (Nat.le_of_ble_eq_true rfl)) dX2_settle_75 ⟨Nat.zero_le _, Nat.zero_le _⟩) hD hS hA (fun H locs hP hD hS => ?_)
            have hP : va_P D vwCl (wZ cyI cyZ ad zb zo zt (f_X2_takeSide_t zt zm (f_X0_kindAt zl p1) (f_X0_keyAt zl p1) (f_X0_columnAt zl p1)) zu zr zl zf) H := hP
            have hD : va_D A (wZ cyI cyZ ad zb zo zt (f_X2_takeSide_t zt zm (f_X0_kindAt zl p1) (f_X0_keyAt zl p1) (f_X0_columnAt zl p1)) zu zr zl zf) := hD
            refine lv_aload_n hx hb dX2_settle_78 rfl (lv_at hl 1 rfl) ?_
            refine va_get (D := D) (ci := 2) (v := .ref (ad 15)) (C := RX2) (T := TX2) (N := 8) hx hb hts uin_X2_settle_X2 hown hG.1 hP 0 rfl rfl 6 (by decide) (hts (.fieldLink RX2 36 "TableSplice" "list" "LTableSplice$ConflictList;") (List.mem_of_getElem? (i := 4) rfl)) (fun _ h9 => h9) rfl dX2_settle_79 ?_
            refine lv_iload_n hx hb dX2_settle_82 rfl (lv_at hl 2 rfl) ?_
            refine mr_v (va_runVN (As := [.int p1]) (rest := []) ⟨hx, hb, hml, hown, hts⟩ (k_X0_markSettled l D cyI cyZ (ad 15) (ad 16) (ad 17) (ad 18) (ad 19) zl p1 _ _ rfl) ⟨va_cnB 1 hts gX2_settle_X0_markSettled_n217 rfl rfl rfl (hG.2.1 (RX2, 217, yX0_markSettled, "TableSplice") (List.mem_of_getElem? (i := 32) rfl)) (hts (.initialized RX0) (List.mem_of_getElem? (i := 13) rfl)) (by decide +kernel) ⟨Nat.le_of_ble_eq_true rfl, Nat.le_of_ble_eq_true rfl⟩, hts (.instanceMethod yX0_markSettled) (List.mem_of_getElem? (i := 81) rfl), hts (.selects RX0 yX0_markSettled yX0_markSettled) (List.mem_of_getElem? (i := 82) rfl)⟩ (pmV hG (hP.sub (ws' := wL cyI cyZ (ad 15) (ad 16) (ad 17) (ad 18) (ad 19) zl) [15, 16, 17, 18, 19] rfl) (hD.sub (ws' := wL cyI cyZ (ad 15) (ad 16) (ad 17) (ad 18) (ad 19) zl) [15, 16, 17, 18, 19] (by decide) rfl) (ci := 0) rfl rfl rfl) rfl rfl hl.1 rfl (lv_room (Nat.le_of_ble_eq_true rfl)) dX2_settle_83 ⟨Nat.zero_le _, Nat.zero_le _⟩) hP hD hS hA [15, 16, 17, 18, 19] [0, 1, 2, 3, 4, 5, 6, 7, 8, 9, 10, 11, 12, 13, 14] [0, 1, 2, 3, 4, 5, 6, 7, 8, 9, 10, 11, 12, 13, 14, 15, 16, 17, 18, 19] rfl rfl (by decide) (by decide) (by decide) (w2 := wZ cyI cyZ ad zb zo zt (f_X2_takeSide_t zt zm (f_X0_kindAt zl p1) (f_X0_keyAt zl p1) (f_X0_columnAt zl p1)) zu zr (f_X0_markSettled zl p1) zf) rfl (fun H locs hP hD hS => ?_)
            have hP : va_P D vwCl (wZ cyI cyZ ad zb zo zt (f_X2_takeSide_t zt zm (f_X0_kindAt zl p1) (f_X0_keyAt zl p1) (f_X0_columnAt zl p1)) zu zr (f_X0_markSettled zl p1) zf) H := hP
            have hD : va_D A (wZ cyI cyZ ad zb zo zt (f_X2_takeSide_t zt zm (f_X0_kindAt zl p1) (f_X0_keyAt zl p1) (f_X0_columnAt zl p1)) zu zr (f_X0_markSettled zl p1) zf) := hD
            refine lv_aload_n hx hb dX2_settle_86 rfl (lv_at hl 1 rfl) ?_
            refine va_get (D := D) (ci := 2) (v := .ref (ad 15)) (C := RX2) (T := TX2) (N := 8) hx hb hts uin_X2_settle_X2 hown hG.1 hP 0 rfl rfl 6 (by decide) (hts (.fieldLink RX2 36 "TableSplice" "list" "LTableSplice$ConflictList;") (List.mem_of_getElem? (i := 4) rfl)) (fun _ h9 => h9) rfl dX2_settle_87 ?_
            refine va_getN (D := D) (ci := 0) (v := .int ((f_X0_markSettled zl p1).2.1)) (C := RX0) (T := TX0) (N := 6) hx hb hts uin_X2_settle_X0 hown hG.1 hP 15 rfl rfl 1 (by decide) (va_Nw.use rfl (hG.2.2 ("TableSplice", 171, "TableSplice$ConflictList", "openCount", "I", "TableSplice") (List.mem_of_getElem? (i := 3) rfl))) (fun _ h9 => h9) rfl dX2_settle_90 ?_
            have ef : f_X2_settle zo zt zm zl zf p1 p2 = ((f_X0_markSettled zl p1).2.1, (f_X2_takeSide_t zt zm (f_X0_kindAt zl p1) (f_X0_keyAt zl p1) (f_X0_columnAt zl p1)), (f_X0_markSettled zl p1)) := by rw [f_X2_settle, if_pos c_2, if_neg c_7_1, if_pos c_7_2, if_neg c_15, if_pos c_36]
            exact W.iret (v := (f_X0_markSettled zl p1).2.1) hx hb hr (fun t ht hW => ⟨⟨(f_X0_markSettled zl p1).2.1, (), rfl, by rw [ef], by rw [ht, ef]; exact hP, by rw [ef]; exact hD⟩, hS.F ht⟩) hS.2.2 dX2_settle_93
          · exact absurd hx9 (by rw [f_X2_settle_x, if_pos c_2, if_neg c_7_1, if_pos c_7_2, if_neg c_15, if_neg c_36]; decide)
        · exact absurd hx9 (by rw [f_X2_settle_x, if_pos c_2, if_neg c_7_1, if_pos c_7_2, if_pos c_15]; decide)
      · exact absurd hx9 (by rw [f_X2_settle_x, if_pos c_2, if_neg c_7_1, if_neg c_7_2]; decide)
  · exact absurd hx9 (by rw [f_X2_settle_x, if_neg c_2]; exact c_2)
set_option maxHeartbeats 4000000 in
set_option maxRecDepth 100000 in
theorem t_X2_settle (l : Launch) (hlt : l.stackTraces = false) (D : va_G) (cyI cyZ : ClassId) (ad : Nat → Nat) (zb : Tr) (zo : Tr) (zt : Tr) (zm : Tr) (zu : Nat → Int32) (zr : Nat → Int32) (zl : Lr) (zf : Int32) (p1 : Int32) (p2 : Int32) (hx9 : ¬ f_X2_settle_x zl zf p1 p2 = 0) : vx_Met l yX2_settle wsX2_settle ({ frames := 7, cells := 1, slots := 6, locals := 121 } : Room) (pcT D cyI cyZ [.ref (ad 0), .int p1, .int p2] (wZ cyI cyZ ad zb zo zt zm zu zr zl zf)) qFi (xX (f_X2_settle_x zl zf p1 p2)) 1 6 nA := by
  refine vx_ofW (cc := cX2_settle) (maxL := 4) (ret := (some .int)) (by decide) rfl ?_
  intro p e s m args below meth c s₁ B hml hnt hv
  obtain ⟨rfl, hP, hG, hz⟩ := hv
  have hx := B.exec
  have hb := B.bytes
  have hr := B.returns
  have hts := atoms_spec (ws := wsX2_settle) B.pre
  have hown : s.vm.findClass RX2 = some m.cls := findClass_of_methodNamed B.named
  have hlocks := B.notSynchronized
  have hS : va_S nA s.heap s.heap [] := va_S.rf
  have hl := lv_entry ([.ref (ad 0), .int p1, .int p2]) (n := 4) (Nat.le_of_ble_eq_true rfl)
  rw [lg_entry_eq]
  generalize (lg_sl ([.ref (ad 0), .int p1, .int p2]) ++ List.replicate (4 - (lg_sl ([.ref (ad 0), .int p1, .int p2])).length) Slot.unset).toArray = ls at hl ⊢
  have hl : lv_has ls 4 [(0, .ref (ad 0)), (1, .int p1), (2, .int p2)] := hl
  have hP : va_P D vwCl (wZ cyI cyZ ad zb zo zt zm zu zr zl zf) s.heap := hP
  refine lv_aload_n hx hb dX2_settle_0 rfl (lv_at hl 0 rfl) ?_
  refine lv_iload_n hx hb dX2_settle_1 rfl (lv_at hl 1 rfl) ?_
  by_cases c_2 : (f_X2_requireConflict_x zl p1) = 0
  · refine pr_v (va_runV (As := [.int p1]) (rest := []) ⟨hx, hb, hml, hown, hts⟩ (k_X2_requireConflict l D cyI cyZ ad zb zo zt zm zu zr zl zf p1 c_2) (cwV 1 hts gX2_settle_X2_requireConflict rfl rfl rfl (by decide +kernel) ⟨Nat.le_of_ble_eq_true rfl, Nat.le_of_ble_eq_true rfl⟩) (prV hG hP (ci := 2) rfl rfl rfl) rfl rfl hl.1 rfl (lv_room (Nat.le_of_ble_eq_true rfl)) dX2_settle_2 ⟨Nat.zero_le _, Nat.zero_le _⟩) hS hP (fun H locs hP hS => ?_)
    refine lv_aload_n hx hb dX2_settle_5 rfl (lv_at hl 0 rfl) ?_
    refine lv_iload_n hx hb dX2_settle_6 rfl (lv_at hl 2 rfl) ?_
    by_cases c_7_1 : p2 = 1
    · refine pr_r (va_runV (As := [.int p2]) (rest := []) ⟨hx, hb, hml, hown, hts⟩ (k_X2_sideTable_1 l D cyI cyZ ad zb zo zt zm zu zr zl zf p2 c_7_1) (cwV 1 hts gX2_settle_X2_sideTable rfl rfl rfl (by decide +kernel) ⟨Nat.le_of_ble_eq_true rfl, Nat.le_of_ble_eq_true rfl⟩) (prV hG hP (ci := 2) rfl rfl rfl) rfl rfl hl.1 rfl (lv_room (Nat.le_of_ble_eq_true rfl)) dX2_settle_7 ⟨Nat.zero_le _, Nat.zero_le _⟩) hS hP (fun H locs hP hS => ?_)
      refine lv_astore_n (lv' := [(3, .ref (ad 4)), (0, .ref (ad 0)), (1, .int p1), (2, .int p2)]) hx hb dX2_settle_10 rfl hl (by decide) rfl (fun ls hl => ?_)
      refine lv_aload_n hx hb dX2_settle_11 rfl (lv_at hl 1 rfl) ?_
      refine va_get (D := D) (ci := 2) (v := .int zf) (C := RX2) (T := TX2) (N := 8) hx hb hts uin_X2_settle_X2 hown hG.1 hP 0 rfl rfl 7 (by decide) (hts (.fieldLink RX2 40 "TableSplice" "fresh" "Z") (List.mem_of_getElem? (i := 3) rfl)) (fun _ h9 => h9) rfl dX2_settle_12 ?_
      refine lv_if_ne (tgt := 28) hx hb dX2_settle_15 (by decide) (fun c_15 => ?_) (fun c_15 => ?_)
      · refine lv_aload_n hx hb dX2_settle_28 rfl (lv_at hl 1 rfl) ?_
        refine va_get (D := D) (ci := 2) (v := .ref (ad 15)) (C := RX2) (T := TX2) (N := 8) hx hb hts uin_X2_settle_X2 hown hG.1 hP 0 rfl rfl 6 (by decide) (hts (.fieldLink RX2 36 "TableSplice" "list" "LTableSplice$ConflictList;") (List.mem_of_getElem? (i := 4) rfl)) (fun _ h9 => h9) rfl dX2_settle_29 ?_
        refine lv_iload_n hx hb dX2_settle_32 rfl (lv_at hl 2 rfl) ?_
        refine pr_i (va_runVN (As := [.int p1]) (rest := []) ⟨hx, hb, hml, hown, hts⟩ (k_X0_isSettled l D cyI cyZ (ad 15) (ad 16) (ad 17) (ad 18) (ad 19) zl p1) ⟨va_cnB 1 hts gX2_settle_X0_isSettled_n208 rfl rfl rfl (hG.2.1 (RX2, 208, yX0_isSettled, "TableSplice") (List.mem_of_getElem? (i := 31) rfl)) (hts (.initialized RX0) (List.mem_of_getElem? (i := 13) rfl)) (by decide +kernel) ⟨Nat.le_of_ble_eq_true rfl, Nat.le_of_ble_eq_true rfl⟩, hts (.instanceMethod yX0_isSettled) (List.mem_of_getElem? (i := 23) rfl), hts (.selects RX0 yX0_isSettled yX0_isSettled) (List.mem_of_getElem? (i := 24) rfl)⟩ (prV hG (hP.sub (ws' := wL cyI cyZ (ad 15) (ad 16) (ad 17) (ad 18) (ad 19) zl) [15, 16, 17, 18, 19] rfl) (ci := 0) rfl rfl rfl) rfl rfl hl.1 rfl (lv_room (Nat.le_of_ble_eq_true rfl)) dX2_settle_33 ⟨Nat.zero_le _, Nat.zero_le _⟩) hS hP (fun H locs hP hS => ?_)
        refine lv_if_eq (tgt := 49) hx hb dX2_settle_36 (by decide) (fun c_36 => ?_) (fun c_36 => ?_)
        · refine lv_aload_n hx hb dX2_settle_49 rfl (lv_at hl 1 rfl) ?_
          refine lv_aload_n hx hb dX2_settle_50 rfl (lv_at hl 0 rfl) ?_
          refine lv_aload_n hx hb dX2_settle_51 rfl (lv_at hl 1 rfl) ?_
          refine va_get (D := D) (ci := 2) (v := .ref (ad 15)) (C := RX2) (T := TX2) (N := 8) hx hb hts uin_X2_settle_X2 hown hG.1 hP 0 rfl rfl 6 (by decide) (hts (.fieldLink RX2 36 "TableSplice" "list" "LTableSplice$ConflictList;") (List.mem_of_getElem? (i := 4) rfl)) (fun _ h9 => h9) rfl dX2_settle_52 ?_
          refine lv_iload_n hx hb dX2_settle_55 rfl (lv_at hl 2 rfl) ?_
          refine pr_i (va_runVN (As := [.int p1]) (rest := [.ref (ad 4), .ref (ad 0)]) ⟨hx, hb, hml, hown, hts⟩ (k_X0_kindAt l D cyI cyZ (ad 15) (ad 16) (ad 17) (ad 18) (ad 19) zl p1) ⟨va_cnB 1 hts gX2_settle_X0_kindAt_n199 rfl rfl rfl (hG.2.1 (RX2, 199, yX0_kindAt, "TableSplice") (List.mem_of_getElem? (i := 28) rfl)) (hts (.initialized RX0) (List.mem_of_getElem? (i := 13) rfl)) (by decide +kernel) ⟨Nat.le_of_ble_eq_true rfl, Nat.le_of_ble_eq_true rfl⟩, hts (.instanceMethod yX0_kindAt) (List.mem_of_getElem? (i := 28) rfl), hts (.selects RX0 yX0_kindAt yX0_kindAt) (List.mem_of_getElem? (i := 29) rfl)⟩ (prV hG (hP.sub (ws' := wL cyI cyZ (ad 15) (ad 16) (ad 17) (ad 18) (ad 19) zl) [15, 16, 17, 18, 19] rfl) (ci := 0) rfl rfl rfl) rfl rfl hl.1 rfl (lv_room (Nat.le_of_ble_eq_true rfl)) dX2_settle_56 ⟨Nat.zero_le _, Nat.zero_le _⟩) hS hP (fun H locs hP hS => ?_)
          refine lv_aload_n hx hb dX2_settle_59 rfl (lv_at hl 1 rfl) ?_
          refine va_get (D := D) (ci := 2) (v := .ref (ad 15)) (C := RX2) (T := TX2) (N := 8) hx hb hts uin_X2_settle_X2 hown hG.1 hP 0 rfl rfl 6 (by decide) (hts (.fieldLink RX2 36 "TableSplice" "list" "LTableSplice$ConflictList;") (List.mem_of_getElem? (i := 4) rfl)) (fun _ h9 => h9) rfl dX2_settle_60 ?_
          refine lv_iload_n hx hb dX2_settle_63 rfl (lv_at hl 2 rfl) ?_
          refine pr_i (va_runVN (As := [.int p1]) (rest := [.int (f_X0_kindAt zl p1), .ref (ad 4), .ref (ad 0)]) ⟨hx, hb, hml, hown, hts⟩ (k_X0_keyAt l D cyI cyZ (ad 15) (ad 16) (ad 17) (ad 18) (ad 19) zl p1) ⟨va_cnB 1 hts gX2_settle_X0_keyAt_n202 rfl rfl rfl (hG.2.1 (RX2, 202, yX0_keyAt, "TableSplice") (List.mem_of_getElem? (i := 29) rfl)) (hts (.initialized RX0) (List.mem_of_getElem? (i := 13) rfl)) (by decide +kernel) ⟨Nat.le_of_ble_eq_true rfl, Nat.le_of_ble_eq_true rfl⟩, hts (.instanceMethod yX0_keyAt) (List.mem_of_getElem? (i := 32) rfl), hts (.selects RX0 yX0_keyAt yX0_keyAt) (List.mem_of_getElem? (i := 33) rfl)⟩ (prV hG (hP.sub (ws' := wL cyI cyZ (ad 15) (ad 16) (ad 17) (ad 18) (ad 19) zl) [15, 16, 17, 18, 19] rfl) (ci := 0) rfl rfl rfl) rfl rfl hl.1 rfl (lv_room (Nat.le_of_ble_eq_true rfl)) dX2_settle_64 ⟨Nat.zero_le _, Nat.zero_le _⟩) hS hP (fun H locs hP hS => ?_)
          refine lv_aload_n hx hb dX2_settle_67 rfl (lv_at hl 1 rfl) ?_
          refine va_get (D := D) (ci := 2) (v := .ref (ad 15)) (C := RX2) (T := TX2) (N := 8) hx hb hts uin_X2_settle_X2 hown hG.1 hP 0 rfl rfl 6 (by decide) (hts (.fieldLink RX2 36 "TableSplice" "list" "LTableSplice$ConflictList;") (List.mem_of_getElem? (i := 4) rfl)) (fun _ h9 => h9) rfl dX2_settle_68 ?_
          refine lv_iload_n hx hb dX2_settle_71 rfl (lv_at hl 2 rfl) ?_
          refine pr_i (va_runVN (As := [.int p1]) (rest := [.int (f_X0_keyAt zl p1), .int (f_X0_kindAt zl p1), .ref (ad 4), .ref (ad 0)]) ⟨hx, hb, hml, hown, hts⟩ (k_X0_columnAt l D cyI cyZ (ad 15) (ad 16) (ad 17) (ad 18) (ad 19) zl p1) ⟨va_cnB 1 hts gX2_settle_X0_columnAt_n205 rfl rfl rfl (hG.2.1 (RX2, 205, yX0_columnAt, "TableSplice") (List.mem_of_getElem? (i := 30) rfl)) (hts (.initialized RX0) (List.mem_of_getElem? (i := 13) rfl)) (by decide +kernel) ⟨Nat.le_of_ble_eq_true rfl, Nat.le_of_ble_eq_true rfl⟩, hts (.instanceMethod yX0_columnAt) (List.mem_of_getElem? (i := 36) rfl), hts (.selects RX0 yX0_columnAt yX0_columnAt) (List.mem_of_getElem? (i := 37) rfl)⟩ (prV hG (hP.sub (ws' := wL cyI cyZ (ad 15) (ad 16) (ad 17) (ad 18) (ad 19) zl) [15, 16, 17, 18, 19] rfl) (ci := 0) rfl rfl rfl) rfl rfl hl.1 rfl (lv_room (Nat.le_of_ble_eq_true rfl)) dX2_settle_72 ⟨Nat.zero_le _, Nat.zero_le _⟩) hS hP (fun H locs hP hS => ?_)
          exact absurd (by rw [f_X2_settle_x, if_pos c_2, if_pos c_7_1, if_neg c_15, if_pos c_36]) hx9
        · have ef : f_X2_settle_x zl zf p1 p2 = 3 := by rw [f_X2_settle_x, if_pos c_2, if_pos c_7_1, if_neg c_15, if_neg c_36]
          obtain ⟨sa, hsa⟩ := hz.2.2.1 (211, "the conflict is settled") (List.mem_of_getElem? (i := 15) rfl)
          exact vx_throwS (own := RX2) (cls := "java/lang/IllegalStateException") (text := "the conflict is settled") (names := xnm) (ik := 59) (is := 211) (ic := 63) (A := nA) hx hb hlt hown (by decide) (by decide) (hts (.classLink RX2 59 "java/lang/IllegalStateException") (List.mem_of_getElem? (i := 1) rfl)) (hts (.initialized "java/lang/IllegalStateException") (List.mem_of_getElem? (i := 2) rfl)) hsa (vx_hat (fun w h => hts w (xin_X2_settle_IS w h)) xb_IS (hz.xb (X := "java/lang/IllegalStateException") (by decide))) (xg_IS) hz.1 hz.2.1 hS (hl.1.trans hml.symm) dX2_settle_39 dX2_settle_42 dX2_settle_43 dX2_settle_45 dX2_settle_48 (fun x h => (hnt x h).elim) (Nat.le_of_ble_eq_true rfl) (Nat.le_of_ble_eq_true rfl) (Nat.le_of_ble_eq_true rfl) (Nat.le_of_ble_eq_true rfl) hlocks (fun t _ hz1 hk1 => ⟨(), trivial, by rw [ef]; rfl, ⟨Nat.le_trans hS.1 hz1, fun q h1 h2 => (hk1 q (Nat.lt_of_lt_of_le h1 hS.1)).trans (hS.2.1 q h1 h2)⟩⟩) hS.2.2 (Nat.le_refl _) (Nat.le_refl _)
      · have ef : f_X2_settle_x zl zf p1 p2 = 3 := by rw [f_X2_settle_x, if_pos c_2, if_pos c_7_1, if_pos c_15]
        obtain ⟨sa, hsa⟩ := hz.2.2.1 (169, "the list is not fresh") (List.mem_of_getElem? (i := 12) rfl)
        exact vx_throwS (own := RX2) (cls := "java/lang/IllegalStateException") (text := "the list is not fresh") (names := xnm) (ik := 59) (is := 169) (ic := 63) (A := nA) hx hb hlt hown (by decide) (by decide) (hts (.classLink RX2 59 "java/lang/IllegalStateException") (List.mem_of_getElem? (i := 1) rfl)) (hts (.initialized "java/lang/IllegalStateException") (List.mem_of_getElem? (i := 2) rfl)) hsa (vx_hat (fun w h => hts w (xin_X2_settle_IS w h)) xb_IS (hz.xb (X := "java/lang/IllegalStateException") (by decide))) (xg_IS) hz.1 hz.2.1 hS (hl.1.trans hml.symm) dX2_settle_18 dX2_settle_21 dX2_settle_22 dX2_settle_24 dX2_settle_27 (fun x h => (hnt x h).elim) (Nat.le_of_ble_eq_true rfl) (Nat.le_of_ble_eq_true rfl) (Nat.le_of_ble_eq_true rfl) (Nat.le_of_ble_eq_true rfl) hlocks (fun t _ hz1 hk1 => ⟨(), trivial, by rw [ef]; rfl, ⟨Nat.le_trans hS.1 hz1, fun q h1 h2 => (hk1 q (Nat.lt_of_lt_of_le h1 hS.1)).trans (hS.2.1 q h1 h2)⟩⟩) hS.2.2 (Nat.le_refl _) (Nat.le_refl _)
    · by_cases c_7_2 : p2 = 2
      · refine pr_r (va_runV (As := [.int p2]) (rest := []) ⟨hx, hb, hml, hown, hts⟩ (k_X2_sideTable_2 l D cyI cyZ ad zb zo zt zm zu zr zl zf p2 c_7_2) (cwV 1 hts gX2_settle_X2_sideTable rfl rfl rfl (by decide +kernel) ⟨Nat.le_of_ble_eq_true rfl, Nat.le_of_ble_eq_true rfl⟩) (prV hG hP (ci := 2) rfl rfl rfl) rfl rfl hl.1 rfl (lv_room (Nat.le_of_ble_eq_true rfl)) dX2_settle_7 ⟨Nat.zero_le _, Nat.zero_le _⟩) hS hP (fun H locs hP hS => ?_)
        refine lv_astore_n (lv' := [(3, .ref (ad 7)), (0, .ref (ad 0)), (1, .int p1), (2, .int p2)]) hx hb dX2_settle_10 rfl hl (by decide) rfl (fun ls hl => ?_)
        refine lv_aload_n hx hb dX2_settle_11 rfl (lv_at hl 1 rfl) ?_
        refine va_get (D := D) (ci := 2) (v := .int zf) (C := RX2) (T := TX2) (N := 8) hx hb hts uin_X2_settle_X2 hown hG.1 hP 0 rfl rfl 7 (by decide) (hts (.fieldLink RX2 40 "TableSplice" "fresh" "Z") (List.mem_of_getElem? (i := 3) rfl)) (fun _ h9 => h9) rfl dX2_settle_12 ?_
        refine lv_if_ne (tgt := 28) hx hb dX2_settle_15 (by decide) (fun c_15 => ?_) (fun c_15 => ?_)
        · refine lv_aload_n hx hb dX2_settle_28 rfl (lv_at hl 1 rfl) ?_
          refine va_get (D := D) (ci := 2) (v := .ref (ad 15)) (C := RX2) (T := TX2) (N := 8) hx hb hts uin_X2_settle_X2 hown hG.1 hP 0 rfl rfl 6 (by decide) (hts (.fieldLink RX2 36 "TableSplice" "list" "LTableSplice$ConflictList;") (List.mem_of_getElem? (i := 4) rfl)) (fun _ h9 => h9) rfl dX2_settle_29 ?_
          refine lv_iload_n hx hb dX2_settle_32 rfl (lv_at hl 2 rfl) ?_
          refine pr_i (va_runVN (As := [.int p1]) (rest := []) ⟨hx, hb, hml, hown, hts⟩ (k_X0_isSettled l D cyI cyZ (ad 15) (ad 16) (ad 17) (ad 18) (ad 19) zl p1) ⟨va_cnB 1 hts gX2_settle_X0_isSettled_n208 rfl rfl rfl (hG.2.1 (RX2, 208, yX0_isSettled, "TableSplice") (List.mem_of_getElem? (i := 31) rfl)) (hts (.initialized RX0) (List.mem_of_getElem? (i := 13) rfl)) (by decide +kernel) ⟨Nat.le_of_ble_eq_true rfl, Nat.le_of_ble_eq_true rfl⟩, hts (.instanceMethod yX0_isSettled) (List.mem_of_getElem? (i := 23) rfl), hts (.selects RX0 yX0_isSettled yX0_isSettled) (List.mem_of_getElem? (i := 24) rfl)⟩ (prV hG (hP.sub (ws' := wL cyI cyZ (ad 15) (ad 16) (ad 17) (ad 18) (ad 19) zl) [15, 16, 17, 18, 19] rfl) (ci := 0) rfl rfl rfl) rfl rfl hl.1 rfl (lv_room (Nat.le_of_ble_eq_true rfl)) dX2_settle_33 ⟨Nat.zero_le _, Nat.zero_le _⟩) hS hP (fun H locs hP hS => ?_)
          refine lv_if_eq (tgt := 49) hx hb dX2_settle_36 (by decide) (fun c_36 => ?_) (fun c_36 => ?_)
          · refine lv_aload_n hx hb dX2_settle_49 rfl (lv_at hl 1 rfl) ?_
            refine lv_aload_n hx hb dX2_settle_50 rfl (lv_at hl 0 rfl) ?_
            refine lv_aload_n hx hb dX2_settle_51 rfl (lv_at hl 1 rfl) ?_
            refine va_get (D := D) (ci := 2) (v := .ref (ad 15)) (C := RX2) (T := TX2) (N := 8) hx hb hts uin_X2_settle_X2 hown hG.1 hP 0 rfl rfl 6 (by decide) (hts (.fieldLink RX2 36 "TableSplice" "list" "LTableSplice$ConflictList;") (List.mem_of_getElem? (i := 4) rfl)) (fun _ h9 => h9) rfl dX2_settle_52 ?_
            refine lv_iload_n hx hb dX2_settle_55 rfl (lv_at hl 2 rfl) ?_
            refine pr_i (va_runVN (As := [.int p1]) (rest := [.ref (ad 7), .ref (ad 0)]) ⟨hx, hb, hml, hown, hts⟩ (k_X0_kindAt l D cyI cyZ (ad 15) (ad 16) (ad 17) (ad 18) (ad 19) zl p1) ⟨va_cnB 1 hts gX2_settle_X0_kindAt_n199 rfl rfl rfl (hG.2.1 (RX2, 199, yX0_kindAt, "TableSplice") (List.mem_of_getElem? (i := 28) rfl)) (hts (.initialized RX0) (List.mem_of_getElem? (i := 13) rfl)) (by decide +kernel) ⟨Nat.le_of_ble_eq_true rfl, Nat.le_of_ble_eq_true rfl⟩, hts (.instanceMethod yX0_kindAt) (List.mem_of_getElem? (i := 28) rfl), hts (.selects RX0 yX0_kindAt yX0_kindAt) (List.mem_of_getElem? (i := 29) rfl)⟩ (prV hG (hP.sub (ws' := wL cyI cyZ (ad 15) (ad 16) (ad 17) (ad 18) (ad 19) zl) [15, 16, 17, 18, 19] rfl) (ci := 0) rfl rfl rfl) rfl rfl hl.1 rfl (lv_room (Nat.le_of_ble_eq_true rfl)) dX2_settle_56 ⟨Nat.zero_le _, Nat.zero_le _⟩) hS hP (fun H locs hP hS => ?_)
            refine lv_aload_n hx hb dX2_settle_59 rfl (lv_at hl 1 rfl) ?_
            refine va_get (D := D) (ci := 2) (v := .ref (ad 15)) (C := RX2) (T := TX2) (N := 8) hx hb hts uin_X2_settle_X2 hown hG.1 hP 0 rfl rfl 6 (by decide) (hts (.fieldLink RX2 36 "TableSplice" "list" "LTableSplice$ConflictList;") (List.mem_of_getElem? (i := 4) rfl)) (fun _ h9 => h9) rfl dX2_settle_60 ?_
            refine lv_iload_n hx hb dX2_settle_63 rfl (lv_at hl 2 rfl) ?_
            refine pr_i (va_runVN (As := [.int p1]) (rest := [.int (f_X0_kindAt zl p1), .ref (ad 7), .ref (ad 0)]) ⟨hx, hb, hml, hown, hts⟩ (k_X0_keyAt l D cyI cyZ (ad 15) (ad 16) (ad 17) (ad 18) (ad 19) zl p1) ⟨va_cnB 1 hts gX2_settle_X0_keyAt_n202 rfl rfl rfl (hG.2.1 (RX2, 202, yX0_keyAt, "TableSplice") (List.mem_of_getElem? (i := 29) rfl)) (hts (.initialized RX0) (List.mem_of_getElem? (i := 13) rfl)) (by decide +kernel) ⟨Nat.le_of_ble_eq_true rfl, Nat.le_of_ble_eq_true rfl⟩, hts (.instanceMethod yX0_keyAt) (List.mem_of_getElem? (i := 32) rfl), hts (.selects RX0 yX0_keyAt yX0_keyAt) (List.mem_of_getElem? (i := 33) rfl)⟩ (prV hG (hP.sub (ws' := wL cyI cyZ (ad 15) (ad 16) (ad 17) (ad 18) (ad 19) zl) [15, 16, 17, 18, 19] rfl) (ci := 0) rfl rfl rfl) rfl rfl hl.1 rfl (lv_room (Nat.le_of_ble_eq_true rfl)) dX2_settle_64 ⟨Nat.zero_le _, Nat.zero_le _⟩) hS hP (fun H locs hP hS => ?_)
            refine lv_aload_n hx hb dX2_settle_67 rfl (lv_at hl 1 rfl) ?_
            refine va_get (D := D) (ci := 2) (v := .ref (ad 15)) (C := RX2) (T := TX2) (N := 8) hx hb hts uin_X2_settle_X2 hown hG.1 hP 0 rfl rfl 6 (by decide) (hts (.fieldLink RX2 36 "TableSplice" "list" "LTableSplice$ConflictList;") (List.mem_of_getElem? (i := 4) rfl)) (fun _ h9 => h9) rfl dX2_settle_68 ?_
            refine lv_iload_n hx hb dX2_settle_71 rfl (lv_at hl 2 rfl) ?_
            refine pr_i (va_runVN (As := [.int p1]) (rest := [.int (f_X0_keyAt zl p1), .int (f_X0_kindAt zl p1), .ref (ad 7), .ref (ad 0)]) ⟨hx, hb, hml, hown, hts⟩ (k_X0_columnAt l D cyI cyZ (ad 15) (ad 16) (ad 17) (ad 18) (ad 19) zl p1) ⟨va_cnB 1 hts gX2_settle_X0_columnAt_n205 rfl rfl rfl (hG.2.1 (RX2, 205, yX0_columnAt, "TableSplice") (List.mem_of_getElem? (i := 30) rfl)) (hts (.initialized RX0) (List.mem_of_getElem? (i := 13) rfl)) (by decide +kernel) ⟨Nat.le_of_ble_eq_true rfl, Nat.le_of_ble_eq_true rfl⟩, hts (.instanceMethod yX0_columnAt) (List.mem_of_getElem? (i := 36) rfl), hts (.selects RX0 yX0_columnAt yX0_columnAt) (List.mem_of_getElem? (i := 37) rfl)⟩ (prV hG (hP.sub (ws' := wL cyI cyZ (ad 15) (ad 16) (ad 17) (ad 18) (ad 19) zl) [15, 16, 17, 18, 19] rfl) (ci := 0) rfl rfl rfl) rfl rfl hl.1 rfl (lv_room (Nat.le_of_ble_eq_true rfl)) dX2_settle_72 ⟨Nat.zero_le _, Nat.zero_le _⟩) hS hP (fun H locs hP hS => ?_)
            exact absurd (by rw [f_X2_settle_x, if_pos c_2, if_neg c_7_1, if_pos c_7_2, if_neg c_15, if_pos c_36]) hx9
          · have ef : f_X2_settle_x zl zf p1 p2 = 3 := by rw [f_X2_settle_x, if_pos c_2, if_neg c_7_1, if_pos c_7_2, if_neg c_15, if_neg c_36]
            obtain ⟨sa, hsa⟩ := hz.2.2.1 (211, "the conflict is settled") (List.mem_of_getElem? (i := 15) rfl)
            exact vx_throwS (own := RX2) (cls := "java/lang/IllegalStateException") (text := "the conflict is settled") (names := xnm) (ik := 59) (is := 211) (ic := 63) (A := nA) hx hb hlt hown (by decide) (by decide) (hts (.classLink RX2 59 "java/lang/IllegalStateException") (List.mem_of_getElem? (i := 1) rfl)) (hts (.initialized "java/lang/IllegalStateException") (List.mem_of_getElem? (i := 2) rfl)) hsa (vx_hat (fun w h => hts w (xin_X2_settle_IS w h)) xb_IS (hz.xb (X := "java/lang/IllegalStateException") (by decide))) (xg_IS) hz.1 hz.2.1 hS (hl.1.trans hml.symm) dX2_settle_39 dX2_settle_42 dX2_settle_43 dX2_settle_45 dX2_settle_48 (fun x h => (hnt x h).elim) (Nat.le_of_ble_eq_true rfl) (Nat.le_of_ble_eq_true rfl) (Nat.le_of_ble_eq_true rfl) (Nat.le_of_ble_eq_true rfl) hlocks (fun t _ hz1 hk1 => ⟨(), trivial, by rw [ef]; rfl, ⟨Nat.le_trans hS.1 hz1, fun q h1 h2 => (hk1 q (Nat.lt_of_lt_of_le h1 hS.1)).trans (hS.2.1 q h1 h2)⟩⟩) hS.2.2 (Nat.le_refl _) (Nat.le_refl _)
        · have ef : f_X2_settle_x zl zf p1 p2 = 3 := by rw [f_X2_settle_x, if_pos c_2, if_neg c_7_1, if_pos c_7_2, if_pos c_15]
          obtain ⟨sa, hsa⟩ := hz.2.2.1 (169, "the list is not fresh") (List.mem_of_getElem? (i := 12) rfl)
          exact vx_throwS (own := RX2) (cls := "java/lang/IllegalStateException") (text := "the list is not fresh") (names := xnm) (ik := 59) (is := 169) (ic := 63) (A := nA) hx hb hlt hown (by decide) (by decide) (hts (.classLink RX2 59 "java/lang/IllegalStateException") (List.mem_of_getElem? (i := 1) rfl)) (hts (.initialized "java/lang/IllegalStateException") (List.mem_of_getElem? (i := 2) rfl)) hsa (vx_hat (fun w h => hts w (xin_X2_settle_IS w h)) xb_IS (hz.xb (X := "java/lang/IllegalStateException") (by decide))) (xg_IS) hz.1 hz.2.1 hS (hl.1.trans hml.symm) dX2_settle_18 dX2_settle_21 dX2_settle_22 dX2_settle_24 dX2_settle_27 (fun x h => (hnt x h).elim) (Nat.le_of_ble_eq_true rfl) (Nat.le_of_ble_eq_true rfl) (Nat.le_of_ble_eq_true rfl) (Nat.le_of_ble_eq_true rfl) hlocks (fun t _ hz1 hk1 => ⟨(), trivial, by rw [ef]; rfl, ⟨Nat.le_trans hS.1 hz1, fun q h1 h2 => (hk1 q (Nat.lt_of_lt_of_le h1 hS.1)).trans (hS.2.1 q h1 h2)⟩⟩) hS.2.2 (Nat.le_refl _) (Nat.le_refl _)
      · have ef : f_X2_settle_x zl zf p1 p2 = f_X2_sideTable_x p2 := (by rw [f_X2_settle_x, if_pos c_2, if_neg c_7_1, if_neg c_7_2] : f_X2_settle_x zl zf p1 p2 = 1).trans (st_x c_7_1 c_7_2).symm
        exact vx_callr (vx_runV (As := [.int p2]) (rest := []) ⟨hx, hb, hml, hown, hts⟩ (t_X2_sideTable l hlt D cyI cyZ ad zb zo zt zm zu zr zl zf p2 (by rw [st_x c_7_1 c_7_2]; decide)) (cwV 1 hts gX2_settle_X2_sideTable rfl rfl rfl (by decide +kernel) ⟨Nat.le_of_ble_eq_true rfl, Nat.le_of_ble_eq_true rfl⟩) (ptV hG (hz.kept hS) hP (ci := 2) rfl rfl rfl) rfl rfl hl.1 rfl (lv_room (Nat.le_of_ble_eq_true rfl)) dX2_settle_7 ⟨Nat.le_of_ble_eq_true rfl, Nat.le_of_ble_eq_true rfl⟩) hS (fun _ _ h => h.elim) (fun _ h => h.elim) (fun _ _ h => h.elim) (fun E ce q9 u t H1 locs1 ht _ _ hE _ _ hS1 hce hcv hcl => vx_out (fun x h => (hnt x h).elim) hlocks hce hcv hcl (fun t9 h9 _ => ⟨(), trivial, hE.trans (congrArg xn ef.symm), hS1.F h9⟩) hS1.2.2 (Nat.le_refl _) (Nat.le_refl _)) (fun u ra t H1 locs1 ht hvm h hb9 hz1 hk1 hS1 => h.elim)
  · have ef : f_X2_settle_x zl zf p1 p2 = f_X2_requireConflict_x zl p1 := by rw [f_X2_settle_x, if_neg c_2]
    exact vx_callv (vx_runV (As := [.int p1]) (rest := []) ⟨hx, hb, hml, hown, hts⟩ (t_X2_requireConflict l hlt D cyI cyZ ad zb zo zt zm zu zr zl zf p1 c_2) (cwV 1 hts gX2_settle_X2_requireConflict rfl rfl rfl (by decide +kernel) ⟨Nat.le_of_ble_eq_true rfl, Nat.le_of_ble_eq_true rfl⟩) (ptV hG (hz.kept hS) hP (ci := 2) rfl rfl rfl) rfl rfl hl.1 rfl (lv_room (Nat.le_of_ble_eq_true rfl)) dX2_settle_2 ⟨Nat.le_of_ble_eq_true rfl, Nat.le_of_ble_eq_true rfl⟩) hS (fun _ _ h => h.elim) (fun _ h => h.elim) (fun _ _ h => h.elim) (fun E ce q9 u t H1 locs1 ht _ _ hE _ _ hS1 hce hcv hcl => vx_out (fun x h => (hnt x h).elim) hlocks hce hcv hcl (fun t9 h9 _ => ⟨(), trivial, hE.trans (congrArg xn ef.symm), hS1.F h9⟩) hS1.2.2 (Nat.le_refl _) (Nat.le_refl _)) (fun u t H1 locs1 ht hvm h hb9 hz1 hk1 hS1 => h.elim)
