def f_X3_columns (mc : Nat → Int32) (p1 : Int32) : Int32 × Int32 := if (f_X3_isIn p1 0 3) = 0 then ((0, 1)) else ((mc (p1).toNatClampNeg, 0))
theorem uin_X3_columns_X3 : ∀ w ∈ wsX30, w ∈ wsX3_columns := fun _ h => List.mem_cons_of_mem _ (List.mem_append_right _ h)
set_option maxHeartbeats 4000000 in
set_option maxRecDepth 100000 in
theorem k_X3_columns (l : Launch) (D : va_G) (cyI cyZ : ClassId) (ad : Nat → Nat) (mc : Nat → Int32) (mw : Nat → Int32) (mn : Nat → Int32) (me : Nat → Int32) (mu : Nat → Int32) (mr : Nat → Int32) (mz : Kr) (mf : Int32) (mt : Int32) (p1 : Int32) (A : Nat → Prop) (sz : Nat) (hAe : A = va_A (wN cyI cyZ ad mc mw mn me mu mr mz mf mt) sz) : Met l yX3_columns wsX3_columns ({ frames := 1, cells := 0, slots := 0, locals := 22 } : Room) (pcM D cyI cyZ sz [.ref (ad 0), .int p1] (wN cyI cyZ ad mc mw mn me mu mr mz mf mt)) (mI D A (wN cyI cyZ ad mc mw mn me mu mr mz mf (f_X3_columns mc p1).2) (f_X3_columns mc p1).1) 0 0 A := by
  refine Met.ofW (cc := cX3_columns) (maxL := 2) (ret := (some .int)) (by decide) rfl ?_
  intro p e s m args below meth c s₁ B hml hv
  obtain ⟨rfl, hsz, hP, hG, hD0⟩ := hv
  have hx := B.exec
  have hb := B.bytes
  have hr := B.returns
  have hts := atoms_spec (ws := wsX3_columns) B.pre
  have hown : s.vm.findClass RX3 = some m.cls := findClass_of_methodNamed B.named
  have hlocks := B.notSynchronized
  subst hsz
  have hD : va_D A (wN cyI cyZ ad mc mw mn me mu mr mz mf mt) := by rw [hAe]; exact hD0.self
  have hA : ∀ q : Nat, s.heap.size ≤ q → A q := fun q h => by rw [hAe]; exact Or.inr h
  clear hAe hD0
  have hS : va_S nA s.heap s.heap [] := va_S.rf
  have hl := lv_entry ([.ref (ad 0), .int p1]) (n := 2) (Nat.le_of_ble_eq_true rfl)
  rw [lg_entry_eq]
  generalize (lg_sl ([.ref (ad 0), .int p1]) ++ List.replicate (2 - (lg_sl ([.ref (ad 0), .int p1])).length) Slot.unset).toArray = ls at hl ⊢
  have hl : lv_has ls 2 [(0, .ref (ad 0)), (1, .int p1)] := hl
  have hP : va_P D vwCl (wN cyI cyZ ad mc mw mn me mu mr mz mf mt) s.heap := hP
  refine lv_aload_n hx hb dX3_columns_0 rfl (lv_at hl 0 rfl) ?_
  refine lv_iload_n hx hb dX3_columns_1 rfl (lv_at hl 1 rfl) ?_
  refine lv_iconst (v := 0) hx hb dX3_columns_2 (by decide) ?_
  refine lv_iconst (v := 3) hx hb dX3_columns_3 (by decide) ?_
  refine pr_i (va_runS (As := [.int p1, .int 0, .int 3]) (rest := [.ref (ad 0)]) ⟨hx, hb, hml, hown, hts⟩ (k_X3_isIn l D cyI cyZ p1 0 3) (va_cwS 3 hts gX3_columns_X3_isIn rfl rfl rfl (by decide +kernel) ⟨Nat.le_of_ble_eq_true rfl, Nat.le_of_ble_eq_true rfl⟩) (prS hG (hP.sub (ws' := []) [] rfl)) rfl rfl hl.1 rfl (lv_room (Nat.le_of_ble_eq_true rfl)) dX3_columns_4 ⟨Nat.zero_le _, Nat.zero_le _⟩) hS hP (fun H locs hP hS => ?_)
  refine lv_if_eq (tgt := 14) hx hb dX3_columns_7 (by decide) (fun c_7 => ?_) (fun c_7 => ?_)
  · refine lv_iconst (v := 1) hx hb dX3_columns_14 (by decide) ?_
    have hS := sw_n (B := A) hS
    refine va_put (D := D) (ci := 3) (v := .int 1) (ty := .int) (C := RX3) (T := TX3) (N := 13) hx hb hts uin_X3_columns_X3 tyX3 tyX3_ok nmX3 hown hG.1 hP hD hS 0 rfl rfl 12 (by decide) (hts (.fieldLink RX3 41 "TableSpliceModel" "thrown" "I") (List.mem_of_getElem? (i := 1) rfl)) (fun _ h9 => h9) rfl (by decide +kernel) rfl rfl (Nat.le_of_ble_eq_true rfl) dX3_columns_15 (fun H locs hP hD hS => ?_)
    have hP : va_P D vwCl (wN cyI cyZ ad mc mw mn me mu mr mz mf 1) H := hP
    have hD : va_D A (wN cyI cyZ ad mc mw mn me mu mr mz mf 1) := hD
    refine lv_aload_n hx hb dX3_columns_18 rfl (lv_at hl 0 rfl) ?_
    refine va_get (D := D) (ci := 3) (v := .int 1) (C := RX3) (T := TX3) (N := 13) hx hb hts uin_X3_columns_X3 hown hG.1 hP 0 rfl rfl 12 (by decide) (hts (.fieldLink RX3 41 "TableSpliceModel" "thrown" "I") (List.mem_of_getElem? (i := 1) rfl)) (fun _ h9 => h9) rfl dX3_columns_19 ?_
    refine lv_if_le (tgt := 29) hx hb dX3_columns_22 (by decide) (fun c_22 => ?_) (fun c_22 => ?_)
    · exact absurd c_22 (by decide)
    · refine lv_iconst (v := 0) hx hb dX3_columns_25 (by decide) ?_
      refine lv_goto (tgt := 35) hx hb dX3_columns_26 (by decide) ?_
      have ef : f_X3_columns mc p1 = (0, 1) := by rw [f_X3_columns, if_pos c_7]
      exact W.iret (v := 0) hx hb hr (fun t ht hW => ⟨⟨0, (), rfl, by rw [ef], by rw [ht, ef]; exact hP, by rw [ef]; exact hD⟩, hS.F ht⟩) hS.2.2 dX3_columns_35
  · refine lv_iconst (v := 0) hx hb dX3_columns_10 (by decide) ?_
    refine lv_goto (tgt := 15) hx hb dX3_columns_11 (by decide) ?_
    have hS := sw_n (B := A) hS
    refine va_put (D := D) (ci := 3) (v := .int 0) (ty := .int) (C := RX3) (T := TX3) (N := 13) hx hb hts uin_X3_columns_X3 tyX3 tyX3_ok nmX3 hown hG.1 hP hD hS 0 rfl rfl 12 (by decide) (hts (.fieldLink RX3 41 "TableSpliceModel" "thrown" "I") (List.mem_of_getElem? (i := 1) rfl)) (fun _ h9 => h9) rfl (by decide +kernel) rfl rfl (Nat.le_of_ble_eq_true rfl) dX3_columns_15 (fun H locs hP hD hS => ?_)
    have hP : va_P D vwCl (wN cyI cyZ ad mc mw mn me mu mr mz mf 0) H := hP
    have hD : va_D A (wN cyI cyZ ad mc mw mn me mu mr mz mf 0) := hD
    refine lv_aload_n hx hb dX3_columns_18 rfl (lv_at hl 0 rfl) ?_
    refine va_get (D := D) (ci := 3) (v := .int 0) (C := RX3) (T := TX3) (N := 13) hx hb hts uin_X3_columns_X3 hown hG.1 hP 0 rfl rfl 12 (by decide) (hts (.fieldLink RX3 41 "TableSpliceModel" "thrown" "I") (List.mem_of_getElem? (i := 1) rfl)) (fun _ h9 => h9) rfl dX3_columns_19 ?_
    refine lv_if_le (tgt := 29) hx hb dX3_columns_22 (by decide) (fun c_22 => ?_) (fun c_22 => ?_)
    · refine lv_aload_n hx hb dX3_columns_29 rfl (lv_at hl 0 rfl) ?_
      refine va_get (D := D) (ci := 3) (v := .ref (ad 1)) (C := RX3) (T := TX3) (N := 13) hx hb hts uin_X3_columns_X3 hown hG.1 hP 0 rfl rfl 0 (by decide) (hts (.fieldLink RX3 7 "TableSpliceModel" "columns" "[I") (List.mem_of_getElem? (i := 2) rfl)) (fun _ h9 => h9) rfl dX3_columns_30 ?_
      refine lv_iload_n hx hb dX3_columns_33 rfl (lv_at hl 1 rfl) ?_
      refine va_iald hx hb hG.1 hP 1 0 rfl rfl (in_isIn (n := 3) rfl (by decide) c_7) dX3_columns_34 ?_
      have ef : f_X3_columns mc p1 = (mc (p1).toNatClampNeg, 0) := by rw [f_X3_columns, if_neg c_7]
      exact W.iret (v := mc (p1).toNatClampNeg) hx hb hr (fun t ht hW => ⟨⟨mc (p1).toNatClampNeg, (), rfl, by rw [ef], by rw [ht, ef]; exact hP, by rw [ef]; exact hD⟩, hS.F ht⟩) hS.2.2 dX3_columns_35
    · exact absurd (by decide) c_22
def f_X3_rows (mw : Nat → Int32) (p1 : Int32) : Int32 × Int32 := if (f_X3_isIn p1 0 3) = 0 then ((0, 1)) else ((mw (p1).toNatClampNeg, 0))
theorem uin_X3_rows_X3 : ∀ w ∈ wsX30, w ∈ wsX3_rows := fun _ h => List.mem_cons_of_mem _ (List.mem_append_right _ h)
set_option maxHeartbeats 4000000 in
set_option maxRecDepth 100000 in
theorem k_X3_rows (l : Launch) (D : va_G) (cyI cyZ : ClassId) (ad : Nat → Nat) (mc : Nat → Int32) (mw : Nat → Int32) (mn : Nat → Int32) (me : Nat → Int32) (mu : Nat → Int32) (mr : Nat → Int32) (mz : Kr) (mf : Int32) (mt : Int32) (p1 : Int32) (A : Nat → Prop) (sz : Nat) (hAe : A = va_A (wN cyI cyZ ad mc mw mn me mu mr mz mf mt) sz) : Met l yX3_rows wsX3_rows ({ frames := 1, cells := 0, slots := 0, locals := 22 } : Room) (pcM D cyI cyZ sz [.ref (ad 0), .int p1] (wN cyI cyZ ad mc mw mn me mu mr mz mf mt)) (mI D A (wN cyI cyZ ad mc mw mn me mu mr mz mf (f_X3_rows mw p1).2) (f_X3_rows mw p1).1) 0 0 A := by
  refine Met.ofW (cc := cX3_rows) (maxL := 2) (ret := (some .int)) (by decide) rfl ?_
  intro p e s m args below meth c s₁ B hml hv
  obtain ⟨rfl, hsz, hP, hG, hD0⟩ := hv
  have hx := B.exec
  have hb := B.bytes
  have hr := B.returns
  have hts := atoms_spec (ws := wsX3_rows) B.pre
  have hown : s.vm.findClass RX3 = some m.cls := findClass_of_methodNamed B.named
  have hlocks := B.notSynchronized
  subst hsz
  have hD : va_D A (wN cyI cyZ ad mc mw mn me mu mr mz mf mt) := by rw [hAe]; exact hD0.self
  have hA : ∀ q : Nat, s.heap.size ≤ q → A q := fun q h => by rw [hAe]; exact Or.inr h
  clear hAe hD0
  have hS : va_S nA s.heap s.heap [] := va_S.rf
  have hl := lv_entry ([.ref (ad 0), .int p1]) (n := 2) (Nat.le_of_ble_eq_true rfl)
  rw [lg_entry_eq]
  generalize (lg_sl ([.ref (ad 0), .int p1]) ++ List.replicate (2 - (lg_sl ([.ref (ad 0), .int p1])).length) Slot.unset).toArray = ls at hl ⊢
  have hl : lv_has ls 2 [(0, .ref (ad 0)), (1, .int p1)] := hl
  have hP : va_P D vwCl (wN cyI cyZ ad mc mw mn me mu mr mz mf mt) s.heap := hP
  refine lv_aload_n hx hb dX3_rows_0 rfl (lv_at hl 0 rfl) ?_
  refine lv_iload_n hx hb dX3_rows_1 rfl (lv_at hl 1 rfl) ?_
  refine lv_iconst (v := 0) hx hb dX3_rows_2 (by decide) ?_
  refine lv_iconst (v := 3) hx hb dX3_rows_3 (by decide) ?_
  refine pr_i (va_runS (As := [.int p1, .int 0, .int 3]) (rest := [.ref (ad 0)]) ⟨hx, hb, hml, hown, hts⟩ (k_X3_isIn l D cyI cyZ p1 0 3) (va_cwS 3 hts gX3_rows_X3_isIn rfl rfl rfl (by decide +kernel) ⟨Nat.le_of_ble_eq_true rfl, Nat.le_of_ble_eq_true rfl⟩) (prS hG (hP.sub (ws' := []) [] rfl)) rfl rfl hl.1 rfl (lv_room (Nat.le_of_ble_eq_true rfl)) dX3_rows_4 ⟨Nat.zero_le _, Nat.zero_le _⟩) hS hP (fun H locs hP hS => ?_)
  refine lv_if_eq (tgt := 14) hx hb dX3_rows_7 (by decide) (fun c_7 => ?_) (fun c_7 => ?_)
  · refine lv_iconst (v := 1) hx hb dX3_rows_14 (by decide) ?_
    have hS := sw_n (B := A) hS
    refine va_put (D := D) (ci := 3) (v := .int 1) (ty := .int) (C := RX3) (T := TX3) (N := 13) hx hb hts uin_X3_rows_X3 tyX3 tyX3_ok nmX3 hown hG.1 hP hD hS 0 rfl rfl 12 (by decide) (hts (.fieldLink RX3 41 "TableSpliceModel" "thrown" "I") (List.mem_of_getElem? (i := 1) rfl)) (fun _ h9 => h9) rfl (by decide +kernel) rfl rfl (Nat.le_of_ble_eq_true rfl) dX3_rows_15 (fun H locs hP hD hS => ?_)
    have hP : va_P D vwCl (wN cyI cyZ ad mc mw mn me mu mr mz mf 1) H := hP
    have hD : va_D A (wN cyI cyZ ad mc mw mn me mu mr mz mf 1) := hD
    refine lv_aload_n hx hb dX3_rows_18 rfl (lv_at hl 0 rfl) ?_
    refine va_get (D := D) (ci := 3) (v := .int 1) (C := RX3) (T := TX3) (N := 13) hx hb hts uin_X3_rows_X3 hown hG.1 hP 0 rfl rfl 12 (by decide) (hts (.fieldLink RX3 41 "TableSpliceModel" "thrown" "I") (List.mem_of_getElem? (i := 1) rfl)) (fun _ h9 => h9) rfl dX3_rows_19 ?_
    refine lv_if_le (tgt := 29) hx hb dX3_rows_22 (by decide) (fun c_22 => ?_) (fun c_22 => ?_)
    · exact absurd c_22 (by decide)
    · refine lv_iconst (v := 0) hx hb dX3_rows_25 (by decide) ?_
      refine lv_goto (tgt := 35) hx hb dX3_rows_26 (by decide) ?_
      have ef : f_X3_rows mw p1 = (0, 1) := by rw [f_X3_rows, if_pos c_7]
      exact W.iret (v := 0) hx hb hr (fun t ht hW => ⟨⟨0, (), rfl, by rw [ef], by rw [ht, ef]; exact hP, by rw [ef]; exact hD⟩, hS.F ht⟩) hS.2.2 dX3_rows_35
  · refine lv_iconst (v := 0) hx hb dX3_rows_10 (by decide) ?_
    refine lv_goto (tgt := 15) hx hb dX3_rows_11 (by decide) ?_
    have hS := sw_n (B := A) hS
    refine va_put (D := D) (ci := 3) (v := .int 0) (ty := .int) (C := RX3) (T := TX3) (N := 13) hx hb hts uin_X3_rows_X3 tyX3 tyX3_ok nmX3 hown hG.1 hP hD hS 0 rfl rfl 12 (by decide) (hts (.fieldLink RX3 41 "TableSpliceModel" "thrown" "I") (List.mem_of_getElem? (i := 1) rfl)) (fun _ h9 => h9) rfl (by decide +kernel) rfl rfl (Nat.le_of_ble_eq_true rfl) dX3_rows_15 (fun H locs hP hD hS => ?_)
    have hP : va_P D vwCl (wN cyI cyZ ad mc mw mn me mu mr mz mf 0) H := hP
    have hD : va_D A (wN cyI cyZ ad mc mw mn me mu mr mz mf 0) := hD
    refine lv_aload_n hx hb dX3_rows_18 rfl (lv_at hl 0 rfl) ?_
    refine va_get (D := D) (ci := 3) (v := .int 0) (C := RX3) (T := TX3) (N := 13) hx hb hts uin_X3_rows_X3 hown hG.1 hP 0 rfl rfl 12 (by decide) (hts (.fieldLink RX3 41 "TableSpliceModel" "thrown" "I") (List.mem_of_getElem? (i := 1) rfl)) (fun _ h9 => h9) rfl dX3_rows_19 ?_
    refine lv_if_le (tgt := 29) hx hb dX3_rows_22 (by decide) (fun c_22 => ?_) (fun c_22 => ?_)
    · refine lv_aload_n hx hb dX3_rows_29 rfl (lv_at hl 0 rfl) ?_
      refine va_get (D := D) (ci := 3) (v := .ref (ad 2)) (C := RX3) (T := TX3) (N := 13) hx hb hts uin_X3_rows_X3 hown hG.1 hP 0 rfl rfl 1 (by decide) (hts (.fieldLink RX3 13 "TableSpliceModel" "rows" "[I") (List.mem_of_getElem? (i := 2) rfl)) (fun _ h9 => h9) rfl dX3_rows_30 ?_
      refine lv_iload_n hx hb dX3_rows_33 rfl (lv_at hl 1 rfl) ?_
      refine va_iald hx hb hG.1 hP 2 0 rfl rfl (in_isIn (n := 3) rfl (by decide) c_7) dX3_rows_34 ?_
      have ef : f_X3_rows mw p1 = (mw (p1).toNatClampNeg, 0) := by rw [f_X3_rows, if_neg c_7]
      exact W.iret (v := mw (p1).toNatClampNeg) hx hb hr (fun t ht hW => ⟨⟨mw (p1).toNatClampNeg, (), rfl, by rw [ef], by rw [ht, ef]; exact hP, by rw [ef]; exact hD⟩, hS.F ht⟩) hS.2.2 dX3_rows_35
    · exact absurd (by decide) c_22
def f_X3_name (mc : Nat → Int32) (mn : Nat → Int32) (p1 : Int32) (p2 : Int32) : Int32 × Int32 := if ((f_X3_findsColumn_3 mc p1 p2).1) = 0 then (0, ((f_X3_findsColumn_3 mc p1 p2).2)) else (mn ((8 * p1) + p2).toNatClampNeg, ((f_X3_findsColumn_3 mc p1 p2).2))
theorem uin_X3_name_X3 : ∀ w ∈ wsX30, w ∈ wsX3_name := fun _ h => List.mem_cons_of_mem _ (List.mem_append_right _ h)
set_option maxHeartbeats 4000000 in
set_option maxRecDepth 100000 in
theorem k_X3_name (l : Launch) (D : va_G) (cyI cyZ : ClassId) (ad : Nat → Nat) (mc : Nat → Int32) (mw : Nat → Int32) (mn : Nat → Int32) (me : Nat → Int32) (mu : Nat → Int32) (mr : Nat → Int32) (mz : Kr) (mf : Int32) (mt : Int32) (p1 : Int32) (p2 : Int32) (A : Nat → Prop) (sz : Nat) (hAe : A = va_A (wN cyI cyZ ad mc mw mn me mu mr mz mf mt) sz) : Met l yX3_name wsX3_name ({ frames := 2, cells := 0, slots := 0, locals := 45 } : Room) (pcM D cyI cyZ sz [.ref (ad 0), .int p1, .int p2] (wN cyI cyZ ad mc mw mn me mu mr mz mf mt)) (mI D A (wN cyI cyZ ad mc mw mn me mu mr mz mf (f_X3_name mc mn p1 p2).2) (f_X3_name mc mn p1 p2).1) 0 0 A := by
  refine Met.ofW (cc := cX3_name) (maxL := 3) (ret := (some .int)) (by decide) rfl ?_
  intro p e s m args below meth c s₁ B hml hv
  obtain ⟨rfl, hsz, hP, hG, hD0⟩ := hv
  have hx := B.exec
  have hb := B.bytes
  have hr := B.returns
  have hts := atoms_spec (ws := wsX3_name) B.pre
  have hown : s.vm.findClass RX3 = some m.cls := findClass_of_methodNamed B.named
  have hlocks := B.notSynchronized
  subst hsz
  have hD : va_D A (wN cyI cyZ ad mc mw mn me mu mr mz mf mt) := by rw [hAe]; exact hD0.self
  have hA : ∀ q : Nat, s.heap.size ≤ q → A q := fun q h => by rw [hAe]; exact Or.inr h
  clear hAe hD0
  have hS : va_S nA s.heap s.heap [] := va_S.rf
  have hl := lv_entry ([.ref (ad 0), .int p1, .int p2]) (n := 3) (Nat.le_of_ble_eq_true rfl)
  rw [lg_entry_eq]
  generalize (lg_sl ([.ref (ad 0), .int p1, .int p2]) ++ List.replicate (3 - (lg_sl ([.ref (ad 0), .int p1, .int p2])).length) Slot.unset).toArray = ls at hl ⊢
  have hl : lv_has ls 3 [(0, .ref (ad 0)), (1, .int p1), (2, .int p2)] := hl
  have hP : va_P D vwCl (wN cyI cyZ ad mc mw mn me mu mr mz mf mt) s.heap := hP
  refine lv_aload_n hx hb dX3_name_0 rfl (lv_at hl 0 rfl) ?_
  refine lv_iload_n hx hb dX3_name_1 rfl (lv_at hl 1 rfl) ?_
  refine lv_iconst (v := 3) hx hb dX3_name_2 (by decide) ?_
  refine lv_iload_n hx hb dX3_name_3 rfl (lv_at hl 2 rfl) ?_
  have hS := sw_n (B := A) hS
  refine mr_i0 (va_runV (As := [.int p1, .int 3, .int p2]) (rest := []) ⟨hx, hb, hml, hown, hts⟩ (k_X3_findsColumn_3 l D cyI cyZ ad mc mw mn me mu mr mz mf mt p1 p2 _ _ rfl) (cwV 3 hts gX3_name_X3_findsColumn rfl rfl rfl (by decide +kernel) ⟨Nat.le_of_ble_eq_true rfl, Nat.le_of_ble_eq_true rfl⟩) (pmV hG hP hD (ci := 3) rfl rfl rfl) rfl rfl hl.1 rfl (lv_room (Nat.le_of_ble_eq_true rfl)) dX3_name_4 ⟨Nat.zero_le _, Nat.zero_le _⟩) hD hS hA (fun H locs hP hD hS => ?_)
  have hP : va_P D vwCl (wN cyI cyZ ad mc mw mn me mu mr mz mf ((f_X3_findsColumn_3 mc p1 p2).2)) H := hP
  have hD : va_D A (wN cyI cyZ ad mc mw mn me mu mr mz mf ((f_X3_findsColumn_3 mc p1 p2).2)) := hD
  refine lv_if_eq (tgt := 24) hx hb dX3_name_7 (by decide) (fun c_7 => ?_) (fun c_7 => ?_)
  · refine lv_iconst (v := 0) hx hb dX3_name_24 (by decide) ?_
    have ef : f_X3_name mc mn p1 p2 = (0, ((f_X3_findsColumn_3 mc p1 p2).2)) := by rw [f_X3_name, if_pos c_7]
    exact W.iret (v := 0) hx hb hr (fun t ht hW => ⟨⟨0, (), rfl, by rw [ef], by rw [ht, ef]; exact hP, by rw [ef]; exact hD⟩, hS.F ht⟩) hS.2.2 dX3_name_25
  · refine lv_aload_n hx hb dX3_name_10 rfl (lv_at hl 0 rfl) ?_
    refine va_get (D := D) (ci := 3) (v := .ref (ad 3)) (C := RX3) (T := TX3) (N := 13) hx hb hts uin_X3_name_X3 hown hG.1 hP 0 rfl rfl 2 (by decide) (hts (.fieldLink RX3 16 "TableSpliceModel" "name" "[I") (List.mem_of_getElem? (i := 1) rfl)) (fun _ h9 => h9) rfl dX3_name_11 ?_
    refine lv_bipush (v := 8) hx hb dX3_name_14 (by decide) ?_
    refine lv_iload_n hx hb dX3_name_16 rfl (lv_at hl 1 rfl) ?_
    refine lv_imul hx hb dX3_name_17 ?_
    refine lv_iload_n hx hb dX3_name_18 rfl (lv_at hl 2 rfl) ?_
    refine lv_iadd hx hb dX3_name_19 ?_
    refine va_iald hx hb hG.1 hP 3 0 rfl rfl (vi_add (k := 32) (vi_mul (c := 8) (k := 25) rfl (in_findsColumn_3_p1 c_7) (by decide) (by decide) (by decide)) (in_findsColumn_3_p2 c_7) (by decide) (by decide)) dX3_name_20 ?_
    refine lv_goto (tgt := 25) hx hb dX3_name_21 (by decide) ?_
    have ef : f_X3_name mc mn p1 p2 = (mn ((8 * p1) + p2).toNatClampNeg, ((f_X3_findsColumn_3 mc p1 p2).2)) := by rw [f_X3_name, if_neg c_7]
    exact W.iret (v := mn ((8 * p1) + p2).toNatClampNeg) hx hb hr (fun t ht hW => ⟨⟨mn ((8 * p1) + p2).toNatClampNeg, (), rfl, by rw [ef], by rw [ht, ef]; exact hP, by rw [ef]; exact hD⟩, hS.F ht⟩) hS.2.2 dX3_name_25
def f_X3_get (mc : Nat → Int32) (mw : Nat → Int32) (me : Nat → Int32) (p1 : Int32) (p2 : Int32) (p3 : Int32) : Int32 × Int32 := if ((f_X3_findsCell_3 mc mw p1 p2 p3).1) = 0 then (0, ((f_X3_findsCell_3 mc mw p1 p2 p3).2)) else (f_X3_at me p1 p2 p3, ((f_X3_findsCell_3 mc mw p1 p2 p3).2))
theorem uin_X3_get_X3 : ∀ w ∈ wsX30, w ∈ wsX3_get := fun _ h => List.mem_cons_of_mem _ (List.mem_append_right _ h)
set_option maxHeartbeats 4000000 in
set_option maxRecDepth 100000 in
theorem k_X3_get (l : Launch) (D : va_G) (cyI cyZ : ClassId) (ad : Nat → Nat) (mc : Nat → Int32) (mw : Nat → Int32) (mn : Nat → Int32) (me : Nat → Int32) (mu : Nat → Int32) (mr : Nat → Int32) (mz : Kr) (mf : Int32) (mt : Int32) (p1 : Int32) (p2 : Int32) (p3 : Int32) (A : Nat → Prop) (sz : Nat) (hAe : A = va_A (wN cyI cyZ ad mc mw mn me mu mr mz mf mt) sz) : Met l yX3_get wsX3_get ({ frames := 3, cells := 0, slots := 0, locals := 70 } : Room) (pcM D cyI cyZ sz [.ref (ad 0), .int p1, .int p2, .int p3] (wN cyI cyZ ad mc mw mn me mu mr mz mf mt)) (mI D A (wN cyI cyZ ad mc mw mn me mu mr mz mf (f_X3_get mc mw me p1 p2 p3).2) (f_X3_get mc mw me p1 p2 p3).1) 0 0 A := by
  refine Met.ofW (cc := cX3_get) (maxL := 4) (ret := (some .int)) (by decide) rfl ?_
  intro p e s m args below meth c s₁ B hml hv
  obtain ⟨rfl, hsz, hP, hG, hD0⟩ := hv
  have hx := B.exec
  have hb := B.bytes
  have hr := B.returns
  have hts := atoms_spec (ws := wsX3_get) B.pre
  have hown : s.vm.findClass RX3 = some m.cls := findClass_of_methodNamed B.named
  have hlocks := B.notSynchronized
  subst hsz
  have hD : va_D A (wN cyI cyZ ad mc mw mn me mu mr mz mf mt) := by rw [hAe]; exact hD0.self
  have hA : ∀ q : Nat, s.heap.size ≤ q → A q := fun q h => by rw [hAe]; exact Or.inr h
  clear hAe hD0
  have hS : va_S nA s.heap s.heap [] := va_S.rf
  have hl := lv_entry ([.ref (ad 0), .int p1, .int p2, .int p3]) (n := 4) (Nat.le_of_ble_eq_true rfl)
  rw [lg_entry_eq]
  generalize (lg_sl ([.ref (ad 0), .int p1, .int p2, .int p3]) ++ List.replicate (4 - (lg_sl ([.ref (ad 0), .int p1, .int p2, .int p3])).length) Slot.unset).toArray = ls at hl ⊢
  have hl : lv_has ls 4 [(0, .ref (ad 0)), (1, .int p1), (2, .int p2), (3, .int p3)] := hl
  have hP : va_P D vwCl (wN cyI cyZ ad mc mw mn me mu mr mz mf mt) s.heap := hP
  refine lv_aload_n hx hb dX3_get_0 rfl (lv_at hl 0 rfl) ?_
  refine lv_iload_n hx hb dX3_get_1 rfl (lv_at hl 1 rfl) ?_
  refine lv_iconst (v := 3) hx hb dX3_get_2 (by decide) ?_
  refine lv_iload_n hx hb dX3_get_3 rfl (lv_at hl 2 rfl) ?_
  refine lv_iload_n hx hb dX3_get_4 rfl (lv_at hl 3 rfl) ?_
  have hS := sw_n (B := A) hS
  refine mr_i0 (va_runV (As := [.int p1, .int 3, .int p2, .int p3]) (rest := []) ⟨hx, hb, hml, hown, hts⟩ (k_X3_findsCell_3 l D cyI cyZ ad mc mw mn me mu mr mz mf mt p1 p2 p3 _ _ rfl) (cwV 4 hts gX3_get_X3_findsCell rfl rfl rfl (by decide +kernel) ⟨Nat.le_of_ble_eq_true rfl, Nat.le_of_ble_eq_true rfl⟩) (pmV hG hP hD (ci := 3) rfl rfl rfl) rfl rfl hl.1 rfl (lv_room (Nat.le_of_ble_eq_true rfl)) dX3_get_5 ⟨Nat.zero_le _, Nat.zero_le _⟩) hD hS hA (fun H locs hP hD hS => ?_)
  have hP : va_P D vwCl (wN cyI cyZ ad mc mw mn me mu mr mz mf ((f_X3_findsCell_3 mc mw p1 p2 p3).2)) H := hP
  have hD : va_D A (wN cyI cyZ ad mc mw mn me mu mr mz mf ((f_X3_findsCell_3 mc mw p1 p2 p3).2)) := hD
  refine lv_if_eq (tgt := 21) hx hb dX3_get_8 (by decide) (fun c_8 => ?_) (fun c_8 => ?_)
  · refine lv_iconst (v := 0) hx hb dX3_get_21 (by decide) ?_
    have ef : f_X3_get mc mw me p1 p2 p3 = (0, ((f_X3_findsCell_3 mc mw p1 p2 p3).2)) := by rw [f_X3_get, if_pos c_8]
    exact W.iret (v := 0) hx hb hr (fun t ht hW => ⟨⟨0, (), rfl, by rw [ef], by rw [ht, ef]; exact hP, by rw [ef]; exact hD⟩, hS.F ht⟩) hS.2.2 dX3_get_22
  · refine lv_aload_n hx hb dX3_get_11 rfl (lv_at hl 0 rfl) ?_
    refine lv_iload_n hx hb dX3_get_12 rfl (lv_at hl 1 rfl) ?_
    refine lv_iload_n hx hb dX3_get_13 rfl (lv_at hl 2 rfl) ?_
    refine lv_iload_n hx hb dX3_get_14 rfl (lv_at hl 3 rfl) ?_
    refine pr_i (va_runV (As := [.int p1, .int p2, .int p3]) (rest := []) ⟨hx, hb, hml, hown, hts⟩ (k_X3_at l D cyI cyZ ad mc mw mn me mu mr mz mf ((f_X3_findsCell_3 mc mw p1 p2 p3).2) p1 p2 p3 (in_findsCell_3_p1 c_8) (in_findsCell_3_p2 c_8) (in_findsCell_3_p3 c_8)) (cwV 3 hts gX3_get_X3_at rfl rfl rfl (by decide +kernel) ⟨Nat.le_of_ble_eq_true rfl, Nat.le_of_ble_eq_true rfl⟩) (prV hG hP (ci := 3) rfl rfl rfl) rfl rfl hl.1 rfl (lv_room (Nat.le_of_ble_eq_true rfl)) dX3_get_15 ⟨Nat.zero_le _, Nat.zero_le _⟩) hS hP (fun H locs hP hS => ?_)
    refine lv_goto (tgt := 22) hx hb dX3_get_18 (by decide) ?_
    have ef : f_X3_get mc mw me p1 p2 p3 = (f_X3_at me p1 p2 p3, ((f_X3_findsCell_3 mc mw p1 p2 p3).2)) := by rw [f_X3_get, if_neg c_8]
    exact W.iret (v := f_X3_at me p1 p2 p3) hx hb hr (fun t ht hW => ⟨⟨f_X3_at me p1 p2 p3, (), rfl, by rw [ef], by rw [ht, ef]; exact hP, by rw [ef]; exact hD⟩, hS.F ht⟩) hS.2.2 dX3_get_22
def f_X3_changedCell (mc : Nat → Int32) (mw : Nat → Int32) (me : Nat → Int32) (p1 : Int32) (p2 : Int32) (p3 : Int32) : Int32 := if (f_X3_hasCell mc mw 0 p2 p3) = 0 then 0 else (if (f_X3_hasCell mc mw p1 p2 p3) = 0 then 0 else (if (f_X3_at me 0 p2 p3) = (f_X3_at me p1 p2 p3) then 0 else 1))
theorem uin_X3_changedCell_X3 : ∀ w ∈ wsX30, w ∈ wsX3_changedCell := fun _ h => List.mem_cons_of_mem _ (List.mem_append_right _ h)
set_option maxHeartbeats 4000000 in
set_option maxRecDepth 100000 in
theorem k_X3_changedCell (l : Launch) (D : va_G) (cyI cyZ : ClassId) (ad : Nat → Nat) (mc : Nat → Int32) (mw : Nat → Int32) (mn : Nat → Int32) (me : Nat → Int32) (mu : Nat → Int32) (mr : Nat → Int32) (mz : Kr) (mf : Int32) (mt : Int32) (p1 : Int32) (p2 : Int32) (p3 : Int32) (hi1 : vp_in p1 4) (hi2 : vp_in p2 24) (hi3 : vp_in p3 8) : Met l yX3_changedCell wsX3_changedCell ({ frames := 2, cells := 0, slots := 0, locals := 45 } : Room) (pcP D cyI cyZ [.ref (ad 0), .int p1, .int p2, .int p3] (wN cyI cyZ ad mc mw mn me mu mr mz mf mt)) (qI (f_X3_changedCell mc mw me p1 p2 p3)) 0 0 nA := by
  refine Met.ofW (cc := cX3_changedCell) (maxL := 4) (ret := (some .boolean)) (by decide) rfl ?_
  intro p e s m args below meth c s₁ B hml hv
  obtain ⟨rfl, hP, hG⟩ := hv
  have hx := B.exec
  have hb := B.bytes
  have hr := B.returns
  have hts := atoms_spec (ws := wsX3_changedCell) B.pre
  have hown : s.vm.findClass RX3 = some m.cls := findClass_of_methodNamed B.named
  have hlocks := B.notSynchronized
  have hS : va_S nA s.heap s.heap [] := va_S.rf
  have hl := lv_entry ([.ref (ad 0), .int p1, .int p2, .int p3]) (n := 4) (Nat.le_of_ble_eq_true rfl)
  rw [lg_entry_eq]
  generalize (lg_sl ([.ref (ad 0), .int p1, .int p2, .int p3]) ++ List.replicate (4 - (lg_sl ([.ref (ad 0), .int p1, .int p2, .int p3])).length) Slot.unset).toArray = ls at hl ⊢
  have hl : lv_has ls 4 [(0, .ref (ad 0)), (1, .int p1), (2, .int p2), (3, .int p3)] := hl
  have hP : va_P D vwCl (wN cyI cyZ ad mc mw mn me mu mr mz mf mt) s.heap := hP
  refine lv_aload_n hx hb dX3_changedCell_0 rfl (lv_at hl 0 rfl) ?_
  refine lv_iconst (v := 0) hx hb dX3_changedCell_1 (by decide) ?_
  refine lv_iload_n hx hb dX3_changedCell_2 rfl (lv_at hl 2 rfl) ?_
  refine lv_iload_n hx hb dX3_changedCell_3 rfl (lv_at hl 3 rfl) ?_
  refine pr_i (va_runV (As := [.int 0, .int p2, .int p3]) (rest := []) ⟨hx, hb, hml, hown, hts⟩ (k_X3_hasCell l D cyI cyZ ad mc mw mn me mu mr mz mf mt 0 p2 p3 (vi_mono (vp_in_nI (n := 0) (N := 1) (by decide) (by decide)) (by decide))) (cwV 3 hts gX3_changedCell_X3_hasCell rfl rfl rfl (by decide +kernel) ⟨Nat.le_of_ble_eq_true rfl, Nat.le_of_ble_eq_true rfl⟩) (prV hG hP (ci := 3) rfl rfl rfl) rfl rfl hl.1 rfl (lv_room (Nat.le_of_ble_eq_true rfl)) dX3_changedCell_4 ⟨Nat.zero_le _, Nat.zero_le _⟩) hS hP (fun H locs hP hS => ?_)
  refine lv_if_eq (tgt := 41) hx hb dX3_changedCell_7 (by decide) (fun c_7 => ?_) (fun c_7 => ?_)
  · refine lv_iconst (v := 0) hx hb dX3_changedCell_41 (by decide) ?_
    have ef : f_X3_changedCell mc mw me p1 p2 p3 = 0 := by rw [f_X3_changedCell, if_pos c_7]
    exact W.zret (v := 0) (ty := .boolean) hx hb hr rfl (fun t ht hW => ⟨⟨0, (), rfl, ef.symm, trivial⟩, hS.F ht⟩) hS.2.2 dX3_changedCell_42
  · refine lv_aload_n hx hb dX3_changedCell_10 rfl (lv_at hl 0 rfl) ?_
    refine lv_iload_n hx hb dX3_changedCell_11 rfl (lv_at hl 1 rfl) ?_
    refine lv_iload_n hx hb dX3_changedCell_12 rfl (lv_at hl 2 rfl) ?_
    refine lv_iload_n hx hb dX3_changedCell_13 rfl (lv_at hl 3 rfl) ?_
    refine pr_i (va_runV (As := [.int p1, .int p2, .int p3]) (rest := []) ⟨hx, hb, hml, hown, hts⟩ (k_X3_hasCell l D cyI cyZ ad mc mw mn me mu mr mz mf mt p1 p2 p3 hi1) (cwV 3 hts gX3_changedCell_X3_hasCell rfl rfl rfl (by decide +kernel) ⟨Nat.le_of_ble_eq_true rfl, Nat.le_of_ble_eq_true rfl⟩) (prV hG hP (ci := 3) rfl rfl rfl) rfl rfl hl.1 rfl (lv_room (Nat.le_of_ble_eq_true rfl)) dX3_changedCell_14 ⟨Nat.zero_le _, Nat.zero_le _⟩) hS hP (fun H locs hP hS => ?_)
    refine lv_if_eq (tgt := 41) hx hb dX3_changedCell_17 (by decide) (fun c_17 => ?_) (fun c_17 => ?_)
    · refine lv_iconst (v := 0) hx hb dX3_changedCell_41 (by decide) ?_
      have ef : f_X3_changedCell mc mw me p1 p2 p3 = 0 := by rw [f_X3_changedCell, if_neg c_7, if_pos c_17]
      exact W.zret (v := 0) (ty := .boolean) hx hb hr rfl (fun t ht hW => ⟨⟨0, (), rfl, ef.symm, trivial⟩, hS.F ht⟩) hS.2.2 dX3_changedCell_42
    · refine lv_aload_n hx hb dX3_changedCell_20 rfl (lv_at hl 0 rfl) ?_
      refine lv_iconst (v := 0) hx hb dX3_changedCell_21 (by decide) ?_
      refine lv_iload_n hx hb dX3_changedCell_22 rfl (lv_at hl 2 rfl) ?_
      refine lv_iload_n hx hb dX3_changedCell_23 rfl (lv_at hl 3 rfl) ?_
      refine pr_i (va_runV (As := [.int 0, .int p2, .int p3]) (rest := []) ⟨hx, hb, hml, hown, hts⟩ (k_X3_at l D cyI cyZ ad mc mw mn me mu mr mz mf mt 0 p2 p3 (vi_mono (vp_in_nI (n := 0) (N := 1) (by decide) (by decide)) (by decide)) hi2 hi3) (cwV 3 hts gX3_changedCell_X3_at rfl rfl rfl (by decide +kernel) ⟨Nat.le_of_ble_eq_true rfl, Nat.le_of_ble_eq_true rfl⟩) (prV hG hP (ci := 3) rfl rfl rfl) rfl rfl hl.1 rfl (lv_room (Nat.le_of_ble_eq_true rfl)) dX3_changedCell_24 ⟨Nat.zero_le _, Nat.zero_le _⟩) hS hP (fun H locs hP hS => ?_)
      refine lv_aload_n hx hb dX3_changedCell_27 rfl (lv_at hl 0 rfl) ?_
      refine lv_iload_n hx hb dX3_changedCell_28 rfl (lv_at hl 1 rfl) ?_
      refine lv_iload_n hx hb dX3_changedCell_29 rfl (lv_at hl 2 rfl) ?_
      refine lv_iload_n hx hb dX3_changedCell_30 rfl (lv_at hl 3 rfl) ?_
      refine pr_i (va_runV (As := [.int p1, .int p2, .int p3]) (rest := [.int (f_X3_at me 0 p2 p3)]) ⟨hx, hb, hml, hown, hts⟩ (k_X3_at l D cyI cyZ ad mc mw mn me mu mr mz mf mt p1 p2 p3 hi1 hi2 hi3) (cwV 3 hts gX3_changedCell_X3_at rfl rfl rfl (by decide +kernel) ⟨Nat.le_of_ble_eq_true rfl, Nat.le_of_ble_eq_true rfl⟩) (prV hG hP (ci := 3) rfl rfl rfl) rfl rfl hl.1 rfl (lv_room (Nat.le_of_ble_eq_true rfl)) dX3_changedCell_31 ⟨Nat.zero_le _, Nat.zero_le _⟩) hS hP (fun H locs hP hS => ?_)
      refine lv_icmp_eq (tgt := 41) hx hb dX3_changedCell_34 (by decide) (fun c_34 => ?_) (fun c_34 => ?_)
      · refine lv_iconst (v := 0) hx hb dX3_changedCell_41 (by decide) ?_
        have ef : f_X3_changedCell mc mw me p1 p2 p3 = 0 := by rw [f_X3_changedCell, if_neg c_7, if_neg c_17, if_pos c_34]
        exact W.zret (v := 0) (ty := .boolean) hx hb hr rfl (fun t ht hW => ⟨⟨0, (), rfl, ef.symm, trivial⟩, hS.F ht⟩) hS.2.2 dX3_changedCell_42
      · refine lv_iconst (v := 1) hx hb dX3_changedCell_37 (by decide) ?_
        refine lv_goto (tgt := 42) hx hb dX3_changedCell_38 (by decide) ?_
        have ef : f_X3_changedCell mc mw me p1 p2 p3 = 1 := by rw [f_X3_changedCell, if_neg c_7, if_neg c_17, if_neg c_34]
        exact W.zret (v := 1) (ty := .boolean) hx hb hr rfl (fun t ht hW => ⟨⟨1, (), rfl, ef.symm, trivial⟩, hS.F ht⟩) hS.2.2 dX3_changedCell_42
theorem b_X3_changedCell {mc : Nat → Int32} {mw : Nat → Int32} {me : Nat → Int32} {p1 : Int32} {p2 : Int32} {p3 : Int32} : f_X3_changedCell mc mw me p1 p2 p3 = 0 ∨ f_X3_changedCell mc mw me p1 p2 p3 = 1 := by
  rw [f_X3_changedCell]
  exact (b01_i b01_0 (b01_i b01_0 (b01_i b01_0 b01_1)))
def f_X3_renamed (mc : Nat → Int32) (mn : Nat → Int32) (p1 : Int32) (p2 : Int32) : Int32 := if (f_X3_hasColumn mc 0 p2) = 0 then 0 else (if (f_X3_hasColumn mc p1 p2) = 0 then 0 else (if (mn (p2).toNatClampNeg) = (mn ((8 * p1) + p2).toNatClampNeg) then 0 else 1))
theorem uin_X3_renamed_X3 : ∀ w ∈ wsX30, w ∈ wsX3_renamed := fun _ h => List.mem_cons_of_mem _ (List.mem_append_right _ h)
set_option maxHeartbeats 4000000 in
set_option maxRecDepth 100000 in
theorem k_X3_renamed (l : Launch) (D : va_G) (cyI cyZ : ClassId) (ad : Nat → Nat) (mc : Nat → Int32) (mw : Nat → Int32) (mn : Nat → Int32) (me : Nat → Int32) (mu : Nat → Int32) (mr : Nat → Int32) (mz : Kr) (mf : Int32) (mt : Int32) (p1 : Int32) (p2 : Int32) (hi1 : vp_in p1 4) (hi2 : vp_in p2 8) : Met l yX3_renamed wsX3_renamed ({ frames := 1, cells := 0, slots := 0, locals := 22 } : Room) (pcP D cyI cyZ [.ref (ad 0), .int p1, .int p2] (wN cyI cyZ ad mc mw mn me mu mr mz mf mt)) (qI (f_X3_renamed mc mn p1 p2)) 0 0 nA := by
  refine Met.ofW (cc := cX3_renamed) (maxL := 3) (ret := (some .boolean)) (by decide) rfl ?_
  intro p e s m args below meth c s₁ B hml hv
  obtain ⟨rfl, hP, hG⟩ := hv
  have hx := B.exec
  have hb := B.bytes
  have hr := B.returns
  have hts := atoms_spec (ws := wsX3_renamed) B.pre
  have hown : s.vm.findClass RX3 = some m.cls := findClass_of_methodNamed B.named
  have hlocks := B.notSynchronized
  have hS : va_S nA s.heap s.heap [] := va_S.rf
  have hl := lv_entry ([.ref (ad 0), .int p1, .int p2]) (n := 3) (Nat.le_of_ble_eq_true rfl)
  rw [lg_entry_eq]
  generalize (lg_sl ([.ref (ad 0), .int p1, .int p2]) ++ List.replicate (3 - (lg_sl ([.ref (ad 0), .int p1, .int p2])).length) Slot.unset).toArray = ls at hl ⊢
  have hl : lv_has ls 3 [(0, .ref (ad 0)), (1, .int p1), (2, .int p2)] := hl
  have hP : va_P D vwCl (wN cyI cyZ ad mc mw mn me mu mr mz mf mt) s.heap := hP
  refine lv_aload_n hx hb dX3_renamed_0 rfl (lv_at hl 0 rfl) ?_
  refine lv_iconst (v := 0) hx hb dX3_renamed_1 (by decide) ?_
  refine lv_iload_n hx hb dX3_renamed_2 rfl (lv_at hl 2 rfl) ?_
  refine pr_i (va_runV (As := [.int 0, .int p2]) (rest := []) ⟨hx, hb, hml, hown, hts⟩ (k_X3_hasColumn l D cyI cyZ ad mc mw mn me mu mr mz mf mt 0 p2 (vi_mono (vp_in_nI (n := 0) (N := 1) (by decide) (by decide)) (by decide))) (cwV 2 hts gX3_renamed_X3_hasColumn rfl rfl rfl (by decide +kernel) ⟨Nat.le_of_ble_eq_true rfl, Nat.le_of_ble_eq_true rfl⟩) (prV hG hP (ci := 3) rfl rfl rfl) rfl rfl hl.1 rfl (lv_room (Nat.le_of_ble_eq_true rfl)) dX3_renamed_3 ⟨Nat.zero_le _, Nat.zero_le _⟩) hS hP (fun H locs hP hS => ?_)
  refine lv_if_eq (tgt := 42) hx hb dX3_renamed_6 (by decide) (fun c_6 => ?_) (fun c_6 => ?_)
  · refine lv_iconst (v := 0) hx hb dX3_renamed_42 (by decide) ?_
    have ef : f_X3_renamed mc mn p1 p2 = 0 := by rw [f_X3_renamed, if_pos c_6]
    exact W.zret (v := 0) (ty := .boolean) hx hb hr rfl (fun t ht hW => ⟨⟨0, (), rfl, ef.symm, trivial⟩, hS.F ht⟩) hS.2.2 dX3_renamed_43
  · refine lv_aload_n hx hb dX3_renamed_9 rfl (lv_at hl 0 rfl) ?_
    refine lv_iload_n hx hb dX3_renamed_10 rfl (lv_at hl 1 rfl) ?_
    refine lv_iload_n hx hb dX3_renamed_11 rfl (lv_at hl 2 rfl) ?_
    refine pr_i (va_runV (As := [.int p1, .int p2]) (rest := []) ⟨hx, hb, hml, hown, hts⟩ (k_X3_hasColumn l D cyI cyZ ad mc mw mn me mu mr mz mf mt p1 p2 hi1) (cwV 2 hts gX3_renamed_X3_hasColumn rfl rfl rfl (by decide +kernel) ⟨Nat.le_of_ble_eq_true rfl, Nat.le_of_ble_eq_true rfl⟩) (prV hG hP (ci := 3) rfl rfl rfl) rfl rfl hl.1 rfl (lv_room (Nat.le_of_ble_eq_true rfl)) dX3_renamed_12 ⟨Nat.zero_le _, Nat.zero_le _⟩) hS hP (fun H locs hP hS => ?_)
    refine lv_if_eq (tgt := 42) hx hb dX3_renamed_15 (by decide) (fun c_15 => ?_) (fun c_15 => ?_)
    · refine lv_iconst (v := 0) hx hb dX3_renamed_42 (by decide) ?_
      have ef : f_X3_renamed mc mn p1 p2 = 0 := by rw [f_X3_renamed, if_neg c_6, if_pos c_15]
      exact W.zret (v := 0) (ty := .boolean) hx hb hr rfl (fun t ht hW => ⟨⟨0, (), rfl, ef.symm, trivial⟩, hS.F ht⟩) hS.2.2 dX3_renamed_43
    · refine lv_aload_n hx hb dX3_renamed_18 rfl (lv_at hl 0 rfl) ?_
      refine va_get (D := D) (ci := 3) (v := .ref (ad 3)) (C := RX3) (T := TX3) (N := 13) hx hb hts uin_X3_renamed_X3 hown hG.1 hP 0 rfl rfl 2 (by decide) (hts (.fieldLink RX3 16 "TableSpliceModel" "name" "[I") (List.mem_of_getElem? (i := 1) rfl)) (fun _ h9 => h9) rfl dX3_renamed_19 ?_
      refine lv_iload_n hx hb dX3_renamed_22 rfl (lv_at hl 2 rfl) ?_
      refine va_iald hx hb hG.1 hP 3 0 rfl rfl (vi_mono hi2 (by decide)) dX3_renamed_23 ?_
      refine lv_aload_n hx hb dX3_renamed_24 rfl (lv_at hl 0 rfl) ?_
      refine va_get (D := D) (ci := 3) (v := .ref (ad 3)) (C := RX3) (T := TX3) (N := 13) hx hb hts uin_X3_renamed_X3 hown hG.1 hP 0 rfl rfl 2 (by decide) (hts (.fieldLink RX3 16 "TableSpliceModel" "name" "[I") (List.mem_of_getElem? (i := 1) rfl)) (fun _ h9 => h9) rfl dX3_renamed_25 ?_
      refine lv_bipush (v := 8) hx hb dX3_renamed_28 (by decide) ?_
      refine lv_iload_n hx hb dX3_renamed_30 rfl (lv_at hl 1 rfl) ?_
      refine lv_imul hx hb dX3_renamed_31 ?_
      refine lv_iload_n hx hb dX3_renamed_32 rfl (lv_at hl 2 rfl) ?_
      refine lv_iadd hx hb dX3_renamed_33 ?_
      refine va_iald hx hb hG.1 hP 3 0 rfl rfl (vi_add (k := 32) (vi_mul (c := 8) (k := 25) rfl hi1 (by decide) (by decide) (by decide)) hi2 (by decide) (by decide)) dX3_renamed_34 ?_
      refine lv_icmp_eq (tgt := 42) hx hb dX3_renamed_35 (by decide) (fun c_35 => ?_) (fun c_35 => ?_)
      · refine lv_iconst (v := 0) hx hb dX3_renamed_42 (by decide) ?_
        have ef : f_X3_renamed mc mn p1 p2 = 0 := by rw [f_X3_renamed, if_neg c_6, if_neg c_15, if_pos c_35]
        exact W.zret (v := 0) (ty := .boolean) hx hb hr rfl (fun t ht hW => ⟨⟨0, (), rfl, ef.symm, trivial⟩, hS.F ht⟩) hS.2.2 dX3_renamed_43
      · refine lv_iconst (v := 1) hx hb dX3_renamed_38 (by decide) ?_
        refine lv_goto (tgt := 43) hx hb dX3_renamed_39 (by decide) ?_
        have ef : f_X3_renamed mc mn p1 p2 = 1 := by rw [f_X3_renamed, if_neg c_6, if_neg c_15, if_neg c_35]
        exact W.zret (v := 1) (ty := .boolean) hx hb hr rfl (fun t ht hW => ⟨⟨1, (), rfl, ef.symm, trivial⟩, hS.F ht⟩) hS.2.2 dX3_renamed_43
theorem b_X3_renamed {mc : Nat → Int32} {mn : Nat → Int32} {p1 : Int32} {p2 : Int32} : f_X3_renamed mc mn p1 p2 = 0 ∨ f_X3_renamed mc mn p1 p2 = 1 := by
  rw [f_X3_renamed]
  exact (b01_i b01_0 (b01_i b01_0 (b01_i b01_0 b01_1)))
def f_X3_changedColumn_sa (mc : Nat → Int32) (mw : Nat → Int32) (me : Nat → Int32) (p1 : Int32) (p2 : Int32) (ia : Nat) (va_3 : Int32) : Int32 := va_3 ||| (f_X3_changedCell mc mw me p1 (nI ia) p2)
def f_X3_changedColumn_la (mc : Nat → Int32) (mw : Nat → Int32) (mn : Nat → Int32) (me : Nat → Int32) (p1 : Int32) (p2 : Int32) : Int32 := it (fun (i9 : Nat) (z9 : Int32) => f_X3_changedColumn_sa mc mw me p1 p2 i9 z9) (f_X3_renamed mc mn p1 p2) 24
def f_X3_changedColumn (mc : Nat → Int32) (mw : Nat → Int32) (mn : Nat → Int32) (me : Nat → Int32) (p1 : Int32) (p2 : Int32) : Int32 := (f_X3_changedColumn_la mc mw mn me p1 p2)
theorem uin_X3_changedColumn_X3 : ∀ w ∈ wsX30, w ∈ wsX3_changedColumn := fun _ h => List.mem_cons_of_mem _ (List.mem_append_right _ h)
set_option maxHeartbeats 4000000 in
set_option maxRecDepth 100000 in
theorem k_X3_changedColumn (l : Launch) (D : va_G) (cyI cyZ : ClassId) (ad : Nat → Nat) (mc : Nat → Int32) (mw : Nat → Int32) (mn : Nat → Int32) (me : Nat → Int32) (mu : Nat → Int32) (mr : Nat → Int32) (mz : Kr) (mf : Int32) (mt : Int32) (p1 : Int32) (p2 : Int32) (hi1 : vp_in p1 4) (hi2 : vp_in p2 8) : Met l yX3_changedColumn wsX3_changedColumn ({ frames := 3, cells := 0, slots := 0, locals := 68 } : Room) (pcP D cyI cyZ [.ref (ad 0), .int p1, .int p2] (wN cyI cyZ ad mc mw mn me mu mr mz mf mt)) (qI (f_X3_changedColumn mc mw mn me p1 p2)) 0 0 nA := by
  refine Met.ofW (cc := cX3_changedColumn) (maxL := 5) (ret := (some .boolean)) (by decide) rfl ?_
  intro p e s m args below meth c s₁ B hml hv
  obtain ⟨rfl, hP, hG⟩ := hv
  have hx := B.exec
  have hb := B.bytes
  have hr := B.returns
  have hts := atoms_spec (ws := wsX3_changedColumn) B.pre
  have hown : s.vm.findClass RX3 = some m.cls := findClass_of_methodNamed B.named
  have hlocks := B.notSynchronized
  have hS : va_S nA s.heap s.heap [] := va_S.rf
  have hl := lv_entry ([.ref (ad 0), .int p1, .int p2]) (n := 5) (Nat.le_of_ble_eq_true rfl)
  rw [lg_entry_eq]
  generalize (lg_sl ([.ref (ad 0), .int p1, .int p2]) ++ List.replicate (5 - (lg_sl ([.ref (ad 0), .int p1, .int p2])).length) Slot.unset).toArray = ls at hl ⊢
  have hl : lv_has ls 5 [(0, .ref (ad 0)), (1, .int p1), (2, .int p2)] := hl
  have hP : va_P D vwCl (wN cyI cyZ ad mc mw mn me mu mr mz mf mt) s.heap := hP
  refine lv_aload_n hx hb dX3_changedColumn_0 rfl (lv_at hl 0 rfl) ?_
  refine lv_iload_n hx hb dX3_changedColumn_1 rfl (lv_at hl 1 rfl) ?_
  refine lv_iload_n hx hb dX3_changedColumn_2 rfl (lv_at hl 2 rfl) ?_
  refine pr_i (va_runV (As := [.int p1, .int p2]) (rest := []) ⟨hx, hb, hml, hown, hts⟩ (k_X3_renamed l D cyI cyZ ad mc mw mn me mu mr mz mf mt p1 p2 hi1 hi2) (cwV 2 hts gX3_changedColumn_X3_renamed rfl rfl rfl (by decide +kernel) ⟨Nat.le_of_ble_eq_true rfl, Nat.le_of_ble_eq_true rfl⟩) (prV hG hP (ci := 3) rfl rfl rfl) rfl rfl hl.1 rfl (lv_room (Nat.le_of_ble_eq_true rfl)) dX3_changedColumn_3 ⟨Nat.zero_le _, Nat.zero_le _⟩) hS hP (fun H locs hP hS => ?_)
  refine lv_istore_n (lv' := [(3, .int (f_X3_renamed mc mn p1 p2)), (0, .ref (ad 0)), (1, .int p1), (2, .int p2)]) hx hb dX3_changedColumn_6 rfl hl (by decide) rfl (fun ls hl => ?_)
  refine lv_iconst (v := 0) hx hb dX3_changedColumn_7 (by decide) ?_
  refine lv_istore (lv' := [(4, .int 0), (3, .int (f_X3_renamed mc mn p1 p2)), (0, .ref (ad 0)), (1, .int p1), (2, .int p2)]) hx hb dX3_changedColumn_8 hl (by decide) rfl (fun ls hl => ?_)
  have lp_a : ∀ (n ia : Nat), ia + n = 24 → ∀ (va_3 : Int32), va_3 = it (fun (i9 : Nat) (z9 : Int32) => f_X3_changedColumn_sa mc mw me p1 p2 i9 z9) (f_X3_renamed mc mn p1 p2) ia → (va_3 = 0 ∨ va_3 = 1) → ∀ (H : Heap) (locs : List Loc), va_P D vwCl (wN cyI cyZ ad mc mw mn me mu mr mz mf mt) H → va_S nA s.heap H locs → ∀ (ls : Array Slot), lv_has ls 5 [(4, .int (nI ia)), (3, .int va_3), (0, .ref (ad 0)), (1, .int p1), (2, .int p2)] → W p l e (headSpec wsX3_changedColumn ({ frames := 3, cells := 0, slots := 0, locals := 68 } : Room)).room s m ([.ref (ad 0), .int p1, .int p2] : List Value).toArray below meth c H locs 0 0 (MQ below (qI (f_X3_changedColumn mc mw mn me p1 p2)) ([.ref (ad 0), .int p1, .int p2] : List Value).toArray s 0 0 nA) (F0 m 10 ls []) := by
    intro n
    induction n with
    | zero =>
      intro ia hi_a va_3 hs_a hb_a H locs hP hS ls hl
      obtain rfl : 24 = ia := by omega
      obtain rfl : va_3 = (f_X3_changedColumn_la mc mw mn me p1 p2) := hs_a
      refine lv_iload hx hb dX3_changedColumn_10 (lv_at hl 0 rfl) ?_
      refine lv_bipush (v := 24) hx hb dX3_changedColumn_12 (by decide) ?_
      refine lv_icmp_ge (tgt := 34) hx hb dX3_changedColumn_14 (by decide) (fun c_14 => ?_) (fun c_14 => ?_)
      · refine lv_iload_n hx hb dX3_changedColumn_34 rfl (lv_at hl 1 rfl) ?_
        have ef : f_X3_changedColumn mc mw mn me p1 p2 = (f_X3_changedColumn_la mc mw mn me p1 p2) := by rw [f_X3_changedColumn]
        exact W.zret (v := (f_X3_changedColumn_la mc mw mn me p1 p2)) (ty := .boolean) hx hb hr (nz_b hb_a) (fun t ht hW => ⟨⟨(f_X3_changedColumn_la mc mw mn me p1 p2), (), rfl, ef.symm, trivial⟩, hS.F ht⟩) hS.2.2 dX3_changedColumn_35
      · exact absurd (by decide) c_14
    | succ n ih_a =>
      intro ia hi_a va_3 hs_a hb_a H locs hP hS ls hl
      have hj_a : ia < 24 := by omega
      refine lv_iload hx hb dX3_changedColumn_10 (lv_at hl 0 rfl) ?_
      refine lv_bipush (v := 24) hx hb dX3_changedColumn_12 (by decide) ?_
      refine lv_icmp_ge (tgt := 34) hx hb dX3_changedColumn_14 (by decide) (fun c_14 => ?_) (fun c_14 => ?_)
      · exact absurd c_14 (nI_ge hj_a (by decide))
      · refine lv_iload_n hx hb dX3_changedColumn_17 rfl (lv_at hl 1 rfl) ?_
        refine lv_aload_n hx hb dX3_changedColumn_18 rfl (lv_at hl 2 rfl) ?_
        refine lv_iload_n hx hb dX3_changedColumn_19 rfl (lv_at hl 3 rfl) ?_
        refine lv_iload hx hb dX3_changedColumn_20 (lv_at hl 0 rfl) ?_
        refine lv_iload_n hx hb dX3_changedColumn_22 rfl (lv_at hl 4 rfl) ?_
        refine pr_i (va_runV (As := [.int p1, .int (nI ia), .int p2]) (rest := [.int va_3]) ⟨hx, hb, hml, hown, hts⟩ (k_X3_changedCell l D cyI cyZ ad mc mw mn me mu mr mz mf mt p1 (nI ia) p2 hi1 (vp_in_nI (n := ia) (N := 24) (by omega) (by omega)) hi2) (cwV 3 hts gX3_changedColumn_X3_changedCell rfl rfl rfl (by decide +kernel) ⟨Nat.le_of_ble_eq_true rfl, Nat.le_of_ble_eq_true rfl⟩) (prV hG hP (ci := 3) rfl rfl rfl) rfl rfl hl.1 rfl (lv_room (Nat.le_of_ble_eq_true rfl)) dX3_changedColumn_23 ⟨Nat.zero_le _, Nat.zero_le _⟩) hS hP (fun H locs hP hS => ?_)
        refine lv_ior hx hb dX3_changedColumn_26 ?_
        refine lv_istore_n (lv' := [(3, .int (va_3 ||| (f_X3_changedCell mc mw me p1 (nI ia) p2))), (4, .int (nI ia)), (0, .ref (ad 0)), (1, .int p1), (2, .int p2)]) hx hb dX3_changedColumn_27 rfl hl (by decide) rfl (fun ls hl => ?_)
        refine lv_iinc (v := nI (ia + 1)) (lv' := [(4, .int (nI (ia + 1))), (3, .int (va_3 ||| (f_X3_changedCell mc mw me p1 (nI ia) p2))), (0, .ref (ad 0)), (1, .int p1), (2, .int p2)]) hx hb dX3_changedColumn_28 hl (k := 1) rfl (nI_1 _) (by decide) rfl (fun ls hl => ?_)
        refine lv_goto (tgt := 10) hx hb dX3_changedColumn_31 (by decide) ?_
        exact ih_a (ia + 1) (by omega) (va_3 ||| (f_X3_changedCell mc mw me p1 (nI ia) p2)) (it_s hs_a (by show f_X3_changedColumn_sa mc mw me p1 p2 ia va_3 = _; rw [f_X3_changedColumn_sa])) (bz_or hb_a b_X3_changedCell) _ _ hP hS ls (lv_sub hl [0, 1, 2, 3, 4] rfl)
  exact lp_a 24 0 (by omega) (f_X3_renamed mc mn p1 p2) rfl b_X3_renamed _ _ hP hS ls (lv_sub hl [0, 1, 2, 3, 4] rfl)
def f_X3_changedRow_sa (mc : Nat → Int32) (mw : Nat → Int32) (me : Nat → Int32) (p1 : Int32) (p2 : Int32) (ia : Nat) (va_3 : Int32) : Int32 := va_3 ||| (f_X3_changedCell mc mw me p1 p2 (nI ia))
def f_X3_changedRow_la (mc : Nat → Int32) (mw : Nat → Int32) (me : Nat → Int32) (p1 : Int32) (p2 : Int32) : Int32 := it (fun (i9 : Nat) (z9 : Int32) => f_X3_changedRow_sa mc mw me p1 p2 i9 z9) 0 8
def f_X3_changedRow (mc : Nat → Int32) (mw : Nat → Int32) (me : Nat → Int32) (p1 : Int32) (p2 : Int32) : Int32 := (f_X3_changedRow_la mc mw me p1 p2)
theorem uin_X3_changedRow_X3 : ∀ w ∈ wsX30, w ∈ wsX3_changedRow := fun _ h => List.mem_cons_of_mem _ (List.mem_append_right _ h)
set_option maxHeartbeats 4000000 in
set_option maxRecDepth 100000 in
theorem k_X3_changedRow (l : Launch) (D : va_G) (cyI cyZ : ClassId) (ad : Nat → Nat) (mc : Nat → Int32) (mw : Nat → Int32) (mn : Nat → Int32) (me : Nat → Int32) (mu : Nat → Int32) (mr : Nat → Int32) (mz : Kr) (mf : Int32) (mt : Int32) (p1 : Int32) (p2 : Int32) (hi1 : vp_in p1 4) (hi2 : vp_in p2 24) : Met l yX3_changedRow wsX3_changedRow ({ frames := 3, cells := 0, slots := 0, locals := 68 } : Room) (pcP D cyI cyZ [.ref (ad 0), .int p1, .int p2] (wN cyI cyZ ad mc mw mn me mu mr mz mf mt)) (qI (f_X3_changedRow mc mw me p1 p2)) 0 0 nA := by
  refine Met.ofW (cc := cX3_changedRow) (maxL := 5) (ret := (some .boolean)) (by decide) rfl ?_
  intro p e s m args below meth c s₁ B hml hv
  obtain ⟨rfl, hP, hG⟩ := hv
  have hx := B.exec
  have hb := B.bytes
  have hr := B.returns
  have hts := atoms_spec (ws := wsX3_changedRow) B.pre
  have hown : s.vm.findClass RX3 = some m.cls := findClass_of_methodNamed B.named
  have hlocks := B.notSynchronized
  have hS : va_S nA s.heap s.heap [] := va_S.rf
  have hl := lv_entry ([.ref (ad 0), .int p1, .int p2]) (n := 5) (Nat.le_of_ble_eq_true rfl)
  rw [lg_entry_eq]
  generalize (lg_sl ([.ref (ad 0), .int p1, .int p2]) ++ List.replicate (5 - (lg_sl ([.ref (ad 0), .int p1, .int p2])).length) Slot.unset).toArray = ls at hl ⊢
  have hl : lv_has ls 5 [(0, .ref (ad 0)), (1, .int p1), (2, .int p2)] := hl
  have hP : va_P D vwCl (wN cyI cyZ ad mc mw mn me mu mr mz mf mt) s.heap := hP
  refine lv_iconst (v := 0) hx hb dX3_changedRow_0 (by decide) ?_
  refine lv_istore_n (lv' := [(3, .int 0), (0, .ref (ad 0)), (1, .int p1), (2, .int p2)]) hx hb dX3_changedRow_1 rfl hl (by decide) rfl (fun ls hl => ?_)
  refine lv_iconst (v := 0) hx hb dX3_changedRow_2 (by decide) ?_
  refine lv_istore (lv' := [(4, .int 0), (3, .int 0), (0, .ref (ad 0)), (1, .int p1), (2, .int p2)]) hx hb dX3_changedRow_3 hl (by decide) rfl (fun ls hl => ?_)
  have lp_a : ∀ (n ia : Nat), ia + n = 8 → ∀ (va_3 : Int32), va_3 = it (fun (i9 : Nat) (z9 : Int32) => f_X3_changedRow_sa mc mw me p1 p2 i9 z9) 0 ia → (va_3 = 0 ∨ va_3 = 1) → ∀ (H : Heap) (locs : List Loc), va_P D vwCl (wN cyI cyZ ad mc mw mn me mu mr mz mf mt) H → va_S nA s.heap H locs → ∀ (ls : Array Slot), lv_has ls 5 [(4, .int (nI ia)), (3, .int va_3), (0, .ref (ad 0)), (1, .int p1), (2, .int p2)] → W p l e (headSpec wsX3_changedRow ({ frames := 3, cells := 0, slots := 0, locals := 68 } : Room)).room s m ([.ref (ad 0), .int p1, .int p2] : List Value).toArray below meth c H locs 0 0 (MQ below (qI (f_X3_changedRow mc mw me p1 p2)) ([.ref (ad 0), .int p1, .int p2] : List Value).toArray s 0 0 nA) (F0 m 5 ls []) := by
    intro n
    induction n with
    | zero =>
      intro ia hi_a va_3 hs_a hb_a H locs hP hS ls hl
      obtain rfl : 8 = ia := by omega
      obtain rfl : va_3 = (f_X3_changedRow_la mc mw me p1 p2) := hs_a
      refine lv_iload hx hb dX3_changedRow_5 (lv_at hl 0 rfl) ?_
      refine lv_bipush (v := 8) hx hb dX3_changedRow_7 (by decide) ?_
      refine lv_icmp_ge (tgt := 29) hx hb dX3_changedRow_9 (by decide) (fun c_9 => ?_) (fun c_9 => ?_)
      · refine lv_iload_n hx hb dX3_changedRow_29 rfl (lv_at hl 1 rfl) ?_
        have ef : f_X3_changedRow mc mw me p1 p2 = (f_X3_changedRow_la mc mw me p1 p2) := by rw [f_X3_changedRow]
        exact W.zret (v := (f_X3_changedRow_la mc mw me p1 p2)) (ty := .boolean) hx hb hr (nz_b hb_a) (fun t ht hW => ⟨⟨(f_X3_changedRow_la mc mw me p1 p2), (), rfl, ef.symm, trivial⟩, hS.F ht⟩) hS.2.2 dX3_changedRow_30
      · exact absurd (by decide) c_9
    | succ n ih_a =>
      intro ia hi_a va_3 hs_a hb_a H locs hP hS ls hl
      have hj_a : ia < 8 := by omega
      refine lv_iload hx hb dX3_changedRow_5 (lv_at hl 0 rfl) ?_
      refine lv_bipush (v := 8) hx hb dX3_changedRow_7 (by decide) ?_
      refine lv_icmp_ge (tgt := 29) hx hb dX3_changedRow_9 (by decide) (fun c_9 => ?_) (fun c_9 => ?_)
      · exact absurd c_9 (nI_ge hj_a (by decide))
      · refine lv_iload_n hx hb dX3_changedRow_12 rfl (lv_at hl 1 rfl) ?_
        refine lv_aload_n hx hb dX3_changedRow_13 rfl (lv_at hl 2 rfl) ?_
        refine lv_iload_n hx hb dX3_changedRow_14 rfl (lv_at hl 3 rfl) ?_
        refine lv_iload_n hx hb dX3_changedRow_15 rfl (lv_at hl 4 rfl) ?_
        refine lv_iload hx hb dX3_changedRow_16 (lv_at hl 0 rfl) ?_
        refine pr_i (va_runV (As := [.int p1, .int p2, .int (nI ia)]) (rest := [.int va_3]) ⟨hx, hb, hml, hown, hts⟩ (k_X3_changedCell l D cyI cyZ ad mc mw mn me mu mr mz mf mt p1 p2 (nI ia) hi1 hi2 (vp_in_nI (n := ia) (N := 8) (by omega) (by omega))) (cwV 3 hts gX3_changedRow_X3_changedCell rfl rfl rfl (by decide +kernel) ⟨Nat.le_of_ble_eq_true rfl, Nat.le_of_ble_eq_true rfl⟩) (prV hG hP (ci := 3) rfl rfl rfl) rfl rfl hl.1 rfl (lv_room (Nat.le_of_ble_eq_true rfl)) dX3_changedRow_18 ⟨Nat.zero_le _, Nat.zero_le _⟩) hS hP (fun H locs hP hS => ?_)
        refine lv_ior hx hb dX3_changedRow_21 ?_
        refine lv_istore_n (lv' := [(3, .int (va_3 ||| (f_X3_changedCell mc mw me p1 p2 (nI ia)))), (4, .int (nI ia)), (0, .ref (ad 0)), (1, .int p1), (2, .int p2)]) hx hb dX3_changedRow_22 rfl hl (by decide) rfl (fun ls hl => ?_)
        refine lv_iinc (v := nI (ia + 1)) (lv' := [(4, .int (nI (ia + 1))), (3, .int (va_3 ||| (f_X3_changedCell mc mw me p1 p2 (nI ia)))), (0, .ref (ad 0)), (1, .int p1), (2, .int p2)]) hx hb dX3_changedRow_23 hl (k := 1) rfl (nI_1 _) (by decide) rfl (fun ls hl => ?_)
        refine lv_goto (tgt := 5) hx hb dX3_changedRow_26 (by decide) ?_
        exact ih_a (ia + 1) (by omega) (va_3 ||| (f_X3_changedCell mc mw me p1 p2 (nI ia))) (it_s hs_a (by show f_X3_changedRow_sa mc mw me p1 p2 ia va_3 = _; rw [f_X3_changedRow_sa])) (bz_or hb_a b_X3_changedCell) _ _ hP hS ls (lv_sub hl [0, 1, 2, 3, 4] rfl)
  exact lp_a 8 0 (by omega) 0 rfl b01_0 _ _ hP hS ls (lv_sub hl [0, 1, 2, 3, 4] rfl)
def f_X3_changes_sb (mc : Nat → Int32) (mw : Nat → Int32) (me : Nat → Int32) (p1 : Int32) (ia : Nat) (ib : Nat) (vb_2 : Int32) : Int32 := if (f_X3_changedCell mc mw me p1 (nI ib) (nI ia)) = 0 then vb_2 + 0 else vb_2 + 1
def f_X3_changes_sa (mc : Nat → Int32) (mw : Nat → Int32) (mn : Nat → Int32) (me : Nat → Int32) (p1 : Int32) (ia : Nat) (va_2 : Int32) : Int32 := if (f_X3_renamed mc mn p1 (nI ia)) = 0 then it (fun (i9 : Nat) (z9 : Int32) => f_X3_changes_sb mc mw me p1 ia i9 z9) (va_2 + 0) 24 else it (fun (i9 : Nat) (z9 : Int32) => f_X3_changes_sb mc mw me p1 ia i9 z9) (va_2 + 1) 24
def f_X3_changes (mc : Nat → Int32) (mw : Nat → Int32) (mn : Nat → Int32) (me : Nat → Int32) (p1 : Int32) : Int32 × Int32 := if (f_X3_isIn p1 1 2) = 0 then ((0, 1)) else ((it (fun (i9 : Nat) (z9 : Int32) => f_X3_changes_sa mc mw mn me p1 i9 z9) ((f_X3_count ((mc (p1).toNatClampNeg) ^^^ (mc (0 : Int32).toNatClampNeg))) + (f_X3_count ((mw (p1).toNatClampNeg) ^^^ (mw (0 : Int32).toNatClampNeg)))) 8, 0))
theorem uin_X3_changes_X3 : ∀ w ∈ wsX30, w ∈ wsX3_changes := fun _ h => List.mem_cons_of_mem _ (List.mem_append_right _ h)
set_option maxHeartbeats 4000000 in
set_option maxRecDepth 100000 in
theorem k_X3_changes (l : Launch) (D : va_G) (cyI cyZ : ClassId) (ad : Nat → Nat) (mc : Nat → Int32) (mw : Nat → Int32) (mn : Nat → Int32) (me : Nat → Int32) (mu : Nat → Int32) (mr : Nat → Int32) (mz : Kr) (mf : Int32) (mt : Int32) (p1 : Int32) (A : Nat → Prop) (sz : Nat) (hAe : A = va_A (wN cyI cyZ ad mc mw mn me mu mr mz mf mt) sz) : Met l yX3_changes wsX3_changes ({ frames := 3, cells := 0, slots := 0, locals := 68 } : Room) (pcM D cyI cyZ sz [.ref (ad 0), .int p1] (wN cyI cyZ ad mc mw mn me mu mr mz mf mt)) (mI D A (wN cyI cyZ ad mc mw mn me mu mr mz mf (f_X3_changes mc mw mn me p1).2) (f_X3_changes mc mw mn me p1).1) 0 0 A := by
  refine Met.ofW (cc := cX3_changes) (maxL := 5) (ret := (some .int)) (by decide) rfl ?_
  intro p e s m args below meth c s₁ B hml hv
  obtain ⟨rfl, hsz, hP, hG, hD0⟩ := hv
  have hx := B.exec
  have hb := B.bytes
  have hr := B.returns
  have hts := atoms_spec (ws := wsX3_changes) B.pre
  have hown : s.vm.findClass RX3 = some m.cls := findClass_of_methodNamed B.named
  have hlocks := B.notSynchronized
  subst hsz
  have hD : va_D A (wN cyI cyZ ad mc mw mn me mu mr mz mf mt) := by rw [hAe]; exact hD0.self
  have hA : ∀ q : Nat, s.heap.size ≤ q → A q := fun q h => by rw [hAe]; exact Or.inr h
  clear hAe hD0
  have hS : va_S nA s.heap s.heap [] := va_S.rf
  have hl := lv_entry ([.ref (ad 0), .int p1]) (n := 5) (Nat.le_of_ble_eq_true rfl)
  rw [lg_entry_eq]
  generalize (lg_sl ([.ref (ad 0), .int p1]) ++ List.replicate (5 - (lg_sl ([.ref (ad 0), .int p1])).length) Slot.unset).toArray = ls at hl ⊢
  have hl : lv_has ls 5 [(0, .ref (ad 0)), (1, .int p1)] := hl
  have hP : va_P D vwCl (wN cyI cyZ ad mc mw mn me mu mr mz mf mt) s.heap := hP
  refine lv_aload_n hx hb dX3_changes_0 rfl (lv_at hl 0 rfl) ?_
  refine lv_iload_n hx hb dX3_changes_1 rfl (lv_at hl 1 rfl) ?_
  refine lv_iconst (v := 1) hx hb dX3_changes_2 (by decide) ?_
  refine lv_iconst (v := 2) hx hb dX3_changes_3 (by decide) ?_
  refine pr_i (va_runS (As := [.int p1, .int 1, .int 2]) (rest := [.ref (ad 0)]) ⟨hx, hb, hml, hown, hts⟩ (k_X3_isIn l D cyI cyZ p1 1 2) (va_cwS 3 hts gX3_changes_X3_isIn rfl rfl rfl (by decide +kernel) ⟨Nat.le_of_ble_eq_true rfl, Nat.le_of_ble_eq_true rfl⟩) (prS hG (hP.sub (ws' := []) [] rfl)) rfl rfl hl.1 rfl (lv_room (Nat.le_of_ble_eq_true rfl)) dX3_changes_4 ⟨Nat.zero_le _, Nat.zero_le _⟩) hS hP (fun H locs hP hS => ?_)
  refine lv_if_eq (tgt := 14) hx hb dX3_changes_7 (by decide) (fun c_7 => ?_) (fun c_7 => ?_)
  · refine lv_iconst (v := 1) hx hb dX3_changes_14 (by decide) ?_
    have hS := sw_n (B := A) hS
    refine va_put (D := D) (ci := 3) (v := .int 1) (ty := .int) (C := RX3) (T := TX3) (N := 13) hx hb hts uin_X3_changes_X3 tyX3 tyX3_ok nmX3 hown hG.1 hP hD hS 0 rfl rfl 12 (by decide) (hts (.fieldLink RX3 41 "TableSpliceModel" "thrown" "I") (List.mem_of_getElem? (i := 1) rfl)) (fun _ h9 => h9) rfl (by decide +kernel) rfl rfl (Nat.le_of_ble_eq_true rfl) dX3_changes_15 (fun H locs hP hD hS => ?_)
    have hP : va_P D vwCl (wN cyI cyZ ad mc mw mn me mu mr mz mf 1) H := hP
    have hD : va_D A (wN cyI cyZ ad mc mw mn me mu mr mz mf 1) := hD
    refine lv_aload_n hx hb dX3_changes_18 rfl (lv_at hl 0 rfl) ?_
    refine va_get (D := D) (ci := 3) (v := .int 1) (C := RX3) (T := TX3) (N := 13) hx hb hts uin_X3_changes_X3 hown hG.1 hP 0 rfl rfl 12 (by decide) (hts (.fieldLink RX3 41 "TableSpliceModel" "thrown" "I") (List.mem_of_getElem? (i := 1) rfl)) (fun _ h9 => h9) rfl dX3_changes_19 ?_
    refine lv_if_le (tgt := 27) hx hb dX3_changes_22 (by decide) (fun c_22 => ?_) (fun c_22 => ?_)
    · exact absurd c_22 (by decide)
    · refine lv_iconst (v := 0) hx hb dX3_changes_25 (by decide) ?_
      have ef : f_X3_changes mc mw mn me p1 = (0, 1) := by rw [f_X3_changes, if_pos c_7]
      exact W.iret (v := 0) hx hb hr (fun t ht hW => ⟨⟨0, (), rfl, by rw [ef], by rw [ht, ef]; exact hP, by rw [ef]; exact hD⟩, hS.F ht⟩) hS.2.2 dX3_changes_26
  · refine lv_iconst (v := 0) hx hb dX3_changes_10 (by decide) ?_
    refine lv_goto (tgt := 15) hx hb dX3_changes_11 (by decide) ?_
    have hS := sw_n (B := A) hS
    refine va_put (D := D) (ci := 3) (v := .int 0) (ty := .int) (C := RX3) (T := TX3) (N := 13) hx hb hts uin_X3_changes_X3 tyX3 tyX3_ok nmX3 hown hG.1 hP hD hS 0 rfl rfl 12 (by decide) (hts (.fieldLink RX3 41 "TableSpliceModel" "thrown" "I") (List.mem_of_getElem? (i := 1) rfl)) (fun _ h9 => h9) rfl (by decide +kernel) rfl rfl (Nat.le_of_ble_eq_true rfl) dX3_changes_15 (fun H locs hP hD hS => ?_)
    have hP : va_P D vwCl (wN cyI cyZ ad mc mw mn me mu mr mz mf 0) H := hP
    have hD : va_D A (wN cyI cyZ ad mc mw mn me mu mr mz mf 0) := hD
    refine lv_aload_n hx hb dX3_changes_18 rfl (lv_at hl 0 rfl) ?_
    refine va_get (D := D) (ci := 3) (v := .int 0) (C := RX3) (T := TX3) (N := 13) hx hb hts uin_X3_changes_X3 hown hG.1 hP 0 rfl rfl 12 (by decide) (hts (.fieldLink RX3 41 "TableSpliceModel" "thrown" "I") (List.mem_of_getElem? (i := 1) rfl)) (fun _ h9 => h9) rfl dX3_changes_19 ?_
    refine lv_if_le (tgt := 27) hx hb dX3_changes_22 (by decide) (fun c_22 => ?_) (fun c_22 => ?_)
    · refine lv_aload_n hx hb dX3_changes_27 rfl (lv_at hl 0 rfl) ?_
      refine va_get (D := D) (ci := 3) (v := .ref (ad 1)) (C := RX3) (T := TX3) (N := 13) hx hb hts uin_X3_changes_X3 hown hG.1 hP 0 rfl rfl 0 (by decide) (hts (.fieldLink RX3 7 "TableSpliceModel" "columns" "[I") (List.mem_of_getElem? (i := 2) rfl)) (fun _ h9 => h9) rfl dX3_changes_28 ?_
      refine lv_iload_n hx hb dX3_changes_31 rfl (lv_at hl 1 rfl) ?_
      refine va_iald hx hb hG.1 hP 1 0 rfl rfl (vi_mono (in_isIn (n := 2) rfl (by decide) c_7) (by decide)) dX3_changes_32 ?_
      refine lv_aload_n hx hb dX3_changes_33 rfl (lv_at hl 0 rfl) ?_
      refine va_get (D := D) (ci := 3) (v := .ref (ad 1)) (C := RX3) (T := TX3) (N := 13) hx hb hts uin_X3_changes_X3 hown hG.1 hP 0 rfl rfl 0 (by decide) (hts (.fieldLink RX3 7 "TableSpliceModel" "columns" "[I") (List.mem_of_getElem? (i := 2) rfl)) (fun _ h9 => h9) rfl dX3_changes_34 ?_
      refine lv_iconst (v := 0) hx hb dX3_changes_37 (by decide) ?_
      refine va_iald hx hb hG.1 hP 1 0 rfl rfl (vi_mono (vp_in_nI (n := 0) (N := 1) (by decide) (by decide)) (by decide)) dX3_changes_38 ?_
      refine lv_ixor hx hb dX3_changes_39 ?_
      refine pr_i (va_runS (As := [.int ((mc (p1).toNatClampNeg) ^^^ (mc (0 : Int32).toNatClampNeg))]) (rest := []) ⟨hx, hb, hml, hown, hts⟩ (k_X3_count l D cyI cyZ ((mc (p1).toNatClampNeg) ^^^ (mc (0 : Int32).toNatClampNeg))) (va_cwS 1 hts gX3_changes_X3_count rfl rfl rfl (by decide +kernel) ⟨Nat.le_of_ble_eq_true rfl, Nat.le_of_ble_eq_true rfl⟩) (prS hG (hP.sub (ws' := []) [] rfl)) rfl rfl hl.1 rfl (lv_room (Nat.le_of_ble_eq_true rfl)) dX3_changes_40 ⟨Nat.zero_le _, Nat.zero_le _⟩) hS hP (fun H locs hP hS => ?_)
      refine lv_aload_n hx hb dX3_changes_43 rfl (lv_at hl 0 rfl) ?_
      refine va_get (D := D) (ci := 3) (v := .ref (ad 2)) (C := RX3) (T := TX3) (N := 13) hx hb hts uin_X3_changes_X3 hown hG.1 hP 0 rfl rfl 1 (by decide) (hts (.fieldLink RX3 13 "TableSpliceModel" "rows" "[I") (List.mem_of_getElem? (i := 3) rfl)) (fun _ h9 => h9) rfl dX3_changes_44 ?_
      refine lv_iload_n hx hb dX3_changes_47 rfl (lv_at hl 1 rfl) ?_
      refine va_iald hx hb hG.1 hP 2 0 rfl rfl (vi_mono (in_isIn (n := 2) rfl (by decide) c_7) (by decide)) dX3_changes_48 ?_
      refine lv_aload_n hx hb dX3_changes_49 rfl (lv_at hl 0 rfl) ?_
      refine va_get (D := D) (ci := 3) (v := .ref (ad 2)) (C := RX3) (T := TX3) (N := 13) hx hb hts uin_X3_changes_X3 hown hG.1 hP 0 rfl rfl 1 (by decide) (hts (.fieldLink RX3 13 "TableSpliceModel" "rows" "[I") (List.mem_of_getElem? (i := 3) rfl)) (fun _ h9 => h9) rfl dX3_changes_50 ?_
      refine lv_iconst (v := 0) hx hb dX3_changes_53 (by decide) ?_
      refine va_iald hx hb hG.1 hP 2 0 rfl rfl (vi_mono (vp_in_nI (n := 0) (N := 1) (by decide) (by decide)) (by decide)) dX3_changes_54 ?_
      refine lv_ixor hx hb dX3_changes_55 ?_
      refine pr_i (va_runS (As := [.int ((mw (p1).toNatClampNeg) ^^^ (mw (0 : Int32).toNatClampNeg))]) (rest := [.int (f_X3_count ((mc (p1).toNatClampNeg) ^^^ (mc (0 : Int32).toNatClampNeg)))]) ⟨hx, hb, hml, hown, hts⟩ (k_X3_count l D cyI cyZ ((mw (p1).toNatClampNeg) ^^^ (mw (0 : Int32).toNatClampNeg))) (va_cwS 1 hts gX3_changes_X3_count rfl rfl rfl (by decide +kernel) ⟨Nat.le_of_ble_eq_true rfl, Nat.le_of_ble_eq_true rfl⟩) (prS hG (hP.sub (ws' := []) [] rfl)) rfl rfl hl.1 rfl (lv_room (Nat.le_of_ble_eq_true rfl)) dX3_changes_56 ⟨Nat.zero_le _, Nat.zero_le _⟩) hS hP (fun H locs hP hS => ?_)
      refine lv_iadd hx hb dX3_changes_59 ?_
      refine lv_istore_n (lv' := [(2, .int ((f_X3_count ((mc (p1).toNatClampNeg) ^^^ (mc (0 : Int32).toNatClampNeg))) + (f_X3_count ((mw (p1).toNatClampNeg) ^^^ (mw (0 : Int32).toNatClampNeg))))), (0, .ref (ad 0)), (1, .int p1)]) hx hb dX3_changes_60 rfl hl (by decide) rfl (fun ls hl => ?_)
      refine lv_iconst (v := 0) hx hb dX3_changes_61 (by decide) ?_
      refine lv_istore_n (lv' := [(3, .int 0), (2, .int ((f_X3_count ((mc (p1).toNatClampNeg) ^^^ (mc (0 : Int32).toNatClampNeg))) + (f_X3_count ((mw (p1).toNatClampNeg) ^^^ (mw (0 : Int32).toNatClampNeg))))), (0, .ref (ad 0)), (1, .int p1)]) hx hb dX3_changes_62 rfl hl (by decide) rfl (fun ls hl => ?_)
      have lp_a : ∀ (n ia : Nat), ia + n = 8 → ∀ (va_2 : Int32), va_2 = it (fun (i9 : Nat) (z9 : Int32) => f_X3_changes_sa mc mw mn me p1 i9 z9) ((f_X3_count ((mc (p1).toNatClampNeg) ^^^ (mc (0 : Int32).toNatClampNeg))) + (f_X3_count ((mw (p1).toNatClampNeg) ^^^ (mw (0 : Int32).toNatClampNeg)))) ia → ∀ (H : Heap) (locs : List Loc), va_P D vwCl (wN cyI cyZ ad mc mw mn me mu mr mz mf 0) H → va_D A (wN cyI cyZ ad mc mw mn me mu mr mz mf 0) → va_S A s.heap H locs → ∀ (ls : Array Slot), lv_has ls 5 [(3, .int (nI ia)), (2, .int va_2), (0, .ref (ad 0)), (1, .int p1)] → W p l e (headSpec wsX3_changes ({ frames := 3, cells := 0, slots := 0, locals := 68 } : Room)).room s m ([.ref (ad 0), .int p1] : List Value).toArray below meth c H locs 0 0 (MQ below (mI D A (wN cyI cyZ ad mc mw mn me mu mr mz mf (f_X3_changes mc mw mn me p1).2) (f_X3_changes mc mw mn me p1).1) ([.ref (ad 0), .int p1] : List Value).toArray s 0 0 A) (F0 m 63 ls []) := by
        intro n
        induction n with
        | zero =>
          intro ia hi_a va_2 hs_a H locs hP hD hS ls hl
          obtain rfl : 8 = ia := by omega
          obtain rfl : va_2 = it (fun (i9 : Nat) (z9 : Int32) => f_X3_changes_sa mc mw mn me p1 i9 z9) ((f_X3_count ((mc (p1).toNatClampNeg) ^^^ (mc (0 : Int32).toNatClampNeg))) + (f_X3_count ((mw (p1).toNatClampNeg) ^^^ (mw (0 : Int32).toNatClampNeg)))) 8 := hs_a
          refine lv_iload_n hx hb dX3_changes_63 rfl (lv_at hl 0 rfl) ?_
          refine lv_bipush (v := 8) hx hb dX3_changes_64 (by decide) ?_
          refine lv_icmp_ge (tgt := 127) hx hb dX3_changes_66 (by decide) (fun c_66 => ?_) (fun c_66 => ?_)
          · refine lv_iload_n hx hb dX3_changes_127 rfl (lv_at hl 1 rfl) ?_
            have ef : f_X3_changes mc mw mn me p1 = (it (fun (i9 : Nat) (z9 : Int32) => f_X3_changes_sa mc mw mn me p1 i9 z9) ((f_X3_count ((mc (p1).toNatClampNeg) ^^^ (mc (0 : Int32).toNatClampNeg))) + (f_X3_count ((mw (p1).toNatClampNeg) ^^^ (mw (0 : Int32).toNatClampNeg)))) 8, 0) := by rw [f_X3_changes, if_neg c_7]
            exact W.iret (v := it (fun (i9 : Nat) (z9 : Int32) => f_X3_changes_sa mc mw mn me p1 i9 z9) ((f_X3_count ((mc (p1).toNatClampNeg) ^^^ (mc (0 : Int32).toNatClampNeg))) + (f_X3_count ((mw (p1).toNatClampNeg) ^^^ (mw (0 : Int32).toNatClampNeg)))) 8) hx hb hr (fun t ht hW => ⟨⟨it (fun (i9 : Nat) (z9 : Int32) => f_X3_changes_sa mc mw mn me p1 i9 z9) ((f_X3_count ((mc (p1).toNatClampNeg) ^^^ (mc (0 : Int32).toNatClampNeg))) + (f_X3_count ((mw (p1).toNatClampNeg) ^^^ (mw (0 : Int32).toNatClampNeg)))) 8, (), rfl, by rw [ef], by rw [ht, ef]; exact hP, by rw [ef]; exact hD⟩, hS.F ht⟩) hS.2.2 dX3_changes_128
          · exact absurd (by decide) c_66
        | succ n ih_a =>
          intro ia hi_a va_2 hs_a H locs hP hD hS ls hl
          have hj_a : ia < 8 := by omega
          refine lv_iload_n hx hb dX3_changes_63 rfl (lv_at hl 0 rfl) ?_
          refine lv_bipush (v := 8) hx hb dX3_changes_64 (by decide) ?_
          refine lv_icmp_ge (tgt := 127) hx hb dX3_changes_66 (by decide) (fun c_66 => ?_) (fun c_66 => ?_)
          · exact absurd c_66 (nI_ge hj_a (by decide))
          · refine lv_iload_n hx hb dX3_changes_69 rfl (lv_at hl 1 rfl) ?_
            refine lv_aload_n hx hb dX3_changes_70 rfl (lv_at hl 2 rfl) ?_
            refine lv_iload_n hx hb dX3_changes_71 rfl (lv_at hl 3 rfl) ?_
            refine lv_iload_n hx hb dX3_changes_72 rfl (lv_at hl 0 rfl) ?_
            refine pr_i (va_runV (As := [.int p1, .int (nI ia)]) (rest := [.int va_2]) ⟨hx, hb, hml, hown, hts⟩ (k_X3_renamed l D cyI cyZ ad mc mw mn me mu mr mz mf 0 p1 (nI ia) (vi_mono (in_isIn (n := 2) rfl (by decide) c_7) (by decide)) (vp_in_nI (n := ia) (N := 8) (by omega) (by omega))) (cwV 2 hts gX3_changes_X3_renamed rfl rfl rfl (by decide +kernel) ⟨Nat.le_of_ble_eq_true rfl, Nat.le_of_ble_eq_true rfl⟩) (prV hG hP (ci := 3) rfl rfl rfl) rfl rfl hl.1 rfl (lv_room (Nat.le_of_ble_eq_true rfl)) dX3_changes_73 ⟨Nat.zero_le _, Nat.zero_le _⟩) hS hP (fun H locs hP hS => ?_)
            refine lv_if_eq (tgt := 83) hx hb dX3_changes_76 (by decide) (fun c_76 => ?_) (fun c_76 => ?_)
            · refine lv_iconst (v := 0) hx hb dX3_changes_83 (by decide) ?_
              refine lv_iadd hx hb dX3_changes_84 ?_
              refine lv_istore_n (lv' := [(2, .int (va_2 + 0)), (3, .int (nI ia)), (0, .ref (ad 0)), (1, .int p1)]) hx hb dX3_changes_85 rfl hl (by decide) rfl (fun ls hl => ?_)
              refine lv_iconst (v := 0) hx hb dX3_changes_86 (by decide) ?_
              refine lv_istore (lv' := [(4, .int 0), (2, .int (va_2 + 0)), (3, .int (nI ia)), (0, .ref (ad 0)), (1, .int p1)]) hx hb dX3_changes_87 hl (by decide) rfl (fun ls hl => ?_)
              have lp_b : ∀ (n ib : Nat), ib + n = 24 → ∀ (vb_2 : Int32), vb_2 = it (fun (i9 : Nat) (z9 : Int32) => f_X3_changes_sb mc mw me p1 ia i9 z9) (va_2 + 0) ib → ∀ (H : Heap) (locs : List Loc), va_P D vwCl (wN cyI cyZ ad mc mw mn me mu mr mz mf 0) H → va_D A (wN cyI cyZ ad mc mw mn me mu mr mz mf 0) → va_S A s.heap H locs → ∀ (ls : Array Slot), lv_has ls 5 [(4, .int (nI ib)), (2, .int vb_2), (3, .int (nI ia)), (0, .ref (ad 0)), (1, .int p1)] → W p l e (headSpec wsX3_changes ({ frames := 3, cells := 0, slots := 0, locals := 68 } : Room)).room s m ([.ref (ad 0), .int p1] : List Value).toArray below meth c H locs 0 0 (MQ below (mI D A (wN cyI cyZ ad mc mw mn me mu mr mz mf (f_X3_changes mc mw mn me p1).2) (f_X3_changes mc mw mn me p1).1) ([.ref (ad 0), .int p1] : List Value).toArray s 0 0 A) (F0 m 89 ls []) := by
                intro n
                induction n with
                | zero =>
                  intro ib hi_b vb_2 hs_b H locs hP hD hS ls hl
                  obtain rfl : 24 = ib := by omega
                  obtain rfl : vb_2 = it (fun (i9 : Nat) (z9 : Int32) => f_X3_changes_sb mc mw me p1 ia i9 z9) (va_2 + 0) 24 := hs_b
                  refine lv_iload hx hb dX3_changes_89 (lv_at hl 0 rfl) ?_
                  refine lv_bipush (v := 24) hx hb dX3_changes_91 (by decide) ?_
                  refine lv_icmp_ge (tgt := 121) hx hb dX3_changes_93 (by decide) (fun c_93 => ?_) (fun c_93 => ?_)
                  · refine lv_iinc (v := nI (ia + 1)) (lv' := [(3, .int (nI (ia + 1))), (4, .int (nI 24)), (2, .int (it (fun (i9 : Nat) (z9 : Int32) => f_X3_changes_sb mc mw me p1 ia i9 z9) (va_2 + 0) 24)), (0, .ref (ad 0)), (1, .int p1)]) hx hb dX3_changes_121 hl (k := 2) rfl (nI_1 _) (by decide) rfl (fun ls hl => ?_)
                    refine lv_goto (tgt := 63) hx hb dX3_changes_124 (by decide) ?_
                    exact ih_a (ia + 1) (by omega) (it (fun (i9 : Nat) (z9 : Int32) => f_X3_changes_sb mc mw me p1 ia i9 z9) (va_2 + 0) 24) (it_s hs_a (by show f_X3_changes_sa mc mw mn me p1 ia va_2 = _; rw [f_X3_changes_sa, if_pos c_76])) _ _ hP hD hS ls (lv_sub hl [0, 2, 3, 4] rfl)
                  · exact absurd (by decide) c_93
                | succ n ih_b =>
                  intro ib hi_b vb_2 hs_b H locs hP hD hS ls hl
                  have hj_b : ib < 24 := by omega
                  refine lv_iload hx hb dX3_changes_89 (lv_at hl 0 rfl) ?_
                  refine lv_bipush (v := 24) hx hb dX3_changes_91 (by decide) ?_
                  refine lv_icmp_ge (tgt := 121) hx hb dX3_changes_93 (by decide) (fun c_93 => ?_) (fun c_93 => ?_)
                  · exact absurd c_93 (nI_ge hj_b (by decide))
                  · refine lv_iload_n hx hb dX3_changes_96 rfl (lv_at hl 1 rfl) ?_
                    refine lv_aload_n hx hb dX3_changes_97 rfl (lv_at hl 3 rfl) ?_
                    refine lv_iload_n hx hb dX3_changes_98 rfl (lv_at hl 4 rfl) ?_
                    refine lv_iload hx hb dX3_changes_99 (lv_at hl 0 rfl) ?_
                    refine lv_iload_n hx hb dX3_changes_101 rfl (lv_at hl 2 rfl) ?_
                    refine pr_i (va_runV (As := [.int p1, .int (nI ib), .int (nI ia)]) (rest := [.int vb_2]) ⟨hx, hb, hml, hown, hts⟩ (k_X3_changedCell l D cyI cyZ ad mc mw mn me mu mr mz mf 0 p1 (nI ib) (nI ia) (vi_mono (in_isIn (n := 2) rfl (by decide) c_7) (by decide)) (vp_in_nI (n := ib) (N := 24) (by omega) (by omega)) (vp_in_nI (n := ia) (N := 8) (by omega) (by omega))) (cwV 3 hts gX3_changes_X3_changedCell rfl rfl rfl (by decide +kernel) ⟨Nat.le_of_ble_eq_true rfl, Nat.le_of_ble_eq_true rfl⟩) (prV hG hP (ci := 3) rfl rfl rfl) rfl rfl hl.1 rfl (lv_room (Nat.le_of_ble_eq_true rfl)) dX3_changes_102 ⟨Nat.zero_le _, Nat.zero_le _⟩) hS hP (fun H locs hP hS => ?_)
                    refine lv_if_eq (tgt := 112) hx hb dX3_changes_105 (by decide) (fun c_105 => ?_) (fun c_105 => ?_)
                    · refine lv_iconst (v := 0) hx hb dX3_changes_112 (by decide) ?_
                      refine lv_iadd hx hb dX3_changes_113 ?_
                      refine lv_istore_n (lv' := [(2, .int (vb_2 + 0)), (4, .int (nI ib)), (3, .int (nI ia)), (0, .ref (ad 0)), (1, .int p1)]) hx hb dX3_changes_114 rfl hl (by decide) rfl (fun ls hl => ?_)
                      refine lv_iinc (v := nI (ib + 1)) (lv' := [(4, .int (nI (ib + 1))), (2, .int (vb_2 + 0)), (3, .int (nI ia)), (0, .ref (ad 0)), (1, .int p1)]) hx hb dX3_changes_115 hl (k := 1) rfl (nI_1 _) (by decide) rfl (fun ls hl => ?_)
                      refine lv_goto (tgt := 89) hx hb dX3_changes_118 (by decide) ?_
                      exact ih_b (ib + 1) (by omega) (vb_2 + 0) (it_s hs_b (by show f_X3_changes_sb mc mw me p1 ia ib vb_2 = _; rw [f_X3_changes_sb, if_pos c_105])) _ _ hP hD hS ls (lv_sub hl [0, 1, 2, 3, 4] rfl)
                    · refine lv_iconst (v := 1) hx hb dX3_changes_108 (by decide) ?_
                      refine lv_goto (tgt := 113) hx hb dX3_changes_109 (by decide) ?_
                      refine lv_iadd hx hb dX3_changes_113 ?_
                      refine lv_istore_n (lv' := [(2, .int (vb_2 + 1)), (4, .int (nI ib)), (3, .int (nI ia)), (0, .ref (ad 0)), (1, .int p1)]) hx hb dX3_changes_114 rfl hl (by decide) rfl (fun ls hl => ?_)
                      refine lv_iinc (v := nI (ib + 1)) (lv' := [(4, .int (nI (ib + 1))), (2, .int (vb_2 + 1)), (3, .int (nI ia)), (0, .ref (ad 0)), (1, .int p1)]) hx hb dX3_changes_115 hl (k := 1) rfl (nI_1 _) (by decide) rfl (fun ls hl => ?_)
                      refine lv_goto (tgt := 89) hx hb dX3_changes_118 (by decide) ?_
                      exact ih_b (ib + 1) (by omega) (vb_2 + 1) (it_s hs_b (by show f_X3_changes_sb mc mw me p1 ia ib vb_2 = _; rw [f_X3_changes_sb, if_neg c_105])) _ _ hP hD hS ls (lv_sub hl [0, 1, 2, 3, 4] rfl)
              exact lp_b 24 0 (by omega) (va_2 + 0) rfl _ _ hP hD hS ls (lv_sub hl [0, 1, 2, 3, 4] rfl)
            · refine lv_iconst (v := 1) hx hb dX3_changes_79 (by decide) ?_
              refine lv_goto (tgt := 84) hx hb dX3_changes_80 (by decide) ?_
              refine lv_iadd hx hb dX3_changes_84 ?_
              refine lv_istore_n (lv' := [(2, .int (va_2 + 1)), (3, .int (nI ia)), (0, .ref (ad 0)), (1, .int p1)]) hx hb dX3_changes_85 rfl hl (by decide) rfl (fun ls hl => ?_)
              refine lv_iconst (v := 0) hx hb dX3_changes_86 (by decide) ?_
              refine lv_istore (lv' := [(4, .int 0), (2, .int (va_2 + 1)), (3, .int (nI ia)), (0, .ref (ad 0)), (1, .int p1)]) hx hb dX3_changes_87 hl (by decide) rfl (fun ls hl => ?_)
              have lp_b : ∀ (n ib : Nat), ib + n = 24 → ∀ (vb_2 : Int32), vb_2 = it (fun (i9 : Nat) (z9 : Int32) => f_X3_changes_sb mc mw me p1 ia i9 z9) (va_2 + 1) ib → ∀ (H : Heap) (locs : List Loc), va_P D vwCl (wN cyI cyZ ad mc mw mn me mu mr mz mf 0) H → va_D A (wN cyI cyZ ad mc mw mn me mu mr mz mf 0) → va_S A s.heap H locs → ∀ (ls : Array Slot), lv_has ls 5 [(4, .int (nI ib)), (2, .int vb_2), (3, .int (nI ia)), (0, .ref (ad 0)), (1, .int p1)] → W p l e (headSpec wsX3_changes ({ frames := 3, cells := 0, slots := 0, locals := 68 } : Room)).room s m ([.ref (ad 0), .int p1] : List Value).toArray below meth c H locs 0 0 (MQ below (mI D A (wN cyI cyZ ad mc mw mn me mu mr mz mf (f_X3_changes mc mw mn me p1).2) (f_X3_changes mc mw mn me p1).1) ([.ref (ad 0), .int p1] : List Value).toArray s 0 0 A) (F0 m 89 ls []) := by
                intro n
                induction n with
                | zero =>
                  intro ib hi_b vb_2 hs_b H locs hP hD hS ls hl
                  obtain rfl : 24 = ib := by omega
                  obtain rfl : vb_2 = it (fun (i9 : Nat) (z9 : Int32) => f_X3_changes_sb mc mw me p1 ia i9 z9) (va_2 + 1) 24 := hs_b
                  refine lv_iload hx hb dX3_changes_89 (lv_at hl 0 rfl) ?_
                  refine lv_bipush (v := 24) hx hb dX3_changes_91 (by decide) ?_
                  refine lv_icmp_ge (tgt := 121) hx hb dX3_changes_93 (by decide) (fun c_93 => ?_) (fun c_93 => ?_)
                  · refine lv_iinc (v := nI (ia + 1)) (lv' := [(3, .int (nI (ia + 1))), (4, .int (nI 24)), (2, .int (it (fun (i9 : Nat) (z9 : Int32) => f_X3_changes_sb mc mw me p1 ia i9 z9) (va_2 + 1) 24)), (0, .ref (ad 0)), (1, .int p1)]) hx hb dX3_changes_121 hl (k := 2) rfl (nI_1 _) (by decide) rfl (fun ls hl => ?_)
                    refine lv_goto (tgt := 63) hx hb dX3_changes_124 (by decide) ?_
                    exact ih_a (ia + 1) (by omega) (it (fun (i9 : Nat) (z9 : Int32) => f_X3_changes_sb mc mw me p1 ia i9 z9) (va_2 + 1) 24) (it_s hs_a (by show f_X3_changes_sa mc mw mn me p1 ia va_2 = _; rw [f_X3_changes_sa, if_neg c_76])) _ _ hP hD hS ls (lv_sub hl [0, 2, 3, 4] rfl)
                  · exact absurd (by decide) c_93
                | succ n ih_b =>
                  intro ib hi_b vb_2 hs_b H locs hP hD hS ls hl
                  have hj_b : ib < 24 := by omega
                  refine lv_iload hx hb dX3_changes_89 (lv_at hl 0 rfl) ?_
                  refine lv_bipush (v := 24) hx hb dX3_changes_91 (by decide) ?_
                  refine lv_icmp_ge (tgt := 121) hx hb dX3_changes_93 (by decide) (fun c_93 => ?_) (fun c_93 => ?_)
                  · exact absurd c_93 (nI_ge hj_b (by decide))
                  · refine lv_iload_n hx hb dX3_changes_96 rfl (lv_at hl 1 rfl) ?_
                    refine lv_aload_n hx hb dX3_changes_97 rfl (lv_at hl 3 rfl) ?_
                    refine lv_iload_n hx hb dX3_changes_98 rfl (lv_at hl 4 rfl) ?_
                    refine lv_iload hx hb dX3_changes_99 (lv_at hl 0 rfl) ?_
                    refine lv_iload_n hx hb dX3_changes_101 rfl (lv_at hl 2 rfl) ?_
                    refine pr_i (va_runV (As := [.int p1, .int (nI ib), .int (nI ia)]) (rest := [.int vb_2]) ⟨hx, hb, hml, hown, hts⟩ (k_X3_changedCell l D cyI cyZ ad mc mw mn me mu mr mz mf 0 p1 (nI ib) (nI ia) (vi_mono (in_isIn (n := 2) rfl (by decide) c_7) (by decide)) (vp_in_nI (n := ib) (N := 24) (by omega) (by omega)) (vp_in_nI (n := ia) (N := 8) (by omega) (by omega))) (cwV 3 hts gX3_changes_X3_changedCell rfl rfl rfl (by decide +kernel) ⟨Nat.le_of_ble_eq_true rfl, Nat.le_of_ble_eq_true rfl⟩) (prV hG hP (ci := 3) rfl rfl rfl) rfl rfl hl.1 rfl (lv_room (Nat.le_of_ble_eq_true rfl)) dX3_changes_102 ⟨Nat.zero_le _, Nat.zero_le _⟩) hS hP (fun H locs hP hS => ?_)
                    refine lv_if_eq (tgt := 112) hx hb dX3_changes_105 (by decide) (fun c_105 => ?_) (fun c_105 => ?_)
                    · refine lv_iconst (v := 0) hx hb dX3_changes_112 (by decide) ?_
                      refine lv_iadd hx hb dX3_changes_113 ?_
                      refine lv_istore_n (lv' := [(2, .int (vb_2 + 0)), (4, .int (nI ib)), (3, .int (nI ia)), (0, .ref (ad 0)), (1, .int p1)]) hx hb dX3_changes_114 rfl hl (by decide) rfl (fun ls hl => ?_)
                      refine lv_iinc (v := nI (ib + 1)) (lv' := [(4, .int (nI (ib + 1))), (2, .int (vb_2 + 0)), (3, .int (nI ia)), (0, .ref (ad 0)), (1, .int p1)]) hx hb dX3_changes_115 hl (k := 1) rfl (nI_1 _) (by decide) rfl (fun ls hl => ?_)
                      refine lv_goto (tgt := 89) hx hb dX3_changes_118 (by decide) ?_
                      exact ih_b (ib + 1) (by omega) (vb_2 + 0) (it_s hs_b (by show f_X3_changes_sb mc mw me p1 ia ib vb_2 = _; rw [f_X3_changes_sb, if_pos c_105])) _ _ hP hD hS ls (lv_sub hl [0, 1, 2, 3, 4] rfl)
                    · refine lv_iconst (v := 1) hx hb dX3_changes_108 (by decide) ?_
                      refine lv_goto (tgt := 113) hx hb dX3_changes_109 (by decide) ?_
                      refine lv_iadd hx hb dX3_changes_113 ?_
                      refine lv_istore_n (lv' := [(2, .int (vb_2 + 1)), (4, .int (nI ib)), (3, .int (nI ia)), (0, .ref (ad 0)), (1, .int p1)]) hx hb dX3_changes_114 rfl hl (by decide) rfl (fun ls hl => ?_)
                      refine lv_iinc (v := nI (ib + 1)) (lv' := [(4, .int (nI (ib + 1))), (2, .int (vb_2 + 1)), (3, .int (nI ia)), (0, .ref (ad 0)), (1, .int p1)]) hx hb dX3_changes_115 hl (k := 1) rfl (nI_1 _) (by decide) rfl (fun ls hl => ?_)
                      refine lv_goto (tgt := 89) hx hb dX3_changes_118 (by decide) ?_
                      exact ih_b (ib + 1) (by omega) (vb_2 + 1) (it_s hs_b (by show f_X3_changes_sb mc mw me p1 ia ib vb_2 = _; rw [f_X3_changes_sb, if_neg c_105])) _ _ hP hD hS ls (lv_sub hl [0, 1, 2, 3, 4] rfl)
              exact lp_b 24 0 (by omega) (va_2 + 1) rfl _ _ hP hD hS ls (lv_sub hl [0, 1, 2, 3, 4] rfl)
      exact lp_a 8 0 (by omega) ((f_X3_count ((mc (p1).toNatClampNeg) ^^^ (mc (0 : Int32).toNatClampNeg))) + (f_X3_count ((mw (p1).toNatClampNeg) ^^^ (mw (0 : Int32).toNatClampNeg)))) rfl _ _ hP hD hS ls (lv_sub hl [0, 1, 2, 3] rfl)
    · exact absurd (by decide) c_22
