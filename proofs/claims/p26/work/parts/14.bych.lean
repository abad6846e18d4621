theorem b01_i {c : Prop} [Decidable c] {a b : Int32} (ha : a = 0 ∨ a = 1) (hb : b = 0 ∨ b = 1) : (if c then a else b) = 0 ∨ (if c then a else b) = 1 := by
  by_cases h : c
  · rw [if_pos h]; exact ha
  · rw [if_neg h]; exact hb
theorem b01_0 : (0 : Int32) = 0 ∨ (0 : Int32) = 1 := Or.inl rfl
theorem b01_1 : (1 : Int32) = 0 ∨ (1 : Int32) = 1 := Or.inr rfl
def f_X2_rowStaysAfter_ot (zb : Tr) (zo : Tr) (zt : Tr) (p1 : Int32) (p4 : Int32) : Int32 := if (f_X1_hasRow zo p4) = (f_X1_hasRow zb p4) then p1 else (if (f_X1_hasRow zo p4) = 0 then (if p1 = 0 then 0 else (if (f_X1_countCellsChanged zt zb p4) ≤ 0 then 0 else 1)) else 1)
theorem uin_X2_rowStaysAfter_X2 : ∀ w ∈ wsX20, w ∈ wsX2_rowStaysAfter := fun _ h => List.mem_cons_of_mem _ (List.mem_append_left _ (List.mem_append_right _ h))
theorem uin_X2_rowStaysAfter_X1 : ∀ w ∈ wsX10, w ∈ wsX2_rowStaysAfter := fun _ h => List.mem_cons_of_mem _ (List.mem_append_right _ h)
set_option maxHeartbeats 4000000 in
set_option maxRecDepth 100000 in
theorem k_X2_rowStaysAfter_ot (l : Launch) (D : va_G) (cyI cyZ : ClassId) (ad : Nat → Nat) (zb : Tr) (zo : Tr) (zt : Tr) (zm : Tr) (zu : Nat → Int32) (zr : Nat → Int32) (zl : Lr) (zf : Int32) (p1 : Int32) (p4 : Int32) (hb9 : p1 = 0 ∨ p1 = 1) : Met l yX2_rowStaysAfter wsX2_rowStaysAfter ({ frames := 4, cells := 0, slots := 0, locals := 91 } : Room) (pcP D cyI cyZ [.ref (ad 0), .int p1, .ref (ad 4), .ref (ad 7), .int p4] (wZ cyI cyZ ad zb zo zt zm zu zr zl zf)) (qI (f_X2_rowStaysAfter_ot zb zo zt p1 p4)) 0 0 nA := by
  refine Met.ofW (cc := cX2_rowStaysAfter) (maxL := 5) (ret := (some .boolean)) (by decide) rfl ?_
  intro p e s m args below meth c s₁ B hml hv
  obtain ⟨rfl, hP, hG⟩ := hv
  have hx := B.exec
  have hb := B.bytes
  have hr := B.returns
  have hts := atoms_spec (ws := wsX2_rowStaysAfter) B.pre
  have hown : s.vm.findClass RX2 = some m.cls := findClass_of_methodNamed B.named
  have hlocks := B.notSynchronized
  have hS : va_S nA s.heap s.heap [] := va_S.rf
  have hl := lv_entry ([.ref (ad 0), .int p1, .ref (ad 4), .ref (ad 7), .int p4]) (n := 5) (Nat.le_of_ble_eq_true rfl)
  rw [lg_entry_eq]
  generalize (lg_sl ([.ref (ad 0), .int p1, .ref (ad 4), .ref (ad 7), .int p4]) ++ List.replicate (5 - (lg_sl ([.ref (ad 0), .int p1, .ref (ad 4), .ref (ad 7), .int p4])).length) Slot.unset).toArray = ls at hl ⊢
  have hl : lv_has ls 5 [(0, .ref (ad 0)), (1, .int p1), (2, .ref (ad 4)), (3, .ref (ad 7)), (4, .int p4)] := hl
  have hP : va_P D vwCl (wZ cyI cyZ ad zb zo zt zm zu zr zl zf) s.heap := hP
  refine lv_aload_n hx hb dX2_rowStaysAfter_0 rfl (lv_at hl 2 rfl) ?_
  refine lv_iload hx hb dX2_rowStaysAfter_1 (lv_at hl 4 rfl) ?_
  refine pr_i (va_runVN (As := [.int p4]) (rest := []) ⟨hx, hb, hml, hown, hts⟩ (k_X1_hasRow l D cyI cyZ (ad 4) (ad 5) (ad 6) zo p4) ⟨va_cnB 1 hts gX2_rowStaysAfter_X1_hasRow_n91 rfl rfl rfl (hG.2.1 (RX2, 91, yX1_hasRow, "TableSplice") (List.mem_of_getElem? (i := 13) rfl)) (hts (.initialized RX1) (List.mem_of_getElem? (i := 3) rfl)) (by decide +kernel) ⟨Nat.le_of_ble_eq_true rfl, Nat.le_of_ble_eq_true rfl⟩, hts (.instanceMethod yX1_hasRow) (List.mem_of_getElem? (i := 2) rfl), hts (.selects RX1 yX1_hasRow yX1_hasRow) (List.mem_of_getElem? (i := 4) rfl)⟩ (prV hG (hP.sub (ws' := wT cyI (ad 4) (ad 5) (ad 6) zo) [4, 5, 6] rfl) (ci := 1) rfl rfl rfl) rfl rfl hl.1 rfl (lv_room (Nat.le_of_ble_eq_true rfl)) dX2_rowStaysAfter_3 ⟨Nat.zero_le _, Nat.zero_le _⟩) hS hP (fun H locs hP hS => ?_)
  refine lv_aload_n hx hb dX2_rowStaysAfter_6 rfl (lv_at hl 0 rfl) ?_
  refine va_get (D := D) (ci := 2) (v := .ref (ad 1)) (C := RX2) (T := TX2) (N := 8) hx hb hts uin_X2_rowStaysAfter_X2 hown hG.1 hP 0 rfl rfl 0 (by decide) (hts (.fieldLink RX2 10 "TableSplice" "base" "LTableSplice$Table;") (List.mem_of_getElem? (i := 1) rfl)) (fun _ h9 => h9) rfl dX2_rowStaysAfter_7 ?_
  refine lv_iload hx hb dX2_rowStaysAfter_10 (lv_at hl 4 rfl) ?_
  refine pr_i (va_runVN (As := [.int p4]) (rest := [.int (f_X1_hasRow zo p4)]) ⟨hx, hb, hml, hown, hts⟩ (k_X1_hasRow l D cyI cyZ (ad 1) (ad 2) (ad 3) zb p4) ⟨va_cnB 1 hts gX2_rowStaysAfter_X1_hasRow_n91 rfl rfl rfl (hG.2.1 (RX2, 91, yX1_hasRow, "TableSplice") (List.mem_of_getElem? (i := 13) rfl)) (hts (.initialized RX1) (List.mem_of_getElem? (i := 3) rfl)) (by decide +kernel) ⟨Nat.le_of_ble_eq_true rfl, Nat.le_of_ble_eq_true rfl⟩, hts (.instanceMethod yX1_hasRow) (List.mem_of_getElem? (i := 2) rfl), hts (.selects RX1 yX1_hasRow yX1_hasRow) (List.mem_of_getElem? (i := 4) rfl)⟩ (prV hG (hP.sub (ws' := wT cyI (ad 1) (ad 2) (ad 3) zb) [1, 2, 3] rfl) (ci := 1) rfl rfl rfl) rfl rfl hl.1 rfl (lv_room (Nat.le_of_ble_eq_true rfl)) dX2_rowStaysAfter_12 ⟨Nat.zero_le _, Nat.zero_le _⟩) hS hP (fun H locs hP hS => ?_)
  refine lv_icmp_ne (tgt := 20) hx hb dX2_rowStaysAfter_15 (by decide) (fun c_15 => ?_) (fun c_15 => ?_)
  · refine lv_aload_n hx hb dX2_rowStaysAfter_20 rfl (lv_at hl 2 rfl) ?_
    refine lv_iload hx hb dX2_rowStaysAfter_21 (lv_at hl 4 rfl) ?_
    refine pr_i (va_runVN (As := [.int p4]) (rest := []) ⟨hx, hb, hml, hown, hts⟩ (k_X1_hasRow l D cyI cyZ (ad 4) (ad 5) (ad 6) zo p4) ⟨va_cnB 1 hts gX2_rowStaysAfter_X1_hasRow_n91 rfl rfl rfl (hG.2.1 (RX2, 91, yX1_hasRow, "TableSplice") (List.mem_of_getElem? (i := 13) rfl)) (hts (.initialized RX1) (List.mem_of_getElem? (i := 3) rfl)) (by decide +kernel) ⟨Nat.le_of_ble_eq_true rfl, Nat.le_of_ble_eq_true rfl⟩, hts (.instanceMethod yX1_hasRow) (List.mem_of_getElem? (i := 2) rfl), hts (.selects RX1 yX1_hasRow yX1_hasRow) (List.mem_of_getElem? (i := 4) rfl)⟩ (prV hG (hP.sub (ws' := wT cyI (ad 4) (ad 5) (ad 6) zo) [4, 5, 6] rfl) (ci := 1) rfl rfl rfl) rfl rfl hl.1 rfl (lv_room (Nat.le_of_ble_eq_true rfl)) dX2_rowStaysAfter_23 ⟨Nat.zero_le _, Nat.zero_le _⟩) hS hP (fun H locs hP hS => ?_)
    refine lv_if_ne (tgt := 46) hx hb dX2_rowStaysAfter_26 (by decide) (fun c_26 => ?_) (fun c_26 => ?_)
    · refine lv_iconst (v := 1) hx hb dX2_rowStaysAfter_46 (by decide) ?_
      refine lv_goto (tgt := 51) hx hb dX2_rowStaysAfter_47 (by decide) ?_
      have ef : f_X2_rowStaysAfter_ot zb zo zt p1 p4 = 1 := by rw [f_X2_rowStaysAfter_ot, if_neg c_15, if_neg c_26]
      exact W.zret (v := 1) (ty := .boolean) hx hb hr rfl (fun t ht hW => ⟨⟨1, (), rfl, ef.symm, trivial⟩, hS.F ht⟩) hS.2.2 dX2_rowStaysAfter_51
    · refine lv_iload_n hx hb dX2_rowStaysAfter_29 rfl (lv_at hl 1 rfl) ?_
      refine lv_if_eq (tgt := 50) hx hb dX2_rowStaysAfter_30 (by decide) (fun c_30 => ?_) (fun c_30 => ?_)
      · refine lv_iconst (v := 0) hx hb dX2_rowStaysAfter_50 (by decide) ?_
        have ef : f_X2_rowStaysAfter_ot zb zo zt p1 p4 = 0 := by rw [f_X2_rowStaysAfter_ot, if_neg c_15, if_pos c_26, if_pos c_30]
        exact W.zret (v := 0) (ty := .boolean) hx hb hr rfl (fun t ht hW => ⟨⟨0, (), rfl, ef.symm, trivial⟩, hS.F ht⟩) hS.2.2 dX2_rowStaysAfter_51
      · refine lv_aload_n hx hb dX2_rowStaysAfter_33 rfl (lv_at hl 3 rfl) ?_
        refine lv_aload_n hx hb dX2_rowStaysAfter_34 rfl (lv_at hl 0 rfl) ?_
        refine va_get (D := D) (ci := 2) (v := .ref (ad 1)) (C := RX2) (T := TX2) (N := 8) hx hb hts uin_X2_rowStaysAfter_X2 hown hG.1 hP 0 rfl rfl 0 (by decide) (hts (.fieldLink RX2 10 "TableSplice" "base" "LTableSplice$Table;") (List.mem_of_getElem? (i := 1) rfl)) (fun _ h9 => h9) rfl dX2_rowStaysAfter_35 ?_
        refine lv_iload hx hb dX2_rowStaysAfter_38 (lv_at hl 4 rfl) ?_
        refine pr_i (va_runVN (As := [.ref (ad 1), .int p4]) (rest := []) ⟨hx, hb, hml, hown, hts⟩ (k_X1_countCellsChanged l D cyI cyZ (ad 7) (ad 8) (ad 9) (ad 1) (ad 2) (ad 3) zt zb p4) ⟨va_cnB 2 hts gX2_rowStaysAfter_X1_countCellsChanged_n275 rfl rfl rfl (hG.2.1 (RX2, 275, yX1_countCellsChanged, "TableSplice") (List.mem_of_getElem? (i := 14) rfl)) (hts (.initialized RX1) (List.mem_of_getElem? (i := 3) rfl)) (by decide +kernel) ⟨Nat.le_of_ble_eq_true rfl, Nat.le_of_ble_eq_true rfl⟩, hts (.instanceMethod yX1_countCellsChanged) (List.mem_of_getElem? (i := 7) rfl), hts (.selects RX1 yX1_countCellsChanged yX1_countCellsChanged) (List.mem_of_getElem? (i := 8) rfl)⟩ (prV hG (hP.sub (ws' := wU cyI (ad 7) (ad 8) (ad 9) zt (ad 1) (ad 2) (ad 3) zb) [7, 8, 9, 1, 2, 3] rfl) (ci := 1) rfl rfl rfl) rfl rfl hl.1 rfl (lv_room (Nat.le_of_ble_eq_true rfl)) dX2_rowStaysAfter_40 ⟨Nat.zero_le _, Nat.zero_le _⟩) hS hP (fun H locs hP hS => ?_)
        refine lv_if_le (tgt := 50) hx hb dX2_rowStaysAfter_43 (by decide) (fun c_43 => ?_) (fun c_43 => ?_)
        · refine lv_iconst (v := 0) hx hb dX2_rowStaysAfter_50 (by decide) ?_
          have ef : f_X2_rowStaysAfter_ot zb zo zt p1 p4 = 0 := by rw [f_X2_rowStaysAfter_ot, if_neg c_15, if_pos c_26, if_neg c_30, if_pos c_43]
          exact W.zret (v := 0) (ty := .boolean) hx hb hr rfl (fun t ht hW => ⟨⟨0, (), rfl, ef.symm, trivial⟩, hS.F ht⟩) hS.2.2 dX2_rowStaysAfter_51
        · refine lv_iconst (v := 1) hx hb dX2_rowStaysAfter_46 (by decide) ?_
          refine lv_goto (tgt := 51) hx hb dX2_rowStaysAfter_47 (by decide) ?_
          have ef : f_X2_rowStaysAfter_ot zb zo zt p1 p4 = 1 := by rw [f_X2_rowStaysAfter_ot, if_neg c_15, if_pos c_26, if_neg c_30, if_neg c_43]
          exact W.zret (v := 1) (ty := .boolean) hx hb hr rfl (fun t ht hW => ⟨⟨1, (), rfl, ef.symm, trivial⟩, hS.F ht⟩) hS.2.2 dX2_rowStaysAfter_51
  · refine lv_iload_n hx hb dX2_rowStaysAfter_18 rfl (lv_at hl 1 rfl) ?_
    have ef : f_X2_rowStaysAfter_ot zb zo zt p1 p4 = p1 := by rw [f_X2_rowStaysAfter_ot, if_pos c_15]
    exact W.zret (v := p1) (ty := .boolean) hx hb hr (nz_b hb9) (fun t ht hW => ⟨⟨p1, (), rfl, ef.symm, trivial⟩, hS.F ht⟩) hS.2.2 dX2_rowStaysAfter_19
theorem b_X2_rowStaysAfter_ot {zb : Tr} {zo : Tr} {zt : Tr} {p1 : Int32} {p4 : Int32} (hb9 : p1 = 0 ∨ p1 = 1) : f_X2_rowStaysAfter_ot zb zo zt p1 p4 = 0 ∨ f_X2_rowStaysAfter_ot zb zo zt p1 p4 = 1 := by
  rw [f_X2_rowStaysAfter_ot]
  exact (b01_i hb9 (b01_i (b01_i b01_0 (b01_i b01_0 b01_1)) b01_1))
def f_X2_columnStaysAfter_ot (zb : Tr) (zo : Tr) (zt : Tr) (p1 : Int32) (p4 : Int32) : Int32 := if (f_X1_hasColumn zo p4) = (f_X1_hasColumn zb p4) then p1 else (if (f_X1_hasColumn zo p4) = 0 then (if p1 = 0 then 0 else (if (f_X1_changedColumnOf zt zb p4) = 0 then 0 else 1)) else 1)
theorem uin_X2_columnStaysAfter_X2 : ∀ w ∈ wsX20, w ∈ wsX2_columnStaysAfter := fun _ h => List.mem_cons_of_mem _ (List.mem_append_left _ (List.mem_append_right _ h))
theorem uin_X2_columnStaysAfter_X1 : ∀ w ∈ wsX10, w ∈ wsX2_columnStaysAfter := fun _ h => List.mem_cons_of_mem _ (List.mem_append_right _ h)
set_option maxHeartbeats 4000000 in
set_option maxRecDepth 100000 in
theorem k_X2_columnStaysAfter_ot (l : Launch) (D : va_G) (cyI cyZ : ClassId) (ad : Nat → Nat) (zb : Tr) (zo : Tr) (zt : Tr) (zm : Tr) (zu : Nat → Int32) (zr : Nat → Int32) (zl : Lr) (zf : Int32) (p1 : Int32) (p4 : Int32) (hb9 : p1 = 0 ∨ p1 = 1) : Met l yX2_columnStaysAfter wsX2_columnStaysAfter ({ frames := 4, cells := 0, slots := 0, locals := 90 } : Room) (pcP D cyI cyZ [.ref (ad 0), .int p1, .ref (ad 4), .ref (ad 7), .int p4] (wZ cyI cyZ ad zb zo zt zm zu zr zl zf)) (qI (f_X2_columnStaysAfter_ot zb zo zt p1 p4)) 0 0 nA := by
  refine Met.ofW (cc := cX2_columnStaysAfter) (maxL := 5) (ret := (some .boolean)) (by decide) rfl ?_
  intro p e s m args below meth c s₁ B hml hv
  obtain ⟨rfl, hP, hG⟩ := hv
  have hx := B.exec
  have hb := B.bytes
  have hr := B.returns
  have hts := atoms_spec (ws := wsX2_columnStaysAfter) B.pre
  have hown : s.vm.findClass RX2 = some m.cls := findClass_of_methodNamed B.named
  have hlocks := B.notSynchronized
  have hS : va_S nA s.heap s.heap [] := va_S.rf
  have hl := lv_entry ([.ref (ad 0), .int p1, .ref (ad 4), .ref (ad 7), .int p4]) (n := 5) (Nat.le_of_ble_eq_true rfl)
  rw [lg_entry_eq]
  generalize (lg_sl ([.ref (ad 0), .int p1, .ref (ad 4), .ref (ad 7), .int p4]) ++ List.replicate (5 - (lg_sl ([.ref (ad 0), .int p1, .ref (ad 4), .ref (ad 7), .int p4])).length) Slot.unset).toArray = ls at hl ⊢
  have hl : lv_has ls 5 [(0, .ref (ad 0)), (1, .int p1), (2, .ref (ad 4)), (3, .ref (ad 7)), (4, .int p4)] := hl
  have hP : va_P D vwCl (wZ cyI cyZ ad zb zo zt zm zu zr zl zf) s.heap := hP
  refine lv_aload_n hx hb dX2_columnStaysAfter_0 rfl (lv_at hl 2 rfl) ?_
  refine lv_iload hx hb dX2_columnStaysAfter_1 (lv_at hl 4 rfl) ?_
  refine pr_i (va_runVN (As := [.int p4]) (rest := []) ⟨hx, hb, hml, hown, hts⟩ (k_X1_hasColumn l D cyI cyZ (ad 4) (ad 5) (ad 6) zo p4) ⟨va_cnB 1 hts gX2_columnStaysAfter_X1_hasColumn_n55 rfl rfl rfl (hG.2.1 (RX2, 55, yX1_hasColumn, "TableSplice") (List.mem_of_getElem? (i := 6) rfl)) (hts (.initialized RX1) (List.mem_of_getElem? (i := 3) rfl)) (by decide +kernel) ⟨Nat.le_of_ble_eq_true rfl, Nat.le_of_ble_eq_true rfl⟩, hts (.instanceMethod yX1_hasColumn) (List.mem_of_getElem? (i := 2) rfl), hts (.selects RX1 yX1_hasColumn yX1_hasColumn) (List.mem_of_getElem? (i := 4) rfl)⟩ (prV hG (hP.sub (ws' := wT cyI (ad 4) (ad 5) (ad 6) zo) [4, 5, 6] rfl) (ci := 1) rfl rfl rfl) rfl rfl hl.1 rfl (lv_room (Nat.le_of_ble_eq_true rfl)) dX2_columnStaysAfter_3 ⟨Nat.zero_le _, Nat.zero_le _⟩) hS hP (fun H locs hP hS => ?_)
  refine lv_aload_n hx hb dX2_columnStaysAfter_6 rfl (lv_at hl 0 rfl) ?_
  refine va_get (D := D) (ci := 2) (v := .ref (ad 1)) (C := RX2) (T := TX2) (N := 8) hx hb hts uin_X2_columnStaysAfter_X2 hown hG.1 hP 0 rfl rfl 0 (by decide) (hts (.fieldLink RX2 10 "TableSplice" "base" "LTableSplice$Table;") (List.mem_of_getElem? (i := 1) rfl)) (fun _ h9 => h9) rfl dX2_columnStaysAfter_7 ?_
  refine lv_iload hx hb dX2_columnStaysAfter_10 (lv_at hl 4 rfl) ?_
  refine pr_i (va_runVN (As := [.int p4]) (rest := [.int (f_X1_hasColumn zo p4)]) ⟨hx, hb, hml, hown, hts⟩ (k_X1_hasColumn l D cyI cyZ (ad 1) (ad 2) (ad 3) zb p4) ⟨va_cnB 1 hts gX2_columnStaysAfter_X1_hasColumn_n55 rfl rfl rfl (hG.2.1 (RX2, 55, yX1_hasColumn, "TableSplice") (List.mem_of_getElem? (i := 6) rfl)) (hts (.initialized RX1) (List.mem_of_getElem? (i := 3) rfl)) (by decide +kernel) ⟨Nat.le_of_ble_eq_true rfl, Nat.le_of_ble_eq_true rfl⟩, hts (.instanceMethod yX1_hasColumn) (List.mem_of_getElem? (i := 2) rfl), hts (.selects RX1 yX1_hasColumn yX1_hasColumn) (List.mem_of_getElem? (i := 4) rfl)⟩ (prV hG (hP.sub (ws' := wT cyI (ad 1) (ad 2) (ad 3) zb) [1, 2, 3] rfl) (ci := 1) rfl rfl rfl) rfl rfl hl.1 rfl (lv_room (Nat.le_of_ble_eq_true rfl)) dX2_columnStaysAfter_12 ⟨Nat.zero_le _, Nat.zero_le _⟩) hS hP (fun H locs hP hS => ?_)
  refine lv_icmp_ne (tgt := 20) hx hb dX2_columnStaysAfter_15 (by decide) (fun c_15 => ?_) (fun c_15 => ?_)
  · refine lv_aload_n hx hb dX2_columnStaysAfter_20 rfl (lv_at hl 2 rfl) ?_
    refine lv_iload hx hb dX2_columnStaysAfter_21 (lv_at hl 4 rfl) ?_
    refine pr_i (va_runVN (As := [.int p4]) (rest := []) ⟨hx, hb, hml, hown, hts⟩ (k_X1_hasColumn l D cyI cyZ (ad 4) (ad 5) (ad 6) zo p4) ⟨va_cnB 1 hts gX2_columnStaysAfter_X1_hasColumn_n55 rfl rfl rfl (hG.2.1 (RX2, 55, yX1_hasColumn, "TableSplice") (List.mem_of_getElem? (i := 6) rfl)) (hts (.initialized RX1) (List.mem_of_getElem? (i := 3) rfl)) (by decide +kernel) ⟨Nat.le_of_ble_eq_true rfl, Nat.le_of_ble_eq_true rfl⟩, hts (.instanceMethod yX1_hasColumn) (List.mem_of_getElem? (i := 2) rfl), hts (.selects RX1 yX1_hasColumn yX1_hasColumn) (List.mem_of_getElem? (i := 4) rfl)⟩ (prV hG (hP.sub (ws' := wT cyI (ad 4) (ad 5) (ad 6) zo) [4, 5, 6] rfl) (ci := 1) rfl rfl rfl) rfl rfl hl.1 rfl (lv_room (Nat.le_of_ble_eq_true rfl)) dX2_columnStaysAfter_23 ⟨Nat.zero_le _, Nat.zero_le _⟩) hS hP (fun H locs hP hS => ?_)
    refine lv_if_ne (tgt := 46) hx hb dX2_columnStaysAfter_26 (by decide) (fun c_26 => ?_) (fun c_26 => ?_)
    · refine lv_iconst (v := 1) hx hb dX2_columnStaysAfter_46 (by decide) ?_
      refine lv_goto (tgt := 51) hx hb dX2_columnStaysAfter_47 (by decide) ?_
      have ef : f_X2_columnStaysAfter_ot zb zo zt p1 p4 = 1 := by rw [f_X2_columnStaysAfter_ot, if_neg c_15, if_neg c_26]
      exact W.zret (v := 1) (ty := .boolean) hx hb hr rfl (fun t ht hW => ⟨⟨1, (), rfl, ef.symm, trivial⟩, hS.F ht⟩) hS.2.2 dX2_columnStaysAfter_51
    · refine lv_iload_n hx hb dX2_columnStaysAfter_29 rfl (lv_at hl 1 rfl) ?_
      refine lv_if_eq (tgt := 50) hx hb dX2_columnStaysAfter_30 (by decide) (fun c_30 => ?_) (fun c_30 => ?_)
      · refine lv_iconst (v := 0) hx hb dX2_columnStaysAfter_50 (by decide) ?_
        have ef : f_X2_columnStaysAfter_ot zb zo zt p1 p4 = 0 := by rw [f_X2_columnStaysAfter_ot, if_neg c_15, if_pos c_26, if_pos c_30]
        exact W.zret (v := 0) (ty := .boolean) hx hb hr rfl (fun t ht hW => ⟨⟨0, (), rfl, ef.symm, trivial⟩, hS.F ht⟩) hS.2.2 dX2_columnStaysAfter_51
      · refine lv_aload_n hx hb dX2_columnStaysAfter_33 rfl (lv_at hl 3 rfl) ?_
        refine lv_aload_n hx hb dX2_columnStaysAfter_34 rfl (lv_at hl 0 rfl) ?_
        refine va_get (D := D) (ci := 2) (v := .ref (ad 1)) (C := RX2) (T := TX2) (N := 8) hx hb hts uin_X2_columnStaysAfter_X2 hown hG.1 hP 0 rfl rfl 0 (by decide) (hts (.fieldLink RX2 10 "TableSplice" "base" "LTableSplice$Table;") (List.mem_of_getElem? (i := 1) rfl)) (fun _ h9 => h9) rfl dX2_columnStaysAfter_35 ?_
        refine lv_iload hx hb dX2_columnStaysAfter_38 (lv_at hl 4 rfl) ?_
        refine pr_i (va_runVN (As := [.ref (ad 1), .int p4]) (rest := []) ⟨hx, hb, hml, hown, hts⟩ (k_X1_changedColumnOf l D cyI cyZ (ad 7) (ad 8) (ad 9) (ad 1) (ad 2) (ad 3) zt zb p4) ⟨va_cnB 2 hts gX2_columnStaysAfter_X1_changedColumnOf_n262 rfl rfl rfl (hG.2.1 (RX2, 262, yX1_changedColumnOf, "TableSplice") (List.mem_of_getElem? (i := 7) rfl)) (hts (.initialized RX1) (List.mem_of_getElem? (i := 3) rfl)) (by decide +kernel) ⟨Nat.le_of_ble_eq_true rfl, Nat.le_of_ble_eq_true rfl⟩, hts (.instanceMethod yX1_changedColumnOf) (List.mem_of_getElem? (i := 7) rfl), hts (.selects RX1 yX1_changedColumnOf yX1_changedColumnOf) (List.mem_of_getElem? (i := 8) rfl)⟩ (prV hG (hP.sub (ws' := wU cyI (ad 7) (ad 8) (ad 9) zt (ad 1) (ad 2) (ad 3) zb) [7, 8, 9, 1, 2, 3] rfl) (ci := 1) rfl rfl rfl) rfl rfl hl.1 rfl (lv_room (Nat.le_of_ble_eq_true rfl)) dX2_columnStaysAfter_40 ⟨Nat.zero_le _, Nat.zero_le _⟩) hS hP (fun H locs hP hS => ?_)
        refine lv_if_eq (tgt := 50) hx hb dX2_columnStaysAfter_43 (by decide) (fun c_43 => ?_) (fun c_43 => ?_)
        · refine lv_iconst (v := 0) hx hb dX2_columnStaysAfter_50 (by decide) ?_
          have ef : f_X2_columnStaysAfter_ot zb zo zt p1 p4 = 0 := by rw [f_X2_columnStaysAfter_ot, if_neg c_15, if_pos c_26, if_neg c_30, if_pos c_43]
          exact W.zret (v := 0) (ty := .boolean) hx hb hr rfl (fun t ht hW => ⟨⟨0, (), rfl, ef.symm, trivial⟩, hS.F ht⟩) hS.2.2 dX2_columnStaysAfter_51
        · refine lv_iconst (v := 1) hx hb dX2_columnStaysAfter_46 (by decide) ?_
          refine lv_goto (tgt := 51) hx hb dX2_columnStaysAfter_47 (by decide) ?_
          have ef : f_X2_columnStaysAfter_ot zb zo zt p1 p4 = 1 := by rw [f_X2_columnStaysAfter_ot, if_neg c_15, if_pos c_26, if_neg c_30, if_neg c_43]
          exact W.zret (v := 1) (ty := .boolean) hx hb hr rfl (fun t ht hW => ⟨⟨1, (), rfl, ef.symm, trivial⟩, hS.F ht⟩) hS.2.2 dX2_columnStaysAfter_51
  · refine lv_iload_n hx hb dX2_columnStaysAfter_18 rfl (lv_at hl 1 rfl) ?_
    have ef : f_X2_columnStaysAfter_ot zb zo zt p1 p4 = p1 := by rw [f_X2_columnStaysAfter_ot, if_pos c_15]
    exact W.zret (v := p1) (ty := .boolean) hx hb hr (nz_b hb9) (fun t ht hW => ⟨⟨p1, (), rfl, ef.symm, trivial⟩, hS.F ht⟩) hS.2.2 dX2_columnStaysAfter_19
theorem b_X2_columnStaysAfter_ot {zb : Tr} {zo : Tr} {zt : Tr} {p1 : Int32} {p4 : Int32} (hb9 : p1 = 0 ∨ p1 = 1) : f_X2_columnStaysAfter_ot zb zo zt p1 p4 = 0 ∨ f_X2_columnStaysAfter_ot zb zo zt p1 p4 = 1 := by
  rw [f_X2_columnStaysAfter_ot]
  exact (b01_i hb9 (b01_i (b01_i b01_0 (b01_i b01_0 b01_1)) b01_1))
def f_X2_rowStaysAfter_to (zb : Tr) (zo : Tr) (zt : Tr) (p1 : Int32) (p4 : Int32) : Int32 := if (f_X1_hasRow zt p4) = (f_X1_hasRow zb p4) then p1 else (if (f_X1_hasRow zt p4) = 0 then (if p1 = 0 then 0 else (if (f_X1_countCellsChanged zo zb p4) ≤ 0 then 0 else 1)) else 1)
set_option maxHeartbeats 4000000 in
set_option maxRecDepth 100000 in
theorem k_X2_rowStaysAfter_to (l : Launch) (D : va_G) (cyI cyZ : ClassId) (ad : Nat → Nat) (zb : Tr) (zo : Tr) (zt : Tr) (zm : Tr) (zu : Nat → Int32) (zr : Nat → Int32) (zl : Lr) (zf : Int32) (p1 : Int32) (p4 : Int32) (hb9 : p1 = 0 ∨ p1 = 1) : Met l yX2_rowStaysAfter wsX2_rowStaysAfter ({ frames := 4, cells := 0, slots := 0, locals := 91 } : Room) (pcP D cyI cyZ [.ref (ad 0), .int p1, .ref (ad 7), .ref (ad 4), .int p4] (wZ cyI cyZ ad zb zo zt zm zu zr zl zf)) (qI (f_X2_rowStaysAfter_to zb zo zt p1 p4)) 0 0 nA := by
  refine Met.ofW (cc := cX2_rowStaysAfter) (maxL := 5) (ret := (some .boolean)) (by decide) rfl ?_
  intro p e s m args below meth c s₁ B hml hv
  obtain ⟨rfl, hP, hG⟩ := hv
  have hx := B.exec
  have hb := B.bytes
  have hr := B.returns
  have hts := atoms_spec (ws := wsX2_rowStaysAfter) B.pre
  have hown : s.vm.findClass RX2 = some m.cls := findClass_of_methodNamed B.named
  have hlocks := B.notSynchronized
  have hS : va_S nA s.heap s.heap [] := va_S.rf
  have hl := lv_entry ([.ref (ad 0), .int p1, .ref (ad 7), .ref (ad 4), .int p4]) (n := 5) (Nat.le_of_ble_eq_true rfl)
  rw [lg_entry_eq]
  generalize (lg_sl ([.ref (ad 0), .int p1, .ref (ad 7), .ref (ad 4), .int p4]) ++ List.replicate (5 - (lg_sl ([.ref (ad 0), .int p1, .ref (ad 7), .ref (ad 4), .int p4])).length) Slot.unset).toArray = ls at hl ⊢
  have hl : lv_has ls 5 [(0, .ref (ad 0)), (1, .int p1), (2, .ref (ad 7)), (3, .ref (ad 4)), (4, .int p4)] := hl
  have hP : va_P D vwCl (wZ cyI cyZ ad zb zo zt zm zu zr zl zf) s.heap := hP
  refine lv_aload_n hx hb dX2_rowStaysAfter_0 rfl (lv_at hl 2 rfl) ?_
  refine lv_iload hx hb dX2_rowStaysAfter_1 (lv_at hl 4 rfl) ?_
  refine pr_i (va_runVN (As := [.int p4]) (rest := []) ⟨hx, hb, hml, hown, hts⟩ (k_X1_hasRow l D cyI cyZ (ad 7) (ad 8) (ad 9) zt p4) ⟨va_cnB 1 hts gX2_rowStaysAfter_X1_hasRow_n91 rfl rfl rfl (hG.2.1 (RX2, 91, yX1_hasRow, "TableSplice") (List.mem_of_getElem? (i := 13) rfl)) (hts (.initialized RX1) (List.mem_of_getElem? (i := 3) rfl)) (by decide +kernel) ⟨Nat.le_of_ble_eq_true rfl, Nat.le_of_ble_eq_true rfl⟩, hts (.instanceMethod yX1_hasRow) (List.mem_of_getElem? (i := 2) rfl), hts (.selects RX1 yX1_hasRow yX1_hasRow) (List.mem_of_getElem? (i := 4) rfl)⟩ (prV hG (hP.sub (ws' := wT cyI (ad 7) (ad 8) (ad 9) zt) [7, 8, 9] rfl) (ci := 1) rfl rfl rfl) rfl rfl hl.1 rfl (lv_room (Nat.le_of_ble_eq_true rfl)) dX2_rowStaysAfter_3 ⟨Nat.zero_le _, Nat.zero_le _⟩) hS hP (fun H locs hP hS => ?_)
  refine lv_aload_n hx hb dX2_rowStaysAfter_6 rfl (lv_at hl 0 rfl) ?_
  refine va_get (D := D) (ci := 2) (v := .ref (ad 1)) (C := RX2) (T := TX2) (N := 8) hx hb hts uin_X2_rowStaysAfter_X2 hown hG.1 hP 0 rfl rfl 0 (by decide) (hts (.fieldLink RX2 10 "TableSplice" "base" "LTableSplice$Table;") (List.mem_of_getElem? (i := 1) rfl)) (fun _ h9 => h9) rfl dX2_rowStaysAfter_7 ?_
  refine lv_iload hx hb dX2_rowStaysAfter_10 (lv_at hl 4 rfl) ?_
  refine pr_i (va_runVN (As := [.int p4]) (rest := [.int (f_X1_hasRow zt p4)]) ⟨hx, hb, hml, hown, hts⟩ (k_X1_hasRow l D cyI cyZ (ad 1) (ad 2) (ad 3) zb p4) ⟨va_cnB 1 hts gX2_rowStaysAfter_X1_hasRow_n91 rfl rfl rfl (hG.2.1 (RX2, 91, yX1_hasRow, "TableSplice") (List.mem_of_getElem? (i := 13) rfl)) (hts (.initialized RX1) (List.mem_of_getElem? (i := 3) rfl)) (by decide +kernel) ⟨Nat.le_of_ble_eq_true rfl, Nat.le_of_ble_eq_true rfl⟩, hts (.instanceMethod yX1_hasRow) (List.mem_of_getElem? (i := 2) rfl), hts (.selects RX1 yX1_hasRow yX1_hasRow) (List.mem_of_getElem? (i := 4) rfl)⟩ (prV hG (hP.sub (ws' := wT cyI (ad 1) (ad 2) (ad 3) zb) [1, 2, 3] rfl) (ci := 1) rfl rfl rfl) rfl rfl hl.1 rfl (lv_room (Nat.le_of_ble_eq_true rfl)) dX2_rowStaysAfter_12 ⟨Nat.zero_le _, Nat.zero_le _⟩) hS hP (fun H locs hP hS => ?_)
  refine lv_icmp_ne (tgt := 20) hx hb dX2_rowStaysAfter_15 (by decide) (fun c_15 => ?_) (fun c_15 => ?_)
  · refine lv_aload_n hx hb dX2_rowStaysAfter_20 rfl (lv_at hl 2 rfl) ?_
    refine lv_iload hx hb dX2_rowStaysAfter_21 (lv_at hl 4 rfl) ?_
    refine pr_i (va_runVN (As := [.int p4]) (rest := []) ⟨hx, hb, hml, hown, hts⟩ (k_X1_hasRow l D cyI cyZ (ad 7) (ad 8) (ad 9) zt p4) ⟨va_cnB 1 hts gX2_rowStaysAfter_X1_hasRow_n91 rfl rfl rfl (hG.2.1 (RX2, 91, yX1_hasRow, "TableSplice") (List.mem_of_getElem? (i := 13) rfl)) (hts (.initialized RX1) (List.mem_of_getElem? (i := 3) rfl)) (by decide +kernel) ⟨Nat.le_of_ble_eq_true rfl, Nat.le_of_ble_eq_true rfl⟩, hts (.instanceMethod yX1_hasRow) (List.mem_of_getElem? (i := 2) rfl), hts (.selects RX1 yX1_hasRow yX1_hasRow) (List.mem_of_getElem? (i := 4) rfl)⟩ (prV hG (hP.sub (ws' := wT cyI (ad 7) (ad 8) (ad 9) zt) [7, 8, 9] rfl) (ci := 1) rfl rfl rfl) rfl rfl hl.1 rfl (lv_room (Nat.le_of_ble_eq_true rfl)) dX2_rowStaysAfter_23 ⟨Nat.zero_le _, Nat.zero_le _⟩) hS hP (fun H locs hP hS => ?_)
    refine lv_if_ne (tgt := 46) hx hb dX2_rowStaysAfter_26 (by decide) (fun c_26 => ?_) (fun c_26 => ?_)
    · refine lv_iconst (v := 1) hx hb dX2_rowStaysAfter_46 (by decide) ?_
      refine lv_goto (tgt := 51) hx hb dX2_rowStaysAfter_47 (by decide) ?_
      have ef : f_X2_rowStaysAfter_to zb zo zt p1 p4 = 1 := by rw [f_X2_rowStaysAfter_to, if_neg c_15, if_neg c_26]
      exact W.zret (v := 1) (ty := .boolean) hx hb hr rfl (fun t ht hW => ⟨⟨1, (), rfl, ef.symm, trivial⟩, hS.F ht⟩) hS.2.2 dX2_rowStaysAfter_51
    · refine lv_iload_n hx hb dX2_rowStaysAfter_29 rfl (lv_at hl 1 rfl) ?_
      refine lv_if_eq (tgt := 50) hx hb dX2_rowStaysAfter_30 (by decide) (fun c_30 => ?_) (fun c_30 => ?_)
      · refine lv_iconst (v := 0) hx hb dX2_rowStaysAfter_50 (by decide) ?_
        have ef : f_X2_rowStaysAfter_to zb zo zt p1 p4 = 0 := by rw [f_X2_rowStaysAfter_to, if_neg c_15, if_pos c_26, if_pos c_30]
        exact W.zret (v := 0) (ty := .boolean) hx hb hr rfl (fun t ht hW => ⟨⟨0, (), rfl, ef.symm, trivial⟩, hS.F ht⟩) hS.2.2 dX2_rowStaysAfter_51
      · refine lv_aload_n hx hb dX2_rowStaysAfter_33 rfl (lv_at hl 3 rfl) ?_
        refine lv_aload_n hx hb dX2_rowStaysAfter_34 rfl (lv_at hl 0 rfl) ?_
        refine va_get (D := D) (ci := 2) (v := .ref (ad 1)) (C := RX2) (T := TX2) (N := 8) hx hb hts uin_X2_rowStaysAfter_X2 hown hG.1 hP 0 rfl rfl 0 (by decide) (hts (.fieldLink RX2 10 "TableSplice" "base" "LTableSplice$Table;") (List.mem_of_getElem? (i := 1) rfl)) (fun _ h9 => h9) rfl dX2_rowStaysAfter_35 ?_
        refine lv_iload hx hb dX2_rowStaysAfter_38 (lv_at hl 4 rfl) ?_
        refine pr_i (va_runVN (As := [.ref (ad 1), .int p4]) (rest := []) ⟨hx, hb, hml, hown, hts⟩ (k_X1_countCellsChanged l D cyI cyZ (ad 4) (ad 5) (ad 6) (ad 1) (ad 2) (ad 3) zo zb p4) ⟨va_cnB 2 hts gX2_rowStaysAfter_X1_countCellsChanged_n275 rfl rfl rfl (hG.2.1 (RX2, 275, yX1_countCellsChanged, "TableSplice") (List.mem_of_getElem? (i := 14) rfl)) (hts (.initialized RX1) (List.mem_of_getElem? (i := 3) rfl)) (by decide +kernel) ⟨Nat.le_of_ble_eq_true rfl, Nat.le_of_ble_eq_true rfl⟩, hts (.instanceMethod yX1_countCellsChanged) (List.mem_of_getElem? (i := 7) rfl), hts (.selects RX1 yX1_countCellsChanged yX1_countCellsChanged) (List.mem_of_getElem? (i := 8) rfl)⟩ (prV hG (hP.sub (ws' := wU cyI (ad 4) (ad 5) (ad 6) zo (ad 1) (ad 2) (ad 3) zb) [4, 5, 6, 1, 2, 3] rfl) (ci := 1) rfl rfl rfl) rfl rfl hl.1 rfl (lv_room (Nat.le_of_ble_eq_true rfl)) dX2_rowStaysAfter_40 ⟨Nat.zero_le _, Nat.zero_le _⟩) hS hP (fun H locs hP hS => ?_)
        refine lv_if_le (tgt := 50) hx hb dX2_rowStaysAfter_43 (by decide) (fun c_43 => ?_) (fun c_43 => ?_)
        · refine lv_iconst (v := 0) hx hb dX2_rowStaysAfter_50 (by decide) ?_
          have ef : f_X2_rowStaysAfter_to zb zo zt p1 p4 = 0 := by rw [f_X2_rowStaysAfter_to, if_neg c_15, if_pos c_26, if_neg c_30, if_pos c_43]
          exact W.zret (v := 0) (ty := .boolean) hx hb hr rfl (fun t ht hW => ⟨⟨0, (), rfl, ef.symm, trivial⟩, hS.F ht⟩) hS.2.2 dX2_rowStaysAfter_51
        · refine lv_iconst (v := 1) hx hb dX2_rowStaysAfter_46 (by decide) ?_
          refine lv_goto (tgt := 51) hx hb dX2_rowStaysAfter_47 (by decide) ?_
          have ef : f_X2_rowStaysAfter_to zb zo zt p1 p4 = 1 := by rw [f_X2_rowStaysAfter_to, if_neg c_15, if_pos c_26, if_neg c_30, if_neg c_43]
          exact W.zret (v := 1) (ty := .boolean) hx hb hr rfl (fun t ht hW => ⟨⟨1, (), rfl, ef.symm, trivial⟩, hS.F ht⟩) hS.2.2 dX2_rowStaysAfter_51
  · refine lv_iload_n hx hb dX2_rowStaysAfter_18 rfl (lv_at hl 1 rfl) ?_
    have ef : f_X2_rowStaysAfter_to zb zo zt p1 p4 = p1 := by rw [f_X2_rowStaysAfter_to, if_pos c_15]
    exact W.zret (v := p1) (ty := .boolean) hx hb hr (nz_b hb9) (fun t ht hW => ⟨⟨p1, (), rfl, ef.symm, trivial⟩, hS.F ht⟩) hS.2.2 dX2_rowStaysAfter_19
theorem b_X2_rowStaysAfter_to {zb : Tr} {zo : Tr} {zt : Tr} {p1 : Int32} {p4 : Int32} (hb9 : p1 = 0 ∨ p1 = 1) : f_X2_rowStaysAfter_to zb zo zt p1 p4 = 0 ∨ f_X2_rowStaysAfter_to zb zo zt p1 p4 = 1 := by
  rw [f_X2_rowStaysAfter_to]
  exact (b01_i hb9 (b01_i (b01_i b01_0 (b01_i b01_0 b01_1)) b01_1))
def f_X2_columnStaysAfter_to (zb : Tr) (zo : Tr) (zt : Tr) (p1 : Int32) (p4 : Int32) : Int32 := if (f_X1_hasColumn zt p4) = (f_X1_hasColumn zb p4) then p1 else (if (f_X1_hasColumn zt p4) = 0 then (if p1 = 0 then 0 else (if (f_X1_changedColumnOf zo zb p4) = 0 then 0 else 1)) else 1)
set_option maxHeartbeats 4000000 in
set_option maxRecDepth 100000 in
theorem k_X2_columnStaysAfter_to (l : Launch) (D : va_G) (cyI cyZ : ClassId) (ad : Nat → Nat) (zb : Tr) (zo : Tr) (zt : Tr) (zm : Tr) (zu : Nat → Int32) (zr : Nat → Int32) (zl : Lr) (zf : Int32) (p1 : Int32) (p4 : Int32) (hb9 : p1 = 0 ∨ p1 = 1) : Met l yX2_columnStaysAfter wsX2_columnStaysAfter ({ frames := 4, cells := 0, slots := 0, locals := 90 } : Room) (pcP D cyI cyZ [.ref (ad 0), .int p1, .ref (ad 7), .ref (ad 4), .int p4] (wZ cyI cyZ ad zb zo zt zm zu zr zl zf)) (qI (f_X2_columnStaysAfter_to zb zo zt p1 p4)) 0 0 nA := by
  refine Met.ofW (cc := cX2_columnStaysAfter) (maxL := 5) (ret := (some .boolean)) (by decide) rfl ?_
  intro p e s m args below meth c s₁ B hml hv
  obtain ⟨rfl, hP, hG⟩ := hv
  have hx := B.exec
  have hb := B.bytes
  have hr := B.returns
  have hts := atoms_spec (ws := wsX2_columnStaysAfter) B.pre
  have hown : s.vm.findClass RX2 = some m.cls := findClass_of_methodNamed B.named
  have hlocks := B.notSynchronized
  have hS : va_S nA s.heap s.heap [] := va_S.rf
  have hl := lv_entry ([.ref (ad 0), .int p1, .ref (ad 7), .ref (ad 4), .int p4]) (n := 5) (Nat.le_of_ble_eq_true rfl)
  rw [lg_entry_eq]
  generalize (lg_sl ([.ref (ad 0), .int p1, .ref (ad 7), .ref (ad 4), .int p4]) ++ List.replicate (5 - (lg_sl ([.ref (ad 0), .int p1, .ref (ad 7), .ref (ad 4), .int p4])).length) Slot.unset).toArray = ls at hl ⊢
  have hl : lv_has ls 5 [(0, .ref (ad 0)), (1, .int p1), (2, .ref (ad 7)), (3, .ref (ad 4)), (4, .int p4)] := hl
  have hP : va_P D vwCl (wZ cyI cyZ ad zb zo zt zm zu zr zl zf) s.heap := hP
  refine lv_aload_n hx hb dX2_columnStaysAfter_0 rfl (lv_at hl 2 rfl) ?_
  refine lv_iload hx hb dX2_columnStaysAfter_1 (lv_at hl 4 rfl) ?_
  refine pr_i (va_runVN (As := [.int p4]) (rest := []) ⟨hx, hb, hml, hown, hts⟩ (k_X1_hasColumn l D cyI cyZ (ad 7) (ad 8) (ad 9) zt p4) ⟨va_cnB 1 hts gX2_columnStaysAfter_X1_hasColumn_n55 rfl rfl rfl (hG.2.1 (RX2, 55, yX1_hasColumn, "TableSplice") (List.mem_of_getElem? (i := 6) rfl)) (hts (.initialized RX1) (List.mem_of_getElem? (i := 3) rfl)) (by decide +kernel) ⟨Nat.le_of_ble_eq_true rfl, Nat.le_of_ble_eq_true rfl⟩, hts (.instanceMethod yX1_hasColumn) (List.mem_of_getElem? (i := 2) rfl), hts (.selects RX1 yX1_hasColumn yX1_hasColumn) (List.mem_of_getElem? (i := 4) rfl)⟩ (prV hG (hP.sub (ws' := wT cyI (ad 7) (ad 8) (ad 9) zt) [7, 8, 9] rfl) (ci := 1) rfl rfl rfl) rfl rfl hl.1 rfl (lv_room (Nat.le_of_ble_eq_true rfl)) dX2_columnStaysAfter_3 ⟨Nat.zero_le _, Nat.zero_le _⟩) hS hP (fun H locs hP hS => ?_)
  refine lv_aload_n hx hb dX2_columnStaysAfter_6 rfl (lv_at hl 0 rfl) ?_
  refine va_get (D := D) (ci := 2) (v := .ref (ad 1)) (C := RX2) (T := TX2) (N := 8) hx hb hts uin_X2_columnStaysAfter_X2 hown hG.1 hP 0 rfl rfl 0 (by decide) (hts (.fieldLink RX2 10 "TableSplice" "base" "LTableSplice$Table;") (List.mem_of_getElem? (i := 1) rfl)) (fun _ h9 => h9) rfl dX2_columnStaysAfter_7 ?_
  refine lv_iload hx hb dX2_columnStaysAfter_10 (lv_at hl 4 rfl) ?_
  refine pr_i (va_runVN (As := [.int p4]) (rest := [.int (f_X1_hasColumn zt p4)]) ⟨hx, hb, hml, hown, hts⟩ (k_X1_hasColumn l D cyI cyZ (ad 1) (ad 2) (ad 3) zb p4) ⟨va_cnB 1 hts gX2_columnStaysAfter_X1_hasColumn_n55 rfl rfl rfl (hG.2.1 (RX2, 55, yX1_hasColumn, "TableSplice") (List.mem_of_getElem? (i := 6) rfl)) (hts (.initialized RX1) (List.mem_of_getElem? (i := 3) rfl)) (by decide +kernel) ⟨Nat.le_of_ble_eq_true rfl, Nat.le_of_ble_eq_true rfl⟩, hts (.instanceMethod yX1_hasColumn) (List.mem_of_getElem? (i := 2) rfl), hts (.selects RX1 yX1_hasColumn yX1_hasColumn) (List.mem_of_getElem? (i := 4) rfl)⟩ (prV hG (hP.sub (ws' := wT cyI (ad 1) (ad 2) (ad 3) zb) [1, 2, 3] rfl) (ci := 1) rfl rfl rfl) rfl rfl hl.1 rfl (lv_room (Nat.le_of_ble_eq_true rfl)) dX2_columnStaysAfter_12 ⟨Nat.zero_le _, Nat.zero_le _⟩) hS hP (fun H locs hP hS => ?_)
  refine lv_icmp_ne (tgt := 20) hx hb dX2_columnStaysAfter_15 (by decide) (fun c_15 => ?_) (fun c_15 => ?_)
  · refine lv_aload_n hx hb dX2_columnStaysAfter_20 rfl (lv_at hl 2 rfl) ?_
    refine lv_iload hx hb dX2_columnStaysAfter_21 (lv_at hl 4 rfl) ?_
    refine pr_i (va_runVN (As := [.int p4]) (rest := []) ⟨hx, hb, hml, hown, hts⟩ (k_X1_hasColumn l D cyI cyZ (ad 7) (ad 8) (ad 9) zt p4) ⟨va_cnB 1 hts gX2_columnStaysAfter_X1_hasColumn_n55 rfl rfl rfl (hG.2.1 (RX2, 55, yX1_hasColumn, "TableSplice") (List.mem_of_getElem? (i := 6) rfl)) (hts (.initialized RX1) (List.mem_of_getElem? (i := 3) rfl)) (by decide +kernel) ⟨Nat.le_of_ble_eq_true rfl, Nat.le_of_ble_eq_true rfl⟩, hts (.instanceMethod yX1_hasColumn) (List.mem_of_getElem? (i := 2) rfl), hts (.selects RX1 yX1_hasColumn yX1_hasColumn) (List.mem_of_getElem? (i := 4) rfl)⟩ (prV hG (hP.sub (ws' := wT cyI (ad 7) (ad 8) (ad 9) zt) [7, 8, 9] rfl) (ci := 1) rfl rfl rfl) rfl rfl hl.1 rfl (lv_room (Nat.le_of_ble_eq_true rfl)) dX2_columnStaysAfter_23 ⟨Nat.zero_le _, Nat.zero_le _⟩) hS hP (fun H locs hP hS => ?_)
    refine lv_if_ne (tgt := 46) hx hb dX2_columnStaysAfter_26 (by decide) (fun c_26 => ?_) (fun c_26 => ?_)
    · refine lv_iconst (v := 1) hx hb dX2_columnStaysAfter_46 (by decide) ?_
      refine lv_goto (tgt := 51) hx hb dX2_columnStaysAfter_47 (by decide) ?_
      have ef : f_X2_columnStaysAfter_to zb zo zt p1 p4 = 1 := by rw [f_X2_columnStaysAfter_to, if_neg c_15, if_neg c_26]
      exact W.zret (v := 1) (ty := .boolean) hx hb hr rfl (fun t ht hW => ⟨⟨1, (), rfl, ef.symm, trivial⟩, hS.F ht⟩) hS.2.2 dX2_columnStaysAfter_51
    · refine lv_iload_n hx hb dX2_columnStaysAfter_29 rfl (lv_at hl 1 rfl) ?_
      refine lv_if_eq (tgt := 50) hx hb dX2_columnStaysAfter_30 (by decide) (fun c_30 => ?_) (fun c_30 => ?_)
      · refine lv_iconst (v := 0) hx hb dX2_columnStaysAfter_50 (by decide) ?_
        have ef : f_X2_columnStaysAfter_to zb zo zt p1 p4 = 0 := by rw [f_X2_columnStaysAfter_to, if_neg c_15, if_pos c_26, if_pos c_30]
        exact W.zret (v := 0) (ty := .boolean) hx hb hr rfl (fun t ht hW => ⟨⟨0, (), rfl, ef.symm, trivial⟩, hS.F ht⟩) hS.2.2 dX2_columnStaysAfter_51
      · refine lv_aload_n hx hb dX2_columnStaysAfter_33 rfl (lv_at hl 3 rfl) ?_
        refine lv_aload_n hx hb dX2_columnStaysAfter_34 rfl (lv_at hl 0 rfl) ?_
        refine va_get (D := D) (ci := 2) (v := .ref (ad 1)) (C := RX2) (T := TX2) (N := 8) hx hb hts uin_X2_columnStaysAfter_X2 hown hG.1 hP 0 rfl rfl 0 (by decide) (hts (.fieldLink RX2 10 "TableSplice" "base" "LTableSplice$Table;") (List.mem_of_getElem? (i := 1) rfl)) (fun _ h9 => h9) rfl dX2_columnStaysAfter_35 ?_
        refine lv_iload hx hb dX2_columnStaysAfter_38 (lv_at hl 4 rfl) ?_
        refine pr_i (va_runVN (As := [.ref (ad 1), .int p4]) (rest := []) ⟨hx, hb, hml, hown, hts⟩ (k_X1_changedColumnOf l D cyI cyZ (ad 4) (ad 5) (ad 6) (ad 1) (ad 2) (ad 3) zo zb p4) ⟨va_cnB 2 hts gX2_columnStaysAfter_X1_changedColumnOf_n262 rfl rfl rfl (hG.2.1 (RX2, 262, yX1_changedColumnOf, "TableSplice") (List.mem_of_getElem? (i := 7) rfl)) (hts (.initialized RX1) (List.mem_of_getElem? (i := 3) rfl)) (by decide +kernel) ⟨Nat.le_of_ble_eq_true rfl, Nat.le_of_ble_eq_true rfl⟩, hts (.instanceMethod yX1_changedColumnOf) (List.mem_of_getElem? (i := 7) rfl), hts (.selects RX1 yX1_changedColumnOf yX1_changedColumnOf) (List.mem_of_getElem? (i := 8) rfl)⟩ (prV hG (hP.sub (ws' := wU cyI (ad 4) (ad 5) (ad 6) zo (ad 1) (ad 2) (ad 3) zb) [4, 5, 6, 1, 2, 3] rfl) (ci := 1) rfl rfl rfl) rfl rfl hl.1 rfl (lv_room (Nat.le_of_ble_eq_true rfl)) dX2_columnStaysAfter_40 ⟨Nat.zero_le _, Nat.zero_le _⟩) hS hP (fun H locs hP hS => ?_)
        refine lv_if_eq (tgt := 50) hx hb dX2_columnStaysAfter_43 (by decide) (fun c_43 => ?_) (fun c_43 => ?_)
        · refine lv_iconst (v := 0) hx hb dX2_columnStaysAfter_50 (by decide) ?_
          have ef : f_X2_columnStaysAfter_to zb zo zt p1 p4 = 0 := by rw [f_X2_columnStaysAfter_to, if_neg c_15, if_pos c_26, if_neg c_30, if_pos c_43]
          exact W.zret (v := 0) (ty := .boolean) hx hb hr rfl (fun t ht hW => ⟨⟨0, (), rfl, ef.symm, trivial⟩, hS.F ht⟩) hS.2.2 dX2_columnStaysAfter_51
        · refine lv_iconst (v := 1) hx hb dX2_columnStaysAfter_46 (by decide) ?_
          refine lv_goto (tgt := 51) hx hb dX2_columnStaysAfter_47 (by decide) ?_
          have ef : f_X2_columnStaysAfter_to zb zo zt p1 p4 = 1 := by rw [f_X2_columnStaysAfter_to, if_neg c_15, if_pos c_26, if_neg c_30, if_neg c_43]
          exact W.zret (v := 1) (ty := .boolean) hx hb hr rfl (fun t ht hW => ⟨⟨1, (), rfl, ef.symm, trivial⟩, hS.F ht⟩) hS.2.2 dX2_columnStaysAfter_51
  · refine lv_iload_n hx hb dX2_columnStaysAfter_18 rfl (lv_at hl 1 rfl) ?_
    have ef : f_X2_columnStaysAfter_to zb zo zt p1 p4 = p1 := by rw [f_X2_columnStaysAfter_to, if_pos c_15]
    exact W.zret (v := p1) (ty := .boolean) hx hb hr (nz_b hb9) (fun t ht hW => ⟨⟨p1, (), rfl, ef.symm, trivial⟩, hS.F ht⟩) hS.2.2 dX2_columnStaysAfter_19
theorem b_X2_columnStaysAfter_to {zb : Tr} {zo : Tr} {zt : Tr} {p1 : Int32} {p4 : Int32} (hb9 : p1 = 0 ∨ p1 = 1) : f_X2_columnStaysAfter_to zb zo zt p1 p4 = 0 ∨ f_X2_columnStaysAfter_to zb zo zt p1 p4 = 1 := by
  rw [f_X2_columnStaysAfter_to]
  exact (b01_i hb9 (b01_i (b01_i b01_0 (b01_i b01_0 b01_1)) b01_1))
theorem b_X1_hasRow {t0 : Tr} {p1 : Int32} : f_X1_hasRow t0 p1 = 0 ∨ f_X1_hasRow t0 p1 = 1 := by
  rw [f_X1_hasRow]; exact b01_i b01_0 (b01_i b01_0 (b01_i b01_0 b01_1))
theorem b_X1_hasColumn {t0 : Tr} {p1 : Int32} : f_X1_hasColumn t0 p1 = 0 ∨ f_X1_hasColumn t0 p1 = 1 := by
  rw [f_X1_hasColumn]; exact b01_i b01_0 (b01_i b01_0 (b01_i b01_0 b01_1))
def f_X2_rowStaysByChanges (zb : Tr) (zo : Tr) (zt : Tr) (p1 : Int32) : Int32 := f_X2_rowStaysAfter_to zb zo zt (f_X2_rowStaysAfter_ot zb zo zt (f_X1_hasRow zb p1) p1) p1
theorem uin_X2_rowStaysByChanges_X2 : ∀ w ∈ wsX20, w ∈ wsX2_rowStaysByChanges := fun _ h => List.mem_cons_of_mem _ (List.mem_append_left _ (List.mem_append_right _ h))
theorem uin_X2_rowStaysByChanges_X1 : ∀ w ∈ wsX10, w ∈ wsX2_rowStaysByChanges := fun _ h => List.mem_cons_of_mem _ (List.mem_append_right _ h)
set_option maxHeartbeats 4000000 in
set_option maxRecDepth 100000 in
theorem k_X2_rowStaysByChanges (l : Launch) (D : va_G) (cyI cyZ : ClassId) (ad : Nat → Nat) (zb : Tr) (zo : Tr) (zt : Tr) (zm : Tr) (zu : Nat → Int32) (zr : Nat → Int32) (zl : Lr) (zf : Int32) (p1 : Int32) : Met l yX2_rowStaysByChanges wsX2_rowStaysByChanges ({ frames := 5, cells := 0, slots := 0, locals := 115 } : Room) (pcP D cyI cyZ [.ref (ad 0), .int p1] (wZ cyI cyZ ad zb zo zt zm zu zr zl zf)) (qI (f_X2_rowStaysByChanges zb zo zt p1)) 0 0 nA := by
  refine Met.ofW (cc := cX2_rowStaysByChanges) (maxL := 3) (ret := (some .boolean)) (by decide) rfl ?_
  intro p e s m args below meth c s₁ B hml hv
  obtain ⟨rfl, hP, hG⟩ := hv
  have hx := B.exec
  have hb := B.bytes
  have hr := B.returns
  have hts := atoms_spec (ws := wsX2_rowStaysByChanges) B.pre
  have hown : s.vm.findClass RX2 = some m.cls := findClass_of_methodNamed B.named
  have hlocks := B.notSynchronized
  have hS : va_S nA s.heap s.heap [] := va_S.rf
  have hl := lv_entry ([.ref (ad 0), .int p1]) (n := 3) (Nat.le_of_ble_eq_true rfl)
  rw [lg_entry_eq]
  generalize (lg_sl ([.ref (ad 0), .int p1]) ++ List.replicate (3 - (lg_sl ([.ref (ad 0), .int p1])).length) Slot.unset).toArray = ls at hl ⊢
  have hl : lv_has ls 3 [(0, .ref (ad 0)), (1, .int p1)] := hl
  have hP : va_P D vwCl (wZ cyI cyZ ad zb zo zt zm zu zr zl zf) s.heap := hP
  refine lv_aload_n hx hb dX2_rowStaysByChanges_0 rfl (lv_at hl 0 rfl) ?_
  refine lv_aload_n hx hb dX2_rowStaysByChanges_1 rfl (lv_at hl 0 rfl) ?_
  refine va_get (D := D) (ci := 2) (v := .ref (ad 1)) (C := RX2) (T := TX2) (N := 8) hx hb hts uin_X2_rowStaysByChanges_X2 hown hG.1 hP 0 rfl rfl 0 (by decide) (hts (.fieldLink RX2 10 "TableSplice" "base" "LTableSplice$Table;") (List.mem_of_getElem? (i := 1) rfl)) (fun _ h9 => h9) rfl dX2_rowStaysByChanges_2 ?_
  refine lv_iload_n hx hb dX2_rowStaysByChanges_5 rfl (lv_at hl 1 rfl) ?_
  refine pr_i (va_runVN (As := [.int p1]) (rest := [.ref (ad 0)]) ⟨hx, hb, hml, hown, hts⟩ (k_X1_hasRow l D cyI cyZ (ad 1) (ad 2) (ad 3) zb p1) ⟨va_cnB 1 hts gX2_rowStaysByChanges_X1_hasRow_n91 rfl rfl rfl (hG.2.1 (RX2, 91, yX1_hasRow, "TableSplice") (List.mem_of_getElem? (i := 13) rfl)) (hts (.initialized RX1) (List.mem_of_getElem? (i := 5) rfl)) (by decide +kernel) ⟨Nat.le_of_ble_eq_true rfl, Nat.le_of_ble_eq_true rfl⟩, hts (.instanceMethod yX1_hasRow) (List.mem_of_getElem? (i := 4) rfl), hts (.selects RX1 yX1_hasRow yX1_hasRow) (List.mem_of_getElem? (i := 6) rfl)⟩ (prV hG (hP.sub (ws' := wT cyI (ad 1) (ad 2) (ad 3) zb) [1, 2, 3] rfl) (ci := 1) rfl rfl rfl) rfl rfl hl.1 rfl (lv_room (Nat.le_of_ble_eq_true rfl)) dX2_rowStaysByChanges_6 ⟨Nat.zero_le _, Nat.zero_le _⟩) hS hP (fun H locs hP hS => ?_)
  refine lv_aload_n hx hb dX2_rowStaysByChanges_9 rfl (lv_at hl 0 rfl) ?_
  refine va_get (D := D) (ci := 2) (v := .ref (ad 4)) (C := RX2) (T := TX2) (N := 8) hx hb hts uin_X2_rowStaysByChanges_X2 hown hG.1 hP 0 rfl rfl 1 (by decide) (hts (.fieldLink RX2 16 "TableSplice" "ours" "LTableSplice$Table;") (List.mem_of_getElem? (i := 2) rfl)) (fun _ h9 => h9) rfl dX2_rowStaysByChanges_10 ?_
  refine lv_aload_n hx hb dX2_rowStaysByChanges_13 rfl (lv_at hl 0 rfl) ?_
  refine va_get (D := D) (ci := 2) (v := .ref (ad 7)) (C := RX2) (T := TX2) (N := 8) hx hb hts uin_X2_rowStaysByChanges_X2 hown hG.1 hP 0 rfl rfl 2 (by decide) (hts (.fieldLink RX2 19 "TableSplice" "theirs" "LTableSplice$Table;") (List.mem_of_getElem? (i := 3) rfl)) (fun _ h9 => h9) rfl dX2_rowStaysByChanges_14 ?_
  refine lv_iload_n hx hb dX2_rowStaysByChanges_17 rfl (lv_at hl 1 rfl) ?_
  refine pr_i (va_runV (As := [.int (f_X1_hasRow zb p1), .ref (ad 4), .ref (ad 7), .int p1]) (rest := []) ⟨hx, hb, hml, hown, hts⟩ (k_X2_rowStaysAfter_ot l D cyI cyZ ad zb zo zt zm zu zr zl zf (f_X1_hasRow zb p1) p1 b_X1_hasRow) (cwV 4 hts gX2_rowStaysByChanges_X2_rowStaysAfter rfl rfl rfl (by decide +kernel) ⟨Nat.le_of_ble_eq_true rfl, Nat.le_of_ble_eq_true rfl⟩) (prV hG hP (ci := 2) rfl rfl rfl) rfl rfl hl.1 rfl (lv_room (Nat.le_of_ble_eq_true rfl)) dX2_rowStaysByChanges_18 ⟨Nat.zero_le _, Nat.zero_le _⟩) hS hP (fun H locs hP hS => ?_)
  refine lv_istore_n (lv' := [(2, .int (f_X2_rowStaysAfter_ot zb zo zt (f_X1_hasRow zb p1) p1)), (0, .ref (ad 0)), (1, .int p1)]) hx hb dX2_rowStaysByChanges_21 rfl hl (by decide) rfl (fun ls hl => ?_)
  refine lv_aload_n hx hb dX2_rowStaysByChanges_22 rfl (lv_at hl 1 rfl) ?_
  refine lv_iload_n hx hb dX2_rowStaysByChanges_23 rfl (lv_at hl 0 rfl) ?_
  refine lv_aload_n hx hb dX2_rowStaysByChanges_24 rfl (lv_at hl 1 rfl) ?_
  refine va_get (D := D) (ci := 2) (v := .ref (ad 7)) (C := RX2) (T := TX2) (N := 8) hx hb hts uin_X2_rowStaysByChanges_X2 hown hG.1 hP 0 rfl rfl 2 (by decide) (hts (.fieldLink RX2 19 "TableSplice" "theirs" "LTableSplice$Table;") (List.mem_of_getElem? (i := 3) rfl)) (fun _ h9 => h9) rfl dX2_rowStaysByChanges_25 ?_
  refine lv_aload_n hx hb dX2_rowStaysByChanges_28 rfl (lv_at hl 1 rfl) ?_
  refine va_get (D := D) (ci := 2) (v := .ref (ad 4)) (C := RX2) (T := TX2) (N := 8) hx hb hts uin_X2_rowStaysByChanges_X2 hown hG.1 hP 0 rfl rfl 1 (by decide) (hts (.fieldLink RX2 16 "TableSplice" "ours" "LTableSplice$Table;") (List.mem_of_getElem? (i := 2) rfl)) (fun _ h9 => h9) rfl dX2_rowStaysByChanges_29 ?_
  refine lv_iload_n hx hb dX2_rowStaysByChanges_32 rfl (lv_at hl 2 rfl) ?_
  refine pr_i (va_runV (As := [.int (f_X2_rowStaysAfter_ot zb zo zt (f_X1_hasRow zb p1) p1), .ref (ad 7), .ref (ad 4), .int p1]) (rest := []) ⟨hx, hb, hml, hown, hts⟩ (k_X2_rowStaysAfter_to l D cyI cyZ ad zb zo zt zm zu zr zl zf (f_X2_rowStaysAfter_ot zb zo zt (f_X1_hasRow zb p1) p1) p1 (b_X2_rowStaysAfter_ot b_X1_hasRow)) (cwV 4 hts gX2_rowStaysByChanges_X2_rowStaysAfter rfl rfl rfl (by decide +kernel) ⟨Nat.le_of_ble_eq_true rfl, Nat.le_of_ble_eq_true rfl⟩) (prV hG hP (ci := 2) rfl rfl rfl) rfl rfl hl.1 rfl (lv_room (Nat.le_of_ble_eq_true rfl)) dX2_rowStaysByChanges_33 ⟨Nat.zero_le _, Nat.zero_le _⟩) hS hP (fun H locs hP hS => ?_)
  have ef : f_X2_rowStaysByChanges zb zo zt p1 = f_X2_rowStaysAfter_to zb zo zt (f_X2_rowStaysAfter_ot zb zo zt (f_X1_hasRow zb p1) p1) p1 := by rw [f_X2_rowStaysByChanges]
  exact W.zret (v := f_X2_rowStaysAfter_to zb zo zt (f_X2_rowStaysAfter_ot zb zo zt (f_X1_hasRow zb p1) p1) p1) (ty := .boolean) hx hb hr (nz_b (b_X2_rowStaysAfter_to (b_X2_rowStaysAfter_ot b_X1_hasRow))) (fun t ht hW => ⟨⟨f_X2_rowStaysAfter_to zb zo zt (f_X2_rowStaysAfter_ot zb zo zt (f_X1_hasRow zb p1) p1) p1, (), rfl, ef.symm, trivial⟩, hS.F ht⟩) hS.2.2 dX2_rowStaysByChanges_36
def f_X2_columnStaysByChanges (zb : Tr) (zo : Tr) (zt : Tr) (p1 : Int32) : Int32 := f_X2_columnStaysAfter_to zb zo zt (f_X2_columnStaysAfter_ot zb zo zt (f_X1_hasColumn zb p1) p1) p1
theorem uin_X2_columnStaysByChanges_X2 : ∀ w ∈ wsX20, w ∈ wsX2_columnStaysByChanges := fun _ h => List.mem_cons_of_mem _ (List.mem_append_left _ (List.mem_append_right _ h))
theorem uin_X2_columnStaysByChanges_X1 : ∀ w ∈ wsX10, w ∈ wsX2_columnStaysByChanges := fun _ h => List.mem_cons_of_mem _ (List.mem_append_right _ h)
set_option maxHeartbeats 4000000 in
set_option maxRecDepth 100000 in
theorem k_X2_columnStaysByChanges (l : Launch) (D : va_G) (cyI cyZ : ClassId) (ad : Nat → Nat) (zb : Tr) (zo : Tr) (zt : Tr) (zm : Tr) (zu : Nat → Int32) (zr : Nat → Int32) (zl : Lr) (zf : Int32) (p1 : Int32) : Met l yX2_columnStaysByChanges wsX2_columnStaysByChanges ({ frames := 5, cells := 0, slots := 0, locals := 114 } : Room) (pcP D cyI cyZ [.ref (ad 0), .int p1] (wZ cyI cyZ ad zb zo zt zm zu zr zl zf)) (qI (f_X2_columnStaysByChanges zb zo zt p1)) 0 0 nA := by
  refine Met.ofW (cc := cX2_columnStaysByChanges) (maxL := 3) (ret := (some .boolean)) (by decide) rfl ?_
  intro p e s m args below meth c s₁ B hml hv
  obtain ⟨rfl, hP, hG⟩ := hv
  have hx := B.exec
  have hb := B.bytes
  have hr := B.returns
  have hts := atoms_spec (ws := wsX2_columnStaysByChanges) B.pre
  have hown : s.vm.findClass RX2 = some m.cls := findClass_of_methodNamed B.named
  have hlocks := B.notSynchronized
  have hS : va_S nA s.heap s.heap [] := va_S.rf
  have hl := lv_entry ([.ref (ad 0), .int p1]) (n := 3) (Nat.le_of_ble_eq_true rfl)
  rw [lg_entry_eq]
  generalize (lg_sl ([.ref (ad 0), .int p1]) ++ List.replicate (3 - (lg_sl ([.ref (ad 0), .int p1])).length) Slot.unset).toArray = ls at hl ⊢
  have hl : lv_has ls 3 [(0, .ref (ad 0)), (1, .int p1)] := hl
  have hP : va_P D vwCl (wZ cyI cyZ ad zb zo zt zm zu zr zl zf) s.heap := hP
  refine lv_aload_n hx hb dX2_columnStaysByChanges_0 rfl (lv_at hl 0 rfl) ?_
  refine lv_aload_n hx hb dX2_columnStaysByChanges_1 rfl (lv_at hl 0 rfl) ?_
  refine va_get (D := D) (ci := 2) (v := .ref (ad 1)) (C := RX2) (T := TX2) (N := 8) hx hb hts uin_X2_columnStaysByChanges_X2 hown hG.1 hP 0 rfl rfl 0 (by decide) (hts (.fieldLink RX2 10 "TableSplice" "base" "LTableSplice$Table;") (List.mem_of_getElem? (i := 1) rfl)) (fun _ h9 => h9) rfl dX2_columnStaysByChanges_2 ?_
  refine lv_iload_n hx hb dX2_columnStaysByChanges_5 rfl (lv_at hl 1 rfl) ?_
  refine pr_i (va_runVN (As := [.int p1]) (rest := [.ref (ad 0)]) ⟨hx, hb, hml, hown, hts⟩ (k_X1_hasColumn l D cyI cyZ (ad 1) (ad 2) (ad 3) zb p1) ⟨va_cnB 1 hts gX2_columnStaysByChanges_X1_hasColumn_n55 rfl rfl rfl (hG.2.1 (RX2, 55, yX1_hasColumn, "TableSplice") (List.mem_of_getElem? (i := 6) rfl)) (hts (.initialized RX1) (List.mem_of_getElem? (i := 5) rfl)) (by decide +kernel) ⟨Nat.le_of_ble_eq_true rfl, Nat.le_of_ble_eq_true rfl⟩, hts (.instanceMethod yX1_hasColumn) (List.mem_of_getElem? (i := 4) rfl), hts (.selects RX1 yX1_hasColumn yX1_hasColumn) (List.mem_of_getElem? (i := 6) rfl)⟩ (prV hG (hP.sub (ws' := wT cyI (ad 1) (ad 2) (ad 3) zb) [1, 2, 3] rfl) (ci := 1) rfl rfl rfl) rfl rfl hl.1 rfl (lv_room (Nat.le_of_ble_eq_true rfl)) dX2_columnStaysByChanges_6 ⟨Nat.zero_le _, Nat.zero_le _⟩) hS hP (fun H locs hP hS => ?_)
  refine lv_aload_n hx hb dX2_columnStaysByChanges_9 rfl (lv_at hl 0 rfl) ?_
  refine va_get (D := D) (ci := 2) (v := .ref (ad 4)) (C := RX2) (T := TX2) (N := 8) hx hb hts uin_X2_columnStaysByChanges_X2 hown hG.1 hP 0 rfl rfl 1 (by decide) (hts (.fieldLink RX2 16 "TableSplice" "ours" "LTableSplice$Table;") (List.mem_of_getElem? (i := 2) rfl)) (fun _ h9 => h9) rfl dX2_columnStaysByChanges_10 ?_
  refine lv_aload_n hx hb dX2_columnStaysByChanges_13 rfl (lv_at hl 0 rfl) ?_
  refine va_get (D := D) (ci := 2) (v := .ref (ad 7)) (C := RX2) (T := TX2) (N := 8) hx hb hts uin_X2_columnStaysByChanges_X2 hown hG.1 hP 0 rfl rfl 2 (by decide) (hts (.fieldLink RX2 19 "TableSplice" "theirs" "LTableSplice$Table;") (List.mem_of_getElem? (i := 3) rfl)) (fun _ h9 => h9) rfl dX2_columnStaysByChanges_14 ?_
  refine lv_iload_n hx hb dX2_columnStaysByChanges_17 rfl (lv_at hl 1 rfl) ?_
  refine pr_i (va_runV (As := [.int (f_X1_hasColumn zb p1), .ref (ad 4), .ref (ad 7), .int p1]) (rest := []) ⟨hx, hb, hml, hown, hts⟩ (k_X2_columnStaysAfter_ot l D cyI cyZ ad zb zo zt zm zu zr zl zf (f_X1_hasColumn zb p1) p1 b_X1_hasColumn) (cwV 4 hts gX2_columnStaysByChanges_X2_columnStaysAfter rfl rfl rfl (by decide +kernel) ⟨Nat.le_of_ble_eq_true rfl, Nat.le_of_ble_eq_true rfl⟩) (prV hG hP (ci := 2) rfl rfl rfl) rfl rfl hl.1 rfl (lv_room (Nat.le_of_ble_eq_true rfl)) dX2_columnStaysByChanges_18 ⟨Nat.zero_le _, Nat.zero_le _⟩) hS hP (fun H locs hP hS => ?_)
  refine lv_istore_n (lv' := [(2, .int (f_X2_columnStaysAfter_ot zb zo zt (f_X1_hasColumn zb p1) p1)), (0, .ref (ad 0)), (1, .int p1)]) hx hb dX2_columnStaysByChanges_21 rfl hl (by decide) rfl (fun ls hl => ?_)
  refine lv_aload_n hx hb dX2_columnStaysByChanges_22 rfl (lv_at hl 1 rfl) ?_
  refine lv_iload_n hx hb dX2_columnStaysByChanges_23 rfl (lv_at hl 0 rfl) ?_
  refine lv_aload_n hx hb dX2_columnStaysByChanges_24 rfl (lv_at hl 1 rfl) ?_
  refine va_get (D := D) (ci := 2) (v := .ref (ad 7)) (C := RX2) (T := TX2) (N := 8) hx hb hts uin_X2_columnStaysByChanges_X2 hown hG.1 hP 0 rfl rfl 2 (by decide) (hts (.fieldLink RX2 19 "TableSplice" "theirs" "LTableSplice$Table;") (List.mem_of_getElem? (i := 3) rfl)) (fun _ h9 => h9) rfl dX2_columnStaysByChanges_25 ?_
  refine lv_aload_n hx hb dX2_columnStaysByChanges_28 rfl (lv_at hl 1 rfl) ?_
  refine va_get (D := D) (ci := 2) (v := .ref (ad 4)) (C := RX2) (T := TX2) (N := 8) hx hb hts uin_X2_columnStaysByChanges_X2 hown hG.1 hP 0 rfl rfl 1 (by decide) (hts (.fieldLink RX2 16 "TableSplice" "ours" "LTableSplice$Table;") (List.mem_of_getElem? (i := 2) rfl)) (fun _ h9 => h9) rfl dX2_columnStaysByChanges_29 ?_
  refine lv_iload_n hx hb dX2_columnStaysByChanges_32 rfl (lv_at hl 2 rfl) ?_
  refine pr_i (va_runV (As := [.int (f_X2_columnStaysAfter_ot zb zo zt (f_X1_hasColumn zb p1) p1), .ref (ad 7), .ref (ad 4), .int p1]) (rest := []) ⟨hx, hb, hml, hown, hts⟩ (k_X2_columnStaysAfter_to l D cyI cyZ ad zb zo zt zm zu zr zl zf (f_X2_columnStaysAfter_ot zb zo zt (f_X1_hasColumn zb p1) p1) p1 (b_X2_columnStaysAfter_ot b_X1_hasColumn)) (cwV 4 hts gX2_columnStaysByChanges_X2_columnStaysAfter rfl rfl rfl (by decide +kernel) ⟨Nat.le_of_ble_eq_true rfl, Nat.le_of_ble_eq_true rfl⟩) (prV hG hP (ci := 2) rfl rfl rfl) rfl rfl hl.1 rfl (lv_room (Nat.le_of_ble_eq_true rfl)) dX2_columnStaysByChanges_33 ⟨Nat.zero_le _, Nat.zero_le _⟩) hS hP (fun H locs hP hS => ?_)
  have ef : f_X2_columnStaysByChanges zb zo zt p1 = f_X2_columnStaysAfter_to zb zo zt (f_X2_columnStaysAfter_ot zb zo zt (f_X1_hasColumn zb p1) p1) p1 := by rw [f_X2_columnStaysByChanges]
  exact W.zret (v := f_X2_columnStaysAfter_to zb zo zt (f_X2_columnStaysAfter_ot zb zo zt (f_X1_hasColumn zb p1) p1) p1) (ty := .boolean) hx hb hr (nz_b (b_X2_columnStaysAfter_to (b_X2_columnStaysAfter_ot b_X1_hasColumn))) (fun t ht hW => ⟨⟨f_X2_columnStaysAfter_to zb zo zt (f_X2_columnStaysAfter_ot zb zo zt (f_X1_hasColumn zb p1) p1) p1, (), rfl, ef.symm, trivial⟩, hS.F ht⟩) hS.2.2 dX2_columnStaysByChanges_36
def f_X2_sumByChanges (zb : Tr) (zo : Tr) (zt : Tr) (p1 : Int32) (p2 : Int32) : Int32 := if (f_X1_hasCell zo p1 p2) = 0 then (if (f_X1_hasCell zt p1 p2) = 0 then f_X1_cellAt zb p1 p2 else (f_X1_cellAt zb p1 p2) + ((f_X1_cellAt zt p1 p2) - (f_X1_cellAt zb p1 p2))) else (if (f_X1_hasCell zt p1 p2) = 0 then (f_X1_cellAt zb p1 p2) + ((f_X1_cellAt zo p1 p2) - (f_X1_cellAt zb p1 p2)) else ((f_X1_cellAt zb p1 p2) + ((f_X1_cellAt zo p1 p2) - (f_X1_cellAt zb p1 p2))) + ((f_X1_cellAt zt p1 p2) - (f_X1_cellAt zb p1 p2)))
theorem uin_X2_sumByChanges_X2 : ∀ w ∈ wsX20, w ∈ wsX2_sumByChanges := fun _ h => List.mem_cons_of_mem _ (List.mem_append_left _ (List.mem_append_right _ h))
theorem uin_X2_sumByChanges_X1 : ∀ w ∈ wsX10, w ∈ wsX2_sumByChanges := fun _ h => List.mem_cons_of_mem _ (List.mem_append_right _ h)
set_option maxHeartbeats 4000000 in
set_option maxRecDepth 100000 in
theorem k_X2_sumByChanges (l : Launch) (D : va_G) (cyI cyZ : ClassId) (ad : Nat → Nat) (zb : Tr) (zo : Tr) (zt : Tr) (zm : Tr) (zu : Nat → Int32) (zr : Nat → Int32) (zl : Lr) (zf : Int32) (p1 : Int32) (p2 : Int32) : Met l yX2_sumByChanges wsX2_sumByChanges ({ frames := 3, cells := 0, slots := 0, locals := 65 } : Room) (pcP D cyI cyZ [.ref (ad 0), .int p1, .int p2] (wZ cyI cyZ ad zb zo zt zm zu zr zl zf)) (qI (f_X2_sumByChanges zb zo zt p1 p2)) 0 0 nA := by
  refine Met.ofW (cc := cX2_sumByChanges) (maxL := 5) (ret := (some .int)) (by decide) rfl ?_
  intro p e s m args below meth c s₁ B hml hv
  obtain ⟨rfl, hP, hG⟩ := hv
  have hx := B.exec
  have hb := B.bytes
  have hr := B.returns
  have hts := atoms_spec (ws := wsX2_sumByChanges) B.pre
  have hown : s.vm.findClass RX2 = some m.cls := findClass_of_methodNamed B.named
  have hlocks := B.notSynchronized
  have hS : va_S nA s.heap s.heap [] := va_S.rf
  have hl := lv_entry ([.ref (ad 0), .int p1, .int p2]) (n := 5) (Nat.le_of_ble_eq_true rfl)
  rw [lg_entry_eq]
  generalize (lg_sl ([.ref (ad 0), .int p1, .int p2]) ++ List.replicate (5 - (lg_sl ([.ref (ad 0), .int p1, .int p2])).length) Slot.unset).toArray = ls at hl ⊢
  have hl : lv_has ls 5 [(0, .ref (ad 0)), (1, .int p1), (2, .int p2)] := hl
  have hP : va_P D vwCl (wZ cyI cyZ ad zb zo zt zm zu zr zl zf) s.heap := hP
  refine lv_aload_n hx hb dX2_sumByChanges_0 rfl (lv_at hl 0 rfl) ?_
  refine va_get (D := D) (ci := 2) (v := .ref (ad 1)) (C := RX2) (T := TX2) (N := 8) hx hb hts uin_X2_sumByChanges_X2 hown hG.1 hP 0 rfl rfl 0 (by decide) (hts (.fieldLink RX2 10 "TableSplice" "base" "LTableSplice$Table;") (List.mem_of_getElem? (i := 1) rfl)) (fun _ h9 => h9) rfl dX2_sumByChanges_1 ?_
  refine lv_iload_n hx hb dX2_sumByChanges_4 rfl (lv_at hl 1 rfl) ?_
  refine lv_iload_n hx hb dX2_sumByChanges_5 rfl (lv_at hl 2 rfl) ?_
  refine pr_i (va_runVN (As := [.int p1, .int p2]) (rest := []) ⟨hx, hb, hml, hown, hts⟩ (k_X1_cellAt l D cyI cyZ (ad 1) (ad 2) (ad 3) zb p1 p2) ⟨va_cnB 2 hts gX2_sumByChanges_X1_cellAt_n113 rfl rfl rfl (hG.2.1 (RX2, 113, yX1_cellAt, "TableSplice") (List.mem_of_getElem? (i := 18) rfl)) (hts (.initialized RX1) (List.mem_of_getElem? (i := 5) rfl)) (by decide +kernel) ⟨Nat.le_of_ble_eq_true rfl, Nat.le_of_ble_eq_true rfl⟩, hts (.instanceMethod yX1_cellAt) (List.mem_of_getElem? (i := 4) rfl), hts (.selects RX1 yX1_cellAt yX1_cellAt) (List.mem_of_getElem? (i := 6) rfl)⟩ (prV hG (hP.sub (ws' := wT cyI (ad 1) (ad 2) (ad 3) zb) [1, 2, 3] rfl) (ci := 1) rfl rfl rfl) rfl rfl hl.1 rfl (lv_room (Nat.le_of_ble_eq_true rfl)) dX2_sumByChanges_6 ⟨Nat.zero_le _, Nat.zero_le _⟩) hS hP (fun H locs hP hS => ?_)
  refine lv_istore_n (lv' := [(3, .int (f_X1_cellAt zb p1 p2)), (0, .ref (ad 0)), (1, .int p1), (2, .int p2)]) hx hb dX2_sumByChanges_9 rfl hl (by decide) rfl (fun ls hl => ?_)
  refine lv_iload_n hx hb dX2_sumByChanges_10 rfl (lv_at hl 0 rfl) ?_
  refine lv_istore (lv' := [(4, .int (f_X1_cellAt zb p1 p2)), (3, .int (f_X1_cellAt zb p1 p2)), (0, .ref (ad 0)), (1, .int p1), (2, .int p2)]) hx hb dX2_sumByChanges_11 hl (by decide) rfl (fun ls hl => ?_)
  refine lv_aload_n hx hb dX2_sumByChanges_13 rfl (lv_at hl 2 rfl) ?_
  refine va_get (D := D) (ci := 2) (v := .ref (ad 4)) (C := RX2) (T := TX2) (N := 8) hx hb hts uin_X2_sumByChanges_X2 hown hG.1 hP 0 rfl rfl 1 (by decide) (hts (.fieldLink RX2 16 "TableSplice" "ours" "LTableSplice$Table;") (List.mem_of_getElem? (i := 2) rfl)) (fun _ h9 => h9) rfl dX2_sumByChanges_14 ?_
  refine lv_iload_n hx hb dX2_sumByChanges_17 rfl (lv_at hl 3 rfl) ?_
  refine lv_iload_n hx hb dX2_sumByChanges_18 rfl (lv_at hl 4 rfl) ?_
  refine pr_i (va_runVN (As := [.int p1, .int p2]) (rest := []) ⟨hx, hb, hml, hown, hts⟩ (k_X1_hasCell l D cyI cyZ (ad 4) (ad 5) (ad 6) zo p1 p2) ⟨va_cnB 2 hts gX2_sumByChanges_X1_hasCell_n185 rfl rfl rfl (hG.2.1 (RX2, 185, yX1_hasCell, "TableSplice") (List.mem_of_getElem? (i := 17) rfl)) (hts (.initialized RX1) (List.mem_of_getElem? (i := 5) rfl)) (by decide +kernel) ⟨Nat.le_of_ble_eq_true rfl, Nat.le_of_ble_eq_true rfl⟩, hts (.instanceMethod yX1_hasCell) (List.mem_of_getElem? (i := 10) rfl), hts (.selects RX1 yX1_hasCell yX1_hasCell) (List.mem_of_getElem? (i := 11) rfl)⟩ (prV hG (hP.sub (ws' := wT cyI (ad 4) (ad 5) (ad 6) zo) [4, 5, 6] rfl) (ci := 1) rfl rfl rfl) rfl rfl hl.1 rfl (lv_room (Nat.le_of_ble_eq_true rfl)) dX2_sumByChanges_19 ⟨Nat.zero_le _, Nat.zero_le _⟩) hS hP (fun H locs hP hS => ?_)
  refine lv_if_eq (tgt := 41) hx hb dX2_sumByChanges_22 (by decide) (fun c_22 => ?_) (fun c_22 => ?_)
  · refine lv_aload_n hx hb dX2_sumByChanges_41 rfl (lv_at hl 2 rfl) ?_
    refine va_get (D := D) (ci := 2) (v := .ref (ad 7)) (C := RX2) (T := TX2) (N := 8) hx hb hts uin_X2_sumByChanges_X2 hown hG.1 hP 0 rfl rfl 2 (by decide) (hts (.fieldLink RX2 19 "TableSplice" "theirs" "LTableSplice$Table;") (List.mem_of_getElem? (i := 3) rfl)) (fun _ h9 => h9) rfl dX2_sumByChanges_42 ?_
    refine lv_iload_n hx hb dX2_sumByChanges_45 rfl (lv_at hl 3 rfl) ?_
    refine lv_iload_n hx hb dX2_sumByChanges_46 rfl (lv_at hl 4 rfl) ?_
    refine pr_i (va_runVN (As := [.int p1, .int p2]) (rest := []) ⟨hx, hb, hml, hown, hts⟩ (k_X1_hasCell l D cyI cyZ (ad 7) (ad 8) (ad 9) zt p1 p2) ⟨va_cnB 2 hts gX2_sumByChanges_X1_hasCell_n185 rfl rfl rfl (hG.2.1 (RX2, 185, yX1_hasCell, "TableSplice") (List.mem_of_getElem? (i := 17) rfl)) (hts (.initialized RX1) (List.mem_of_getElem? (i := 5) rfl)) (by decide +kernel) ⟨Nat.le_of_ble_eq_true rfl, Nat.le_of_ble_eq_true rfl⟩, hts (.instanceMethod yX1_hasCell) (List.mem_of_getElem? (i := 10) rfl), hts (.selects RX1 yX1_hasCell yX1_hasCell) (List.mem_of_getElem? (i := 11) rfl)⟩ (prV hG (hP.sub (ws' := wT cyI (ad 7) (ad 8) (ad 9) zt) [7, 8, 9] rfl) (ci := 1) rfl rfl rfl) rfl rfl hl.1 rfl (lv_room (Nat.le_of_ble_eq_true rfl)) dX2_sumByChanges_47 ⟨Nat.zero_le _, Nat.zero_le _⟩) hS hP (fun H locs hP hS => ?_)
    refine lv_if_eq (tgt := 69) hx hb dX2_sumByChanges_50 (by decide) (fun c_50 => ?_) (fun c_50 => ?_)
    · refine lv_iload hx hb dX2_sumByChanges_69 (lv_at hl 0 rfl) ?_
      have ef : f_X2_sumByChanges zb zo zt p1 p2 = f_X1_cellAt zb p1 p2 := by rw [f_X2_sumByChanges, if_pos c_22, if_pos c_50]
      exact W.iret (v := f_X1_cellAt zb p1 p2) hx hb hr (fun t ht hW => ⟨⟨f_X1_cellAt zb p1 p2, (), rfl, ef.symm, trivial⟩, hS.F ht⟩) hS.2.2 dX2_sumByChanges_71
    · refine lv_iload hx hb dX2_sumByChanges_53 (lv_at hl 0 rfl) ?_
      refine lv_aload_n hx hb dX2_sumByChanges_55 rfl (lv_at hl 2 rfl) ?_
      refine va_get (D := D) (ci := 2) (v := .ref (ad 7)) (C := RX2) (T := TX2) (N := 8) hx hb hts uin_X2_sumByChanges_X2 hown hG.1 hP 0 rfl rfl 2 (by decide) (hts (.fieldLink RX2 19 "TableSplice" "theirs" "LTableSplice$Table;") (List.mem_of_getElem? (i := 3) rfl)) (fun _ h9 => h9) rfl dX2_sumByChanges_56 ?_
      refine lv_iload_n hx hb dX2_sumByChanges_59 rfl (lv_at hl 3 rfl) ?_
      refine lv_iload_n hx hb dX2_sumByChanges_60 rfl (lv_at hl 4 rfl) ?_
      refine pr_i (va_runVN (As := [.int p1, .int p2]) (rest := [.int (f_X1_cellAt zb p1 p2)]) ⟨hx, hb, hml, hown, hts⟩ (k_X1_cellAt l D cyI cyZ (ad 7) (ad 8) (ad 9) zt p1 p2) ⟨va_cnB 2 hts gX2_sumByChanges_X1_cellAt_n113 rfl rfl rfl (hG.2.1 (RX2, 113, yX1_cellAt, "TableSplice") (List.mem_of_getElem? (i := 18) rfl)) (hts (.initialized RX1) (List.mem_of_getElem? (i := 5) rfl)) (by decide +kernel) ⟨Nat.le_of_ble_eq_true rfl, Nat.le_of_ble_eq_true rfl⟩, hts (.instanceMethod yX1_cellAt) (List.mem_of_getElem? (i := 4) rfl), hts (.selects RX1 yX1_cellAt yX1_cellAt) (List.mem_of_getElem? (i := 6) rfl)⟩ (prV hG (hP.sub (ws' := wT cyI (ad 7) (ad 8) (ad 9) zt) [7, 8, 9] rfl) (ci := 1) rfl rfl rfl) rfl rfl hl.1 rfl (lv_room (Nat.le_of_ble_eq_true rfl)) dX2_sumByChanges_61 ⟨Nat.zero_le _, Nat.zero_le _⟩) hS hP (fun H locs hP hS => ?_)
      refine lv_iload_n hx hb dX2_sumByChanges_64 rfl (lv_at hl 1 rfl) ?_
      refine lv_isub hx hb dX2_sumByChanges_65 ?_
      refine lv_iadd hx hb dX2_sumByChanges_66 ?_
      refine lv_istore (lv' := [(4, .int ((f_X1_cellAt zb p1 p2) + ((f_X1_cellAt zt p1 p2) - (f_X1_cellAt zb p1 p2)))), (3, .int (f_X1_cellAt zb p1 p2)), (0, .ref (ad 0)), (1, .int p1), (2, .int p2)]) hx hb dX2_sumByChanges_67 hl (by decide) rfl (fun ls hl => ?_)
      refine lv_iload hx hb dX2_sumByChanges_69 (lv_at hl 0 rfl) ?_
      have ef : f_X2_sumByChanges zb zo zt p1 p2 = (f_X1_cellAt zb p1 p2) + ((f_X1_cellAt zt p1 p2) - (f_X1_cellAt zb p1 p2)) := by rw [f_X2_sumByChanges, if_pos c_22, if_neg c_50]
      exact W.iret (v := (f_X1_cellAt zb p1 p2) + ((f_X1_cellAt zt p1 p2) - (f_X1_cellAt zb p1 p2))) hx hb hr (fun t ht hW => ⟨⟨(f_X1_cellAt zb p1 p2) + ((f_X1_cellAt zt p1 p2) - (f_X1_cellAt zb p1 p2)), (), rfl, ef.symm, trivial⟩, hS.F ht⟩) hS.2.2 dX2_sumByChanges_71
  · refine lv_iload hx hb dX2_sumByChanges_25 (lv_at hl 0 rfl) ?_
    refine lv_aload_n hx hb dX2_sumByChanges_27 rfl (lv_at hl 2 rfl) ?_
    refine va_get (D := D) (ci := 2) (v := .ref (ad 4)) (C := RX2) (T := TX2) (N := 8) hx hb hts uin_X2_sumByChanges_X2 hown hG.1 hP 0 rfl rfl 1 (by decide) (hts (.fieldLink RX2 16 "TableSplice" "ours" "LTableSplice$Table;") (List.mem_of_getElem? (i := 2) rfl)) (fun _ h9 => h9) rfl dX2_sumByChanges_28 ?_
    refine lv_iload_n hx hb dX2_sumByChanges_31 rfl (lv_at hl 3 rfl) ?_
    refine lv_iload_n hx hb dX2_sumByChanges_32 rfl (lv_at hl 4 rfl) ?_
    refine pr_i (va_runVN (As := [.int p1, .int p2]) (rest := [.int (f_X1_cellAt zb p1 p2)]) ⟨hx, hb, hml, hown, hts⟩ (k_X1_cellAt l D cyI cyZ (ad 4) (ad 5) (ad 6) zo p1 p2) ⟨va_cnB 2 hts gX2_sumByChanges_X1_cellAt_n113 rfl rfl rfl (hG.2.1 (RX2, 113, yX1_cellAt, "TableSplice") (List.mem_of_getElem? (i := 18) rfl)) (hts (.initialized RX1) (List.mem_of_getElem? (i := 5) rfl)) (by decide +kernel) ⟨Nat.le_of_ble_eq_true rfl, Nat.le_of_ble_eq_true rfl⟩, hts (.instanceMethod yX1_cellAt) (List.mem_of_getElem? (i := 4) rfl), hts (.selects RX1 yX1_cellAt yX1_cellAt) (List.mem_of_getElem? (i := 6) rfl)⟩ (prV hG (hP.sub (ws' := wT cyI (ad 4) (ad 5) (ad 6) zo) [4, 5, 6] rfl) (ci := 1) rfl rfl rfl) rfl rfl hl.1 rfl (lv_room (Nat.le_of_ble_eq_true rfl)) dX2_sumByChanges_33 ⟨Nat.zero_le _, Nat.zero_le _⟩) hS hP (fun H locs hP hS => ?_)
    refine lv_iload_n hx hb dX2_sumByChanges_36 rfl (lv_at hl 1 rfl) ?_
    refine lv_isub hx hb dX2_sumByChanges_37 ?_
    refine lv_iadd hx hb dX2_sumByChanges_38 ?_
    refine lv_istore (lv' := [(4, .int ((f_X1_cellAt zb p1 p2) + ((f_X1_cellAt zo p1 p2) - (f_X1_cellAt zb p1 p2)))), (3, .int (f_X1_cellAt zb p1 p2)), (0, .ref (ad 0)), (1, .int p1), (2, .int p2)]) hx hb dX2_sumByChanges_39 hl (by decide) rfl (fun ls hl => ?_)
    refine lv_aload_n hx hb dX2_sumByChanges_41 rfl (lv_at hl 2 rfl) ?_
    refine va_get (D := D) (ci := 2) (v := .ref (ad 7)) (C := RX2) (T := TX2) (N := 8) hx hb hts uin_X2_sumByChanges_X2 hown hG.1 hP 0 rfl rfl 2 (by decide) (hts (.fieldLink RX2 19 "TableSplice" "theirs" "LTableSplice$Table;") (List.mem_of_getElem? (i := 3) rfl)) (fun _ h9 => h9) rfl dX2_sumByChanges_42 ?_
    refine lv_iload_n hx hb dX2_sumByChanges_45 rfl (lv_at hl 3 rfl) ?_
    refine lv_iload_n hx hb dX2_sumByChanges_46 rfl (lv_at hl 4 rfl) ?_
    refine pr_i (va_runVN (As := [.int p1, .int p2]) (rest := []) ⟨hx, hb, hml, hown, hts⟩ (k_X1_hasCell l D cyI cyZ (ad 7) (ad 8) (ad 9) zt p1 p2) ⟨va_cnB 2 hts gX2_sumByChanges_X1_hasCell_n185 rfl rfl rfl (hG.2.1 (RX2, 185, yX1_hasCell, "TableSplice") (List.mem_of_getElem? (i := 17) rfl)) (hts (.initialized RX1) (List.mem_of_getElem? (i := 5) rfl)) (by decide +kernel) ⟨Nat.le_of_ble_eq_true rfl, Nat.le_of_ble_eq_true rfl⟩, hts (.instanceMethod yX1_hasCell) (List.mem_of_getElem? (i := 10) rfl), hts (.selects RX1 yX1_hasCell yX1_hasCell) (List.mem_of_getElem? (i := 11) rfl)⟩ (prV hG (hP.sub (ws' := wT cyI (ad 7) (ad 8) (ad 9) zt) [7, 8, 9] rfl) (ci := 1) rfl rfl rfl) rfl rfl hl.1 rfl (lv_room (Nat.le_of_ble_eq_true rfl)) dX2_sumByChanges_47 ⟨Nat.zero_le _, Nat.zero_le _⟩) hS hP (fun H locs hP hS => ?_)
    refine lv_if_eq (tgt := 69) hx hb dX2_sumByChanges_50 (by decide) (fun c_50 => ?_) (fun c_50 => ?_)
    · refine lv_iload hx hb dX2_sumByChanges_69 (lv_at hl 0 rfl) ?_
      have ef : f_X2_sumByChanges zb zo zt p1 p2 = (f_X1_cellAt zb p1 p2) + ((f_X1_cellAt zo p1 p2) - (f_X1_cellAt zb p1 p2)) := by rw [f_X2_sumByChanges, if_neg c_22, if_pos c_50]
      exact W.iret (v := (f_X1_cellAt zb p1 p2) + ((f_X1_cellAt zo p1 p2) - (f_X1_cellAt zb p1 p2))) hx hb hr (fun t ht hW => ⟨⟨(f_X1_cellAt zb p1 p2) + ((f_X1_cellAt zo p1 p2) - (f_X1_cellAt zb p1 p2)), (), rfl, ef.symm, trivial⟩, hS.F ht⟩) hS.2.2 dX2_sumByChanges_71
    · refine lv_iload hx hb dX2_sumByChanges_53 (lv_at hl 0 rfl) ?_
      refine lv_aload_n hx hb dX2_sumByChanges_55 rfl (lv_at hl 2 rfl) ?_
      refine va_get (D := D) (ci := 2) (v := .ref (ad 7)) (C := RX2) (T := TX2) (N := 8) hx hb hts uin_X2_sumByChanges_X2 hown hG.1 hP 0 rfl rfl 2 (by decide) (hts (.fieldLink RX2 19 "TableSplice" "theirs" "LTableSplice$Table;") (List.mem_of_getElem? (i := 3) rfl)) (fun _ h9 => h9) rfl dX2_sumByChanges_56 ?_
      refine lv_iload_n hx hb dX2_sumByChanges_59 rfl (lv_at hl 3 rfl) ?_
      refine lv_iload_n hx hb dX2_sumByChanges_60 rfl (lv_at hl 4 rfl) ?_
      refine pr_i (va_runVN (As := [.int p1, .int p2]) (rest := [.int ((f_X1_cellAt zb p1 p2) + ((f_X1_cellAt zo p1 p2) - (f_X1_cellAt zb p1 p2)))]) ⟨hx, hb, hml, hown, hts⟩ (k_X1_cellAt l D cyI cyZ (ad 7) (ad 8) (ad 9) zt p1 p2) ⟨va_cnB 2 hts gX2_sumByChanges_X1_cellAt_n113 rfl rfl rfl (hG.2.1 (RX2, 113, yX1_cellAt, "TableSplice") (List.mem_of_getElem? (i := 18) rfl)) (hts (.initialized RX1) (List.mem_of_getElem? (i := 5) rfl)) (by decide +kernel) ⟨Nat.le_of_ble_eq_true rfl, Nat.le_of_ble_eq_true rfl⟩, hts (.instanceMethod yX1_cellAt) (List.mem_of_getElem? (i := 4) rfl), hts (.selects RX1 yX1_cellAt yX1_cellAt) (List.mem_of_getElem? (i := 6) rfl)⟩ (prV hG (hP.sub (ws' := wT cyI (ad 7) (ad 8) (ad 9) zt) [7, 8, 9] rfl) (ci := 1) rfl rfl rfl) rfl rfl hl.1 rfl (lv_room (Nat.le_of_ble_eq_true rfl)) dX2_sumByChanges_61 ⟨Nat.zero_le _, Nat.zero_le _⟩) hS hP (fun H locs hP hS => ?_)
      refine lv_iload_n hx hb dX2_sumByChanges_64 rfl (lv_at hl 1 rfl) ?_
      refine lv_isub hx hb dX2_sumByChanges_65 ?_
      refine lv_iadd hx hb dX2_sumByChanges_66 ?_
      refine lv_istore (lv' := [(4, .int (((f_X1_cellAt zb p1 p2) + ((f_X1_cellAt zo p1 p2) - (f_X1_cellAt zb p1 p2))) + ((f_X1_cellAt zt p1 p2) - (f_X1_cellAt zb p1 p2)))), (3, .int (f_X1_cellAt zb p1 p2)), (0, .ref (ad 0)), (1, .int p1), (2, .int p2)]) hx hb dX2_sumByChanges_67 hl (by decide) rfl (fun ls hl => ?_)
      refine lv_iload hx hb dX2_sumByChanges_69 (lv_at hl 0 rfl) ?_
      have ef : f_X2_sumByChanges zb zo zt p1 p2 = ((f_X1_cellAt zb p1 p2) + ((f_X1_cellAt zo p1 p2) - (f_X1_cellAt zb p1 p2))) + ((f_X1_cellAt zt p1 p2) - (f_X1_cellAt zb p1 p2)) := by rw [f_X2_sumByChanges, if_neg c_22, if_neg c_50]
      exact W.iret (v := ((f_X1_cellAt zb p1 p2) + ((f_X1_cellAt zo p1 p2) - (f_X1_cellAt zb p1 p2))) + ((f_X1_cellAt zt p1 p2) - (f_X1_cellAt zb p1 p2))) hx hb hr (fun t ht hW => ⟨⟨((f_X1_cellAt zb p1 p2) + ((f_X1_cellAt zo p1 p2) - (f_X1_cellAt zb p1 p2))) + ((f_X1_cellAt zt p1 p2) - (f_X1_cellAt zb p1 p2)), (), rfl, ef.symm, trivial⟩, hS.F ht⟩) hS.2.2 dX2_sumByChanges_71
def f_X2_choiceByChanges (zb : Tr) (zo : Tr) (zt : Tr) (p1 : Int32) (p2 : Int32) (p3 : Int32) : Int32 := if (f_X1_addedOrChangedCellOf zo zb p1 p2) = 0 then (if (f_X1_addedOrChangedCellOf zt zb p1 p2) = 0 then f_X1_cellAt zb p1 p2 else f_X1_cellAt zt p1 p2) else (if (f_X1_addedOrChangedCellOf zt zb p1 p2) = 0 then f_X1_cellAt zo p1 p2 else (if p3 = 2 then if (f_X1_cellAt zo p1 p2) < (f_X1_cellAt zt p1 p2) then (f_X1_cellAt zt p1 p2) else (f_X1_cellAt zo p1 p2) else f_X1_cellAt zo p1 p2))
theorem uin_X2_choiceByChanges_X2 : ∀ w ∈ wsX20, w ∈ wsX2_choiceByChanges := fun _ h => List.mem_cons_of_mem _ (List.mem_append_left _ (List.mem_append_right _ h))
theorem uin_X2_choiceByChanges_X1 : ∀ w ∈ wsX10, w ∈ wsX2_choiceByChanges := fun _ h => List.mem_cons_of_mem _ (List.mem_append_right _ h)
set_option maxHeartbeats 4000000 in
set_option maxRecDepth 100000 in
theorem k_X2_choiceByChanges (l : Launch) (D : va_G) (cyI cyZ : ClassId) (ad : Nat → Nat) (zb : Tr) (zo : Tr) (zt : Tr) (zm : Tr) (zu : Nat → Int32) (zr : Nat → Int32) (zl : Lr) (zf : Int32) (p1 : Int32) (p2 : Int32) (p3 : Int32) : Met l yX2_choiceByChanges wsX2_choiceByChanges ({ frames := 4, cells := 0, slots := 0, locals := 90 } : Room) (pcP D cyI cyZ [.ref (ad 0), .int p1, .int p2, .int p3] (wZ cyI cyZ ad zb zo zt zm zu zr zl zf)) (qI (f_X2_choiceByChanges zb zo zt p1 p2 p3)) 0 0 nA := by
  refine Met.ofW (cc := cX2_choiceByChanges) (maxL := 7) (ret := (some .int)) (by decide) rfl ?_
  intro p e s m args below meth c s₁ B hml hv
  obtain ⟨rfl, hP, hG⟩ := hv
  have hx := B.exec
  have hb := B.bytes
  have hr := B.returns
  have hts := atoms_spec (ws := wsX2_choiceByChanges) B.pre
  have hown : s.vm.findClass RX2 = some m.cls := findClass_of_methodNamed B.named
  have hlocks := B.notSynchronized
  have hS : va_S nA s.heap s.heap [] := va_S.rf
  have hl := lv_entry ([.ref (ad 0), .int p1, .int p2, .int p3]) (n := 7) (Nat.le_of_ble_eq_true rfl)
  rw [lg_entry_eq]
  generalize (lg_sl ([.ref (ad 0), .int p1, .int p2, .int p3]) ++ List.replicate (7 - (lg_sl ([.ref (ad 0), .int p1, .int p2, .int p3])).length) Slot.unset).toArray = ls at hl ⊢
  have hl : lv_has ls 7 [(0, .ref (ad 0)), (1, .int p1), (2, .int p2), (3, .int p3)] := hl
  have hP : va_P D vwCl (wZ cyI cyZ ad zb zo zt zm zu zr zl zf) s.heap := hP
  refine lv_aload_n hx hb dX2_choiceByChanges_0 rfl (lv_at hl 0 rfl) ?_
  refine va_get (D := D) (ci := 2) (v := .ref (ad 4)) (C := RX2) (T := TX2) (N := 8) hx hb hts uin_X2_choiceByChanges_X2 hown hG.1 hP 0 rfl rfl 1 (by decide) (hts (.fieldLink RX2 16 "TableSplice" "ours" "LTableSplice$Table;") (List.mem_of_getElem? (i := 1) rfl)) (fun _ h9 => h9) rfl dX2_choiceByChanges_1 ?_
  refine lv_aload_n hx hb dX2_choiceByChanges_4 rfl (lv_at hl 0 rfl) ?_
  refine va_get (D := D) (ci := 2) (v := .ref (ad 1)) (C := RX2) (T := TX2) (N := 8) hx hb hts uin_X2_choiceByChanges_X2 hown hG.1 hP 0 rfl rfl 0 (by decide) (hts (.fieldLink RX2 10 "TableSplice" "base" "LTableSplice$Table;") (List.mem_of_getElem? (i := 2) rfl)) (fun _ h9 => h9) rfl dX2_choiceByChanges_5 ?_
  refine lv_iload_n hx hb dX2_choiceByChanges_8 rfl (lv_at hl 1 rfl) ?_
  refine lv_iload_n hx hb dX2_choiceByChanges_9 rfl (lv_at hl 2 rfl) ?_
  refine pr_i (va_runVN (As := [.ref (ad 1), .int p1, .int p2]) (rest := []) ⟨hx, hb, hml, hown, hts⟩ (k_X1_addedOrChangedCellOf l D cyI cyZ (ad 4) (ad 5) (ad 6) (ad 1) (ad 2) (ad 3) zo zb p1 p2) ⟨va_cnB 3 hts gX2_choiceByChanges_X1_addedOrChangedCellOf_n304 rfl rfl rfl (hG.2.1 (RX2, 304, yX1_addedOrChangedCellOf, "TableSplice") (List.mem_of_getElem? (i := 26) rfl)) (hts (.initialized RX1) (List.mem_of_getElem? (i := 9) rfl)) (by decide +kernel) ⟨Nat.le_of_ble_eq_true rfl, Nat.le_of_ble_eq_true rfl⟩, hts (.instanceMethod yX1_addedOrChangedCellOf) (List.mem_of_getElem? (i := 8) rfl), hts (.selects RX1 yX1_addedOrChangedCellOf yX1_addedOrChangedCellOf) (List.mem_of_getElem? (i := 10) rfl)⟩ (prV hG (hP.sub (ws' := wU cyI (ad 4) (ad 5) (ad 6) zo (ad 1) (ad 2) (ad 3) zb) [4, 5, 6, 1, 2, 3] rfl) (ci := 1) rfl rfl rfl) rfl rfl hl.1 rfl (lv_room (Nat.le_of_ble_eq_true rfl)) dX2_choiceByChanges_10 ⟨Nat.zero_le _, Nat.zero_le _⟩) hS hP (fun H locs hP hS => ?_)
  refine lv_istore (lv' := [(4, .int (f_X1_addedOrChangedCellOf zo zb p1 p2)), (0, .ref (ad 0)), (1, .int p1), (2, .int p2), (3, .int p3)]) hx hb dX2_choiceByChanges_13 hl (by decide) rfl (fun ls hl => ?_)
  refine lv_aload_n hx hb dX2_choiceByChanges_15 rfl (lv_at hl 1 rfl) ?_
  refine va_get (D := D) (ci := 2) (v := .ref (ad 7)) (C := RX2) (T := TX2) (N := 8) hx hb hts uin_X2_choiceByChanges_X2 hown hG.1 hP 0 rfl rfl 2 (by decide) (hts (.fieldLink RX2 19 "TableSplice" "theirs" "LTableSplice$Table;") (List.mem_of_getElem? (i := 3) rfl)) (fun _ h9 => h9) rfl dX2_choiceByChanges_16 ?_
  refine lv_aload_n hx hb dX2_choiceByChanges_19 rfl (lv_at hl 1 rfl) ?_
  refine va_get (D := D) (ci := 2) (v := .ref (ad 1)) (C := RX2) (T := TX2) (N := 8) hx hb hts uin_X2_choiceByChanges_X2 hown hG.1 hP 0 rfl rfl 0 (by decide) (hts (.fieldLink RX2 10 "TableSplice" "base" "LTableSplice$Table;") (List.mem_of_getElem? (i := 2) rfl)) (fun _ h9 => h9) rfl dX2_choiceByChanges_20 ?_
  refine lv_iload_n hx hb dX2_choiceByChanges_23 rfl (lv_at hl 2 rfl) ?_
  refine lv_iload_n hx hb dX2_choiceByChanges_24 rfl (lv_at hl 3 rfl) ?_
  refine pr_i (va_runVN (As := [.ref (ad 1), .int p1, .int p2]) (rest := []) ⟨hx, hb, hml, hown, hts⟩ (k_X1_addedOrChangedCellOf l D cyI cyZ (ad 7) (ad 8) (ad 9) (ad 1) (ad 2) (ad 3) zt zb p1 p2) ⟨va_cnB 3 hts gX2_choiceByChanges_X1_addedOrChangedCellOf_n304 rfl rfl rfl (hG.2.1 (RX2, 304, yX1_addedOrChangedCellOf, "TableSplice") (List.mem_of_getElem? (i := 26) rfl)) (hts (.initialized RX1) (List.mem_of_getElem? (i := 9) rfl)) (by decide +kernel) ⟨Nat.le_of_ble_eq_true rfl, Nat.le_of_ble_eq_true rfl⟩, hts (.instanceMethod yX1_addedOrChangedCellOf) (List.mem_of_getElem? (i := 8) rfl), hts (.selects RX1 yX1_addedOrChangedCellOf yX1_addedOrChangedCellOf) (List.mem_of_getElem? (i := 10) rfl)⟩ (prV hG (hP.sub (ws' := wU cyI (ad 7) (ad 8) (ad 9) zt (ad 1) (ad 2) (ad 3) zb) [7, 8, 9, 1, 2, 3] rfl) (ci := 1) rfl rfl rfl) rfl rfl hl.1 rfl (lv_room (Nat.le_of_ble_eq_true rfl)) dX2_choiceByChanges_25 ⟨Nat.zero_le _, Nat.zero_le _⟩) hS hP (fun H locs hP hS => ?_)
  refine lv_istore (lv' := [(5, .int (f_X1_addedOrChangedCellOf zt zb p1 p2)), (4, .int (f_X1_addedOrChangedCellOf zo zb p1 p2)), (0, .ref (ad 0)), (1, .int p1), (2, .int p2), (3, .int p3)]) hx hb dX2_choiceByChanges_28 hl (by decide) rfl (fun ls hl => ?_)
  refine lv_aload_n hx hb dX2_choiceByChanges_30 rfl (lv_at hl 2 rfl) ?_
  refine va_get (D := D) (ci := 2) (v := .ref (ad 1)) (C := RX2) (T := TX2) (N := 8) hx hb hts uin_X2_choiceByChanges_X2 hown hG.1 hP 0 rfl rfl 0 (by decide) (hts (.fieldLink RX2 10 "TableSplice" "base" "LTableSplice$Table;") (List.mem_of_getElem? (i := 2) rfl)) (fun _ h9 => h9) rfl dX2_choiceByChanges_31 ?_
  refine lv_iload_n hx hb dX2_choiceByChanges_34 rfl (lv_at hl 3 rfl) ?_
  refine lv_iload_n hx hb dX2_choiceByChanges_35 rfl (lv_at hl 4 rfl) ?_
  refine pr_i (va_runVN (As := [.int p1, .int p2]) (rest := []) ⟨hx, hb, hml, hown, hts⟩ (k_X1_cellAt l D cyI cyZ (ad 1) (ad 2) (ad 3) zb p1 p2) ⟨va_cnB 2 hts gX2_choiceByChanges_X1_cellAt_n113 rfl rfl rfl (hG.2.1 (RX2, 113, yX1_cellAt, "TableSplice") (List.mem_of_getElem? (i := 18) rfl)) (hts (.initialized RX1) (List.mem_of_getElem? (i := 9) rfl)) (by decide +kernel) ⟨Nat.le_of_ble_eq_true rfl, Nat.le_of_ble_eq_true rfl⟩, hts (.instanceMethod yX1_cellAt) (List.mem_of_getElem? (i := 31) rfl), hts (.selects RX1 yX1_cellAt yX1_cellAt) (List.mem_of_getElem? (i := 32) rfl)⟩ (prV hG (hP.sub (ws' := wT cyI (ad 1) (ad 2) (ad 3) zb) [1, 2, 3] rfl) (ci := 1) rfl rfl rfl) rfl rfl hl.1 rfl (lv_room (Nat.le_of_ble_eq_true rfl)) dX2_choiceByChanges_36 ⟨Nat.zero_le _, Nat.zero_le _⟩) hS hP (fun H locs hP hS => ?_)
  refine lv_istore (lv' := [(6, .int (f_X1_cellAt zb p1 p2)), (5, .int (f_X1_addedOrChangedCellOf zt zb p1 p2)), (4, .int (f_X1_addedOrChangedCellOf zo zb p1 p2)), (0, .ref (ad 0)), (1, .int p1), (2, .int p2), (3, .int p3)]) hx hb dX2_choiceByChanges_39 hl (by decide) rfl (fun ls hl => ?_)
  refine lv_iload hx hb dX2_choiceByChanges_41 (lv_at hl 2 rfl) ?_
  refine lv_if_eq (tgt := 57) hx hb dX2_choiceByChanges_43 (by decide) (fun c_43 => ?_) (fun c_43 => ?_)
  · refine lv_iload hx hb dX2_choiceByChanges_57 (lv_at hl 1 rfl) ?_
    refine lv_if_eq (tgt := 78) hx hb dX2_choiceByChanges_59 (by decide) (fun c_59 => ?_) (fun c_59 => ?_)
    · refine lv_iload hx hb dX2_choiceByChanges_78 (lv_at hl 1 rfl) ?_
      refine lv_if_eq (tgt := 109) hx hb dX2_choiceByChanges_80 (by decide) (fun c_80 => ?_) (fun c_80 => ?_)
      · refine lv_iload hx hb dX2_choiceByChanges_109 (lv_at hl 0 rfl) ?_
        have ef : f_X2_choiceByChanges zb zo zt p1 p2 p3 = f_X1_cellAt zb p1 p2 := by rw [f_X2_choiceByChanges, if_pos c_43, if_pos c_59]
        exact W.iret (v := f_X1_cellAt zb p1 p2) hx hb hr (fun t ht hW => ⟨⟨f_X1_cellAt zb p1 p2, (), rfl, ef.symm, trivial⟩, hS.F ht⟩) hS.2.2 dX2_choiceByChanges_111
      · exact absurd c_59 c_80
    · refine lv_iload hx hb dX2_choiceByChanges_62 (lv_at hl 2 rfl) ?_
      refine lv_if_ne (tgt := 78) hx hb dX2_choiceByChanges_64 (by decide) (fun c_64 => ?_) (fun c_64 => ?_)
      · exact absurd c_43 c_64
      · refine lv_aload_n hx hb dX2_choiceByChanges_67 rfl (lv_at hl 3 rfl) ?_
        refine va_get (D := D) (ci := 2) (v := .ref (ad 7)) (C := RX2) (T := TX2) (N := 8) hx hb hts uin_X2_choiceByChanges_X2 hown hG.1 hP 0 rfl rfl 2 (by decide) (hts (.fieldLink RX2 19 "TableSplice" "theirs" "LTableSplice$Table;") (List.mem_of_getElem? (i := 3) rfl)) (fun _ h9 => h9) rfl dX2_choiceByChanges_68 ?_
        refine lv_iload_n hx hb dX2_choiceByChanges_71 rfl (lv_at hl 4 rfl) ?_
        refine lv_iload_n hx hb dX2_choiceByChanges_72 rfl (lv_at hl 5 rfl) ?_
        refine pr_i (va_runVN (As := [.int p1, .int p2]) (rest := []) ⟨hx, hb, hml, hown, hts⟩ (k_X1_cellAt l D cyI cyZ (ad 7) (ad 8) (ad 9) zt p1 p2) ⟨va_cnB 2 hts gX2_choiceByChanges_X1_cellAt_n113 rfl rfl rfl (hG.2.1 (RX2, 113, yX1_cellAt, "TableSplice") (List.mem_of_getElem? (i := 18) rfl)) (hts (.initialized RX1) (List.mem_of_getElem? (i := 9) rfl)) (by decide +kernel) ⟨Nat.le_of_ble_eq_true rfl, Nat.le_of_ble_eq_true rfl⟩, hts (.instanceMethod yX1_cellAt) (List.mem_of_getElem? (i := 31) rfl), hts (.selects RX1 yX1_cellAt yX1_cellAt) (List.mem_of_getElem? (i := 32) rfl)⟩ (prV hG (hP.sub (ws' := wT cyI (ad 7) (ad 8) (ad 9) zt) [7, 8, 9] rfl) (ci := 1) rfl rfl rfl) rfl rfl hl.1 rfl (lv_room (Nat.le_of_ble_eq_true rfl)) dX2_choiceByChanges_73 ⟨Nat.zero_le _, Nat.zero_le _⟩) hS hP (fun H locs hP hS => ?_)
        refine lv_istore (lv' := [(6, .int (f_X1_cellAt zt p1 p2)), (5, .int (f_X1_addedOrChangedCellOf zt zb p1 p2)), (4, .int (f_X1_addedOrChangedCellOf zo zb p1 p2)), (0, .ref (ad 0)), (1, .int p1), (2, .int p2), (3, .int p3)]) hx hb dX2_choiceByChanges_76 hl (by decide) rfl (fun ls hl => ?_)
        refine lv_iload hx hb dX2_choiceByChanges_78 (lv_at hl 1 rfl) ?_
        refine lv_if_eq (tgt := 109) hx hb dX2_choiceByChanges_80 (by decide) (fun c_80 => ?_) (fun c_80 => ?_)
        · exact absurd c_80 c_59
        · refine lv_iload hx hb dX2_choiceByChanges_83 (lv_at hl 2 rfl) ?_
          refine lv_if_eq (tgt := 109) hx hb dX2_choiceByChanges_85 (by decide) (fun c_85 => ?_) (fun c_85 => ?_)
          · refine lv_iload hx hb dX2_choiceByChanges_109 (lv_at hl 0 rfl) ?_
            have ef : f_X2_choiceByChanges zb zo zt p1 p2 p3 = f_X1_cellAt zt p1 p2 := by rw [f_X2_choiceByChanges, if_pos c_43, if_neg c_59]
            exact W.iret (v := f_X1_cellAt zt p1 p2) hx hb hr (fun t ht hW => ⟨⟨f_X1_cellAt zt p1 p2, (), rfl, ef.symm, trivial⟩, hS.F ht⟩) hS.2.2 dX2_choiceByChanges_111
          · exact absurd c_43 c_85
  · refine lv_aload_n hx hb dX2_choiceByChanges_46 rfl (lv_at hl 3 rfl) ?_
    refine va_get (D := D) (ci := 2) (v := .ref (ad 4)) (C := RX2) (T := TX2) (N := 8) hx hb hts uin_X2_choiceByChanges_X2 hown hG.1 hP 0 rfl rfl 1 (by decide) (hts (.fieldLink RX2 16 "TableSplice" "ours" "LTableSplice$Table;") (List.mem_of_getElem? (i := 1) rfl)) (fun _ h9 => h9) rfl dX2_choiceByChanges_47 ?_
    refine lv_iload_n hx hb dX2_choiceByChanges_50 rfl (lv_at hl 4 rfl) ?_
    refine lv_iload_n hx hb dX2_choiceByChanges_51 rfl (lv_at hl 5 rfl) ?_
    refine pr_i (va_runVN (As := [.int p1, .int p2]) (rest := []) ⟨hx, hb, hml, hown, hts⟩ (k_X1_cellAt l D cyI cyZ (ad 4) (ad 5) (ad 6) zo p1 p2) ⟨va_cnB 2 hts gX2_choiceByChanges_X1_cellAt_n113 rfl rfl rfl (hG.2.1 (RX2, 113, yX1_cellAt, "TableSplice") (List.mem_of_getElem? (i := 18) rfl)) (hts (.initialized RX1) (List.mem_of_getElem? (i := 9) rfl)) (by decide +kernel) ⟨Nat.le_of_ble_eq_true rfl, Nat.le_of_ble_eq_true rfl⟩, hts (.instanceMethod yX1_cellAt) (List.mem_of_getElem? (i := 31) rfl), hts (.selects RX1 yX1_cellAt yX1_cellAt) (List.mem_of_getElem? (i := 32) rfl)⟩ (prV hG (hP.sub (ws' := wT cyI (ad 4) (ad 5) (ad 6) zo) [4, 5, 6] rfl) (ci := 1) rfl rfl rfl) rfl rfl hl.1 rfl (lv_room (Nat.le_of_ble_eq_true rfl)) dX2_choiceByChanges_52 ⟨Nat.zero_le _, Nat.zero_le _⟩) hS hP (fun H locs hP hS => ?_)
    refine lv_istore (lv' := [(6, .int (f_X1_cellAt zo p1 p2)), (5, .int (f_X1_addedOrChangedCellOf zt zb p1 p2)), (4, .int (f_X1_addedOrChangedCellOf zo zb p1 p2)), (0, .ref (ad 0)), (1, .int p1), (2, .int p2), (3, .int p3)]) hx hb dX2_choiceByChanges_55 hl (by decide) rfl (fun ls hl => ?_)
    refine lv_iload hx hb dX2_choiceByChanges_57 (lv_at hl 1 rfl) ?_
    refine lv_if_eq (tgt := 78) hx hb dX2_choiceByChanges_59 (by decide) (fun c_59 => ?_) (fun c_59 => ?_)
    · refine lv_iload hx hb dX2_choiceByChanges_78 (lv_at hl 1 rfl) ?_
      refine lv_if_eq (tgt := 109) hx hb dX2_choiceByChanges_80 (by decide) (fun c_80 => ?_) (fun c_80 => ?_)
      · refine lv_iload hx hb dX2_choiceByChanges_109 (lv_at hl 0 rfl) ?_
        have ef : f_X2_choiceByChanges zb zo zt p1 p2 p3 = f_X1_cellAt zo p1 p2 := by rw [f_X2_choiceByChanges, if_neg c_43, if_pos c_59]
        exact W.iret (v := f_X1_cellAt zo p1 p2) hx hb hr (fun t ht hW => ⟨⟨f_X1_cellAt zo p1 p2, (), rfl, ef.symm, trivial⟩, hS.F ht⟩) hS.2.2 dX2_choiceByChanges_111
      · exact absurd c_59 c_80
    · refine lv_iload hx hb dX2_choiceByChanges_62 (lv_at hl 2 rfl) ?_
      refine lv_if_ne (tgt := 78) hx hb dX2_choiceByChanges_64 (by decide) (fun c_64 => ?_) (fun c_64 => ?_)
      · refine lv_iload hx hb dX2_choiceByChanges_78 (lv_at hl 1 rfl) ?_
        refine lv_if_eq (tgt := 109) hx hb dX2_choiceByChanges_80 (by decide) (fun c_80 => ?_) (fun c_80 => ?_)
        · exact absurd c_80 c_59
        · refine lv_iload hx hb dX2_choiceByChanges_83 (lv_at hl 2 rfl) ?_
          refine lv_if_eq (tgt := 109) hx hb dX2_choiceByChanges_85 (by decide) (fun c_85 => ?_) (fun c_85 => ?_)
          · exact absurd c_85 c_43
          · refine lv_iload_n hx hb dX2_choiceByChanges_88 rfl (lv_at hl 6 rfl) ?_
            refine lv_iconst (v := 2) hx hb dX2_choiceByChanges_89 (by decide) ?_
            refine lv_icmp_ne (tgt := 109) hx hb dX2_choiceByChanges_90 (by decide) (fun c_90 => ?_) (fun c_90 => ?_)
            · refine lv_iload hx hb dX2_choiceByChanges_109 (lv_at hl 0 rfl) ?_
              have ef : f_X2_choiceByChanges zb zo zt p1 p2 p3 = f_X1_cellAt zo p1 p2 := by rw [f_X2_choiceByChanges, if_neg c_43, if_neg c_59, if_neg c_90]
              exact W.iret (v := f_X1_cellAt zo p1 p2) hx hb hr (fun t ht hW => ⟨⟨f_X1_cellAt zo p1 p2, (), rfl, ef.symm, trivial⟩, hS.F ht⟩) hS.2.2 dX2_choiceByChanges_111
            · refine lv_iload hx hb dX2_choiceByChanges_93 (lv_at hl 0 rfl) ?_
              refine lv_aload_n hx hb dX2_choiceByChanges_95 rfl (lv_at hl 3 rfl) ?_
              refine va_get (D := D) (ci := 2) (v := .ref (ad 7)) (C := RX2) (T := TX2) (N := 8) hx hb hts uin_X2_choiceByChanges_X2 hown hG.1 hP 0 rfl rfl 2 (by decide) (hts (.fieldLink RX2 19 "TableSplice" "theirs" "LTableSplice$Table;") (List.mem_of_getElem? (i := 3) rfl)) (fun _ h9 => h9) rfl dX2_choiceByChanges_96 ?_
              refine lv_iload_n hx hb dX2_choiceByChanges_99 rfl (lv_at hl 4 rfl) ?_
              refine lv_iload_n hx hb dX2_choiceByChanges_100 rfl (lv_at hl 5 rfl) ?_
              refine pr_i (va_runVN (As := [.int p1, .int p2]) (rest := [.int (f_X1_cellAt zo p1 p2)]) ⟨hx, hb, hml, hown, hts⟩ (k_X1_cellAt l D cyI cyZ (ad 7) (ad 8) (ad 9) zt p1 p2) ⟨va_cnB 2 hts gX2_choiceByChanges_X1_cellAt_n113 rfl rfl rfl (hG.2.1 (RX2, 113, yX1_cellAt, "TableSplice") (List.mem_of_getElem? (i := 18) rfl)) (hts (.initialized RX1) (List.mem_of_getElem? (i := 9) rfl)) (by decide +kernel) ⟨Nat.le_of_ble_eq_true rfl, Nat.le_of_ble_eq_true rfl⟩, hts (.instanceMethod yX1_cellAt) (List.mem_of_getElem? (i := 31) rfl), hts (.selects RX1 yX1_cellAt yX1_cellAt) (List.mem_of_getElem? (i := 32) rfl)⟩ (prV hG (hP.sub (ws' := wT cyI (ad 7) (ad 8) (ad 9) zt) [7, 8, 9] rfl) (ci := 1) rfl rfl rfl) rfl rfl hl.1 rfl (lv_room (Nat.le_of_ble_eq_true rfl)) dX2_choiceByChanges_101 ⟨Nat.zero_le _, Nat.zero_le _⟩) hS hP (fun H locs hP hS => ?_)
              refine va_mmax (rest := []) hx hb (hml.trans hl.1.symm) hown (hts (.methodLink RX2 289 Lib.Math.max.name) (List.mem_of_getElem? (i := 4) rfl)) (hts (.static Lib.Math.max.name) (List.mem_of_getElem? (i := 5) rfl)) (hts (.initialized "java/lang/Math") (List.mem_of_getElem? (i := 6) rfl)) (hts (.code Lib.Math.max.name Lib.Math.max.code 2 (some .int)) (List.mem_of_getElem? (i := 7) rfl)) (Nat.le_of_ble_eq_true rfl) (Nat.le_of_ble_eq_true rfl) (Nat.zero_le _) (Nat.zero_le _) dX2_choiceByChanges_104 ?_
              refine lv_istore (lv' := [(6, .int (if (f_X1_cellAt zo p1 p2) < (f_X1_cellAt zt p1 p2) then (f_X1_cellAt zt p1 p2) else (f_X1_cellAt zo p1 p2))), (5, .int (f_X1_addedOrChangedCellOf zt zb p1 p2)), (4, .int (f_X1_addedOrChangedCellOf zo zb p1 p2)), (0, .ref (ad 0)), (1, .int p1), (2, .int p2), (3, .int p3)]) hx hb dX2_choiceByChanges_107 hl (by decide) rfl (fun ls hl => ?_)
              refine lv_iload hx hb dX2_choiceByChanges_109 (lv_at hl 0 rfl) ?_
              have ef : f_X2_choiceByChanges zb zo zt p1 p2 p3 = if (f_X1_cellAt zo p1 p2) < (f_X1_cellAt zt p1 p2) then (f_X1_cellAt zt p1 p2) else (f_X1_cellAt zo p1 p2) := by rw [f_X2_choiceByChanges, if_neg c_43, if_neg c_59, if_pos c_90]
              exact W.iret (v := if (f_X1_cellAt zo p1 p2) < (f_X1_cellAt zt p1 p2) then (f_X1_cellAt zt p1 p2) else (f_X1_cellAt zo p1 p2)) hx hb hr (fun t ht hW => ⟨⟨if (f_X1_cellAt zo p1 p2) < (f_X1_cellAt zt p1 p2) then (f_X1_cellAt zt p1 p2) else (f_X1_cellAt zo p1 p2), (), rfl, ef.symm, trivial⟩, hS.F ht⟩) hS.2.2 dX2_choiceByChanges_111
      · exact absurd c_64 c_43
def f_X2_cellByChanges (zb : Tr) (zo : Tr) (zt : Tr) (zu : Nat → Int32) (p1 : Int32) (p2 : Int32) : Int32 := if (f_X2_requireKey_x p1) = 0 then (if (f_X2_requireColumnNumber_x p2) = 0 then (if (f_X2_rowStaysByChanges zb zo zt p1) = 0 then 0 else (if (f_X2_columnStaysByChanges zb zo zt p2) = 0 then 0 else (if (f_X1_hasCell zo p1 p2) = 0 then (if (f_X1_hasCell zt p1 p2) = 0 then 0 else (if (zu (p2).toNatClampNeg) = 3 then f_X2_sumByChanges zb zo zt p1 p2 else f_X2_choiceByChanges zb zo zt p1 p2 (zu (p2).toNatClampNeg))) else (if (zu (p2).toNatClampNeg) = 3 then f_X2_sumByChanges zb zo zt p1 p2 else f_X2_choiceByChanges zb zo zt p1 p2 (zu (p2).toNatClampNeg))))) else (0)) else (0)
theorem uin_X2_cellByChanges_X2 : ∀ w ∈ wsX20, w ∈ wsX2_cellByChanges := fun _ h => List.mem_cons_of_mem _ (List.mem_append_left _ (List.mem_append_left _ (List.mem_append_right _ h)))
theorem uin_X2_cellByChanges_X1 : ∀ w ∈ wsX10, w ∈ wsX2_cellByChanges := fun _ h => List.mem_cons_of_mem _ (List.mem_append_left _ (List.mem_append_right _ h))
def f_X2_cellByChanges_x (zb : Tr) (zo : Tr) (zt : Tr) (zu : Nat → Int32) (p1 : Int32) (p2 : Int32) : Nat := if (f_X2_requireKey_x p1) = 0 then (if (f_X2_requireColumnNumber_x p2) = 0 then (if (f_X2_rowStaysByChanges zb zo zt p1) = 0 then 0 else (if (f_X2_columnStaysByChanges zb zo zt p2) = 0 then 0 else (if (f_X1_hasCell zo p1 p2) = 0 then (if (f_X1_hasCell zt p1 p2) = 0 then 0 else (if (zu (p2).toNatClampNeg) = 3 then 0 else 0)) else (if (zu (p2).toNatClampNeg) = 3 then 0 else 0)))) else (f_X2_requireColumnNumber_x p2)) else (f_X2_requireKey_x p1)
theorem xin_X2_cellByChanges_IO : ∀ w ∈ (vx_atS RX2 224 "java/lang/IndexOutOfBoundsException" ["java/lang/RuntimeException", "java/lang/Exception"]).filter goodWord, w ∈ wsX2_cellByChanges := fun _ h => List.mem_cons_of_mem _ (List.mem_append_right _ h)
set_option maxHeartbeats 4000000 in
set_option maxRecDepth 100000 in
theorem k_X2_cellByChanges (l : Launch) (D : va_G) (cyI cyZ : ClassId) (ad : Nat → Nat) (zb : Tr) (zo : Tr) (zt : Tr) (zm : Tr) (zu : Nat → Int32) (zr : Nat → Int32) (zl : Lr) (zf : Int32) (p1 : Int32) (p2 : Int32) (hx9 : f_X2_cellByChanges_x zb zo zt zu p1 p2 = 0) : Met l yX2_cellByChanges wsX2_cellByChanges ({ frames := 6, cells := 0, slots := 0, locals := 137 } : Room) (pcP D cyI cyZ [.ref (ad 0), .int p1, .int p2] (wZ cyI cyZ ad zb zo zt zm zu zr zl zf)) (qI (f_X2_cellByChanges zb zo zt zu p1 p2)) 0 0 nA := by
  refine Met.ofW (cc := cX2_cellByChanges) (maxL := 3) (ret := (some .int)) (by decide) rfl ?_
  intro p e s m args below meth c s₁ B hml hv
  obtain ⟨rfl, hP, hG⟩ := hv
  have hx := B.exec
  have hb := B.bytes
  have hr := B.returns
  have hts := atoms_spec (ws := wsX2_cellByChanges) B.pre
  have hown : s.vm.findClass RX2 = some m.cls := findClass_of_methodNamed B.named
  have hlocks := B.notSynchronized
  have hS : va_S nA s.heap s.heap [] := va_S.rf
  have hl := lv_entry ([.ref (ad 0), .int p1, .int p2]) (n := 3) (Nat.le_of_ble_eq_true rfl)
  rw [lg_entry_eq]
  generalize (lg_sl ([.ref (ad 0), .int p1, .int p2]) ++ List.replicate (3 - (lg_sl ([.ref (ad 0), .int p1, .int p2])).length) Slot.unset).toArray = ls at hl ⊢
  have hl : lv_has ls 3 [(0, .ref (ad 0)), (1, .int p1), (2, .int p2)] := hl
  have hP : va_P D vwCl (wZ cyI cyZ ad zb zo zt zm zu zr zl zf) s.heap := hP
  refine lv_iload_n hx hb dX2_cellByChanges_0 rfl (lv_at hl 1 rfl) ?_
  by_cases c_1 : (f_X2_requireKey_x p1) = 0
  · refine pr_v (va_runS (As := [.int p1]) (rest := []) ⟨hx, hb, hml, hown, hts⟩ (k_X2_requireKey l D cyI cyZ p1 c_1) (va_cwS 1 hts gX2_cellByChanges_X2_requireKey rfl rfl rfl (by decide +kernel) ⟨Nat.le_of_ble_eq_true rfl, Nat.le_of_ble_eq_true rfl⟩) (prS hG (hP.sub (ws' := []) [] rfl)) rfl rfl hl.1 rfl (lv_room (Nat.le_of_ble_eq_true rfl)) dX2_cellByChanges_1 ⟨Nat.zero_le _, Nat.zero_le _⟩) hS hP (fun H locs hP hS => ?_)
    refine lv_iload_n hx hb dX2_cellByChanges_4 rfl (lv_at hl 2 rfl) ?_
    by_cases c_5 : (f_X2_requireColumnNumber_x p2) = 0
    · refine pr_v (va_runS (As := [.int p2]) (rest := []) ⟨hx, hb, hml, hown, hts⟩ (k_X2_requireColumnNumber l D cyI cyZ p2 c_5) (va_cwS 1 hts gX2_cellByChanges_X2_requireColumnNumber rfl rfl rfl (by decide +kernel) ⟨Nat.le_of_ble_eq_true rfl, Nat.le_of_ble_eq_true rfl⟩) (prS hG (hP.sub (ws' := []) [] rfl)) rfl rfl hl.1 rfl (lv_room (Nat.le_of_ble_eq_true rfl)) dX2_cellByChanges_5 ⟨Nat.zero_le _, Nat.zero_le _⟩) hS hP (fun H locs hP hS => ?_)
      refine lv_aload_n hx hb dX2_cellByChanges_8 rfl (lv_at hl 0 rfl) ?_
      refine lv_iload_n hx hb dX2_cellByChanges_9 rfl (lv_at hl 1 rfl) ?_
      refine pr_i (va_runV (As := [.int p1]) (rest := []) ⟨hx, hb, hml, hown, hts⟩ (k_X2_rowStaysByChanges l D cyI cyZ ad zb zo zt zm zu zr zl zf p1) (cwV 1 hts gX2_cellByChanges_X2_rowStaysByChanges rfl rfl rfl (by decide +kernel) ⟨Nat.le_of_ble_eq_true rfl, Nat.le_of_ble_eq_true rfl⟩) (prV hG hP (ci := 2) rfl rfl rfl) rfl rfl hl.1 rfl (lv_room (Nat.le_of_ble_eq_true rfl)) dX2_cellByChanges_10 ⟨Nat.zero_le _, Nat.zero_le _⟩) hS hP (fun H locs hP hS => ?_)
      refine lv_if_eq (tgt := 24) hx hb dX2_cellByChanges_13 (by decide) (fun c_13 => ?_) (fun c_13 => ?_)
      · refine lv_iconst (v := 0) hx hb dX2_cellByChanges_24 (by decide) ?_
        have ef : f_X2_cellByChanges zb zo zt zu p1 p2 = 0 := by rw [f_X2_cellByChanges, if_pos c_1, if_pos c_5, if_pos c_13]
        exact W.iret (v := 0) hx hb hr (fun t ht hW => ⟨⟨0, (), rfl, ef.symm, trivial⟩, hS.F ht⟩) hS.2.2 dX2_cellByChanges_25
      · refine lv_aload_n hx hb dX2_cellByChanges_16 rfl (lv_at hl 0 rfl) ?_
        refine lv_iload_n hx hb dX2_cellByChanges_17 rfl (lv_at hl 2 rfl) ?_
        refine pr_i (va_runV (As := [.int p2]) (rest := []) ⟨hx, hb, hml, hown, hts⟩ (k_X2_columnStaysByChanges l D cyI cyZ ad zb zo zt zm zu zr zl zf p2) (cwV 1 hts gX2_cellByChanges_X2_columnStaysByChanges rfl rfl rfl (by decide +kernel) ⟨Nat.le_of_ble_eq_true rfl, Nat.le_of_ble_eq_true rfl⟩) (prV hG hP (ci := 2) rfl rfl rfl) rfl rfl hl.1 rfl (lv_room (Nat.le_of_ble_eq_true rfl)) dX2_cellByChanges_18 ⟨Nat.zero_le _, Nat.zero_le _⟩) hS hP (fun H locs hP hS => ?_)
        refine lv_if_ne (tgt := 26) hx hb dX2_cellByChanges_21 (by decide) (fun c_21 => ?_) (fun c_21 => ?_)
        · refine lv_aload_n hx hb dX2_cellByChanges_26 rfl (lv_at hl 0 rfl) ?_
          refine va_get (D := D) (ci := 2) (v := .ref (ad 4)) (C := RX2) (T := TX2) (N := 8) hx hb hts uin_X2_cellByChanges_X2 hown hG.1 hP 0 rfl rfl 1 (by decide) (hts (.fieldLink RX2 16 "TableSplice" "ours" "LTableSplice$Table;") (List.mem_of_getElem? (i := 1) rfl)) (fun _ h9 => h9) rfl dX2_cellByChanges_27 ?_
          refine lv_iload_n hx hb dX2_cellByChanges_30 rfl (lv_at hl 1 rfl) ?_
          refine lv_iload_n hx hb dX2_cellByChanges_31 rfl (lv_at hl 2 rfl) ?_
          refine pr_i (va_runVN (As := [.int p1, .int p2]) (rest := []) ⟨hx, hb, hml, hown, hts⟩ (k_X1_hasCell l D cyI cyZ (ad 4) (ad 5) (ad 6) zo p1 p2) ⟨va_cnB 2 hts gX2_cellByChanges_X1_hasCell_n185 rfl rfl rfl (hG.2.1 (RX2, 185, yX1_hasCell, "TableSplice") (List.mem_of_getElem? (i := 17) rfl)) (hts (.initialized RX1) (List.mem_of_getElem? (i := 25) rfl)) (by decide +kernel) ⟨Nat.le_of_ble_eq_true rfl, Nat.le_of_ble_eq_true rfl⟩, hts (.instanceMethod yX1_hasCell) (List.mem_of_getElem? (i := 42) rfl), hts (.selects RX1 yX1_hasCell yX1_hasCell) (List.mem_of_getElem? (i := 43) rfl)⟩ (prV hG (hP.sub (ws' := wT cyI (ad 4) (ad 5) (ad 6) zo) [4, 5, 6] rfl) (ci := 1) rfl rfl rfl) rfl rfl hl.1 rfl (lv_room (Nat.le_of_ble_eq_true rfl)) dX2_cellByChanges_32 ⟨Nat.zero_le _, Nat.zero_le _⟩) hS hP (fun H locs hP hS => ?_)
          refine lv_if_ne (tgt := 52) hx hb dX2_cellByChanges_35 (by decide) (fun c_35 => ?_) (fun c_35 => ?_)
          · refine lv_aload_n hx hb dX2_cellByChanges_52 rfl (lv_at hl 0 rfl) ?_
            refine va_get (D := D) (ci := 2) (v := .ref (ad 13)) (C := RX2) (T := TX2) (N := 8) hx hb hts uin_X2_cellByChanges_X2 hown hG.1 hP 0 rfl rfl 4 (by decide) (hts (.fieldLink RX2 25 "TableSplice" "rules" "[I") (List.mem_of_getElem? (i := 3) rfl)) (fun _ h9 => h9) rfl dX2_cellByChanges_53 ?_
            refine lv_iload_n hx hb dX2_cellByChanges_56 rfl (lv_at hl 2 rfl) ?_
            refine va_iald hx hb hG.1 hP 13 0 rfl rfl (in_reqcol c_5) dX2_cellByChanges_57 ?_
            refine lv_iconst (v := 3) hx hb dX2_cellByChanges_58 (by decide) ?_
            refine lv_icmp_ne (tgt := 71) hx hb dX2_cellByChanges_59 (by decide) (fun c_59 => ?_) (fun c_59 => ?_)
            · refine lv_aload_n hx hb dX2_cellByChanges_71 rfl (lv_at hl 0 rfl) ?_
              refine lv_iload_n hx hb dX2_cellByChanges_72 rfl (lv_at hl 1 rfl) ?_
              refine lv_iload_n hx hb dX2_cellByChanges_73 rfl (lv_at hl 2 rfl) ?_
              refine lv_aload_n hx hb dX2_cellByChanges_74 rfl (lv_at hl 0 rfl) ?_
              refine va_get (D := D) (ci := 2) (v := .ref (ad 13)) (C := RX2) (T := TX2) (N := 8) hx hb hts uin_X2_cellByChanges_X2 hown hG.1 hP 0 rfl rfl 4 (by decide) (hts (.fieldLink RX2 25 "TableSplice" "rules" "[I") (List.mem_of_getElem? (i := 3) rfl)) (fun _ h9 => h9) rfl dX2_cellByChanges_75 ?_
              refine lv_iload_n hx hb dX2_cellByChanges_78 rfl (lv_at hl 2 rfl) ?_
              refine va_iald hx hb hG.1 hP 13 0 rfl rfl (in_reqcol c_5) dX2_cellByChanges_79 ?_
              refine pr_i (va_runV (As := [.int p1, .int p2, .int (zu (p2).toNatClampNeg)]) (rest := []) ⟨hx, hb, hml, hown, hts⟩ (k_X2_choiceByChanges l D cyI cyZ ad zb zo zt zm zu zr zl zf p1 p2 (zu (p2).toNatClampNeg)) (cwV 3 hts gX2_cellByChanges_X2_choiceByChanges rfl rfl rfl (by decide +kernel) ⟨Nat.le_of_ble_eq_true rfl, Nat.le_of_ble_eq_true rfl⟩) (prV hG hP (ci := 2) rfl rfl rfl) rfl rfl hl.1 rfl (lv_room (Nat.le_of_ble_eq_true rfl)) dX2_cellByChanges_80 ⟨Nat.zero_le _, Nat.zero_le _⟩) hS hP (fun H locs hP hS => ?_)
              have ef : f_X2_cellByChanges zb zo zt zu p1 p2 = f_X2_choiceByChanges zb zo zt p1 p2 (zu (p2).toNatClampNeg) := by rw [f_X2_cellByChanges, if_pos c_1, if_pos c_5, if_neg c_13, if_neg c_21, if_neg c_35, if_neg c_59]
              exact W.iret (v := f_X2_choiceByChanges zb zo zt p1 p2 (zu (p2).toNatClampNeg)) hx hb hr (fun t ht hW => ⟨⟨f_X2_choiceByChanges zb zo zt p1 p2 (zu (p2).toNatClampNeg), (), rfl, ef.symm, trivial⟩, hS.F ht⟩) hS.2.2 dX2_cellByChanges_83
            · refine lv_aload_n hx hb dX2_cellByChanges_62 rfl (lv_at hl 0 rfl) ?_
              refine lv_iload_n hx hb dX2_cellByChanges_63 rfl (lv_at hl 1 rfl) ?_
              refine lv_iload_n hx hb dX2_cellByChanges_64 rfl (lv_at hl 2 rfl) ?_
              refine pr_i (va_runV (As := [.int p1, .int p2]) (rest := []) ⟨hx, hb, hml, hown, hts⟩ (k_X2_sumByChanges l D cyI cyZ ad zb zo zt zm zu zr zl zf p1 p2) (cwV 2 hts gX2_cellByChanges_X2_sumByChanges rfl rfl rfl (by decide +kernel) ⟨Nat.le_of_ble_eq_true rfl, Nat.le_of_ble_eq_true rfl⟩) (prV hG hP (ci := 2) rfl rfl rfl) rfl rfl hl.1 rfl (lv_room (Nat.le_of_ble_eq_true rfl)) dX2_cellByChanges_65 ⟨Nat.zero_le _, Nat.zero_le _⟩) hS hP (fun H locs hP hS => ?_)
              refine lv_goto (tgt := 83) hx hb dX2_cellByChanges_68 (by decide) ?_
              have ef : f_X2_cellByChanges zb zo zt zu p1 p2 = f_X2_sumByChanges zb zo zt p1 p2 := by rw [f_X2_cellByChanges, if_pos c_1, if_pos c_5, if_neg c_13, if_neg c_21, if_neg c_35, if_pos c_59]
              exact W.iret (v := f_X2_sumByChanges zb zo zt p1 p2) hx hb hr (fun t ht hW => ⟨⟨f_X2_sumByChanges zb zo zt p1 p2, (), rfl, ef.symm, trivial⟩, hS.F ht⟩) hS.2.2 dX2_cellByChanges_83
          · refine lv_aload_n hx hb dX2_cellByChanges_38 rfl (lv_at hl 0 rfl) ?_
            refine va_get (D := D) (ci := 2) (v := .ref (ad 7)) (C := RX2) (T := TX2) (N := 8) hx hb hts uin_X2_cellByChanges_X2 hown hG.1 hP 0 rfl rfl 2 (by decide) (hts (.fieldLink RX2 19 "TableSplice" "theirs" "LTableSplice$Table;") (List.mem_of_getElem? (i := 2) rfl)) (fun _ h9 => h9) rfl dX2_cellByChanges_39 ?_
            refine lv_iload_n hx hb dX2_cellByChanges_42 rfl (lv_at hl 1 rfl) ?_
            refine lv_iload_n hx hb dX2_cellByChanges_43 rfl (lv_at hl 2 rfl) ?_
            refine pr_i (va_runVN (As := [.int p1, .int p2]) (rest := []) ⟨hx, hb, hml, hown, hts⟩ (k_X1_hasCell l D cyI cyZ (ad 7) (ad 8) (ad 9) zt p1 p2) ⟨va_cnB 2 hts gX2_cellByChanges_X1_hasCell_n185 rfl rfl rfl (hG.2.1 (RX2, 185, yX1_hasCell, "TableSplice") (List.mem_of_getElem? (i := 17) rfl)) (hts (.initialized RX1) (List.mem_of_getElem? (i := 25) rfl)) (by decide +kernel) ⟨Nat.le_of_ble_eq_true rfl, Nat.le_of_ble_eq_true rfl⟩, hts (.instanceMethod yX1_hasCell) (List.mem_of_getElem? (i := 42) rfl), hts (.selects RX1 yX1_hasCell yX1_hasCell) (List.mem_of_getElem? (i := 43) rfl)⟩ (prV hG (hP.sub (ws' := wT cyI (ad 7) (ad 8) (ad 9) zt) [7, 8, 9] rfl) (ci := 1) rfl rfl rfl) rfl rfl hl.1 rfl (lv_room (Nat.le_of_ble_eq_true rfl)) dX2_cellByChanges_44 ⟨Nat.zero_le _, Nat.zero_le _⟩) hS hP (fun H locs hP hS => ?_)
            refine lv_if_ne (tgt := 52) hx hb dX2_cellByChanges_47 (by decide) (fun c_47 => ?_) (fun c_47 => ?_)
            · refine lv_aload_n hx hb dX2_cellByChanges_52 rfl (lv_at hl 0 rfl) ?_
              refine va_get (D := D) (ci := 2) (v := .ref (ad 13)) (C := RX2) (T := TX2) (N := 8) hx hb hts uin_X2_cellByChanges_X2 hown hG.1 hP 0 rfl rfl 4 (by decide) (hts (.fieldLink RX2 25 "TableSplice" "rules" "[I") (List.mem_of_getElem? (i := 3) rfl)) (fun _ h9 => h9) rfl dX2_cellByChanges_53 ?_
              refine lv_iload_n hx hb dX2_cellByChanges_56 rfl (lv_at hl 2 rfl) ?_
              refine va_iald hx hb hG.1 hP 13 0 rfl rfl (in_reqcol c_5) dX2_cellByChanges_57 ?_
              refine lv_iconst (v := 3) hx hb dX2_cellByChanges_58 (by decide) ?_
              refine lv_icmp_ne (tgt := 71) hx hb dX2_cellByChanges_59 (by decide) (fun c_59 => ?_) (fun c_59 => ?_)
              · refine lv_aload_n hx hb dX2_cellByChanges_71 rfl (lv_at hl 0 rfl) ?_
                refine lv_iload_n hx hb dX2_cellByChanges_72 rfl (lv_at hl 1 rfl) ?_
                refine lv_iload_n hx hb dX2_cellByChanges_73 rfl (lv_at hl 2 rfl) ?_
                refine lv_aload_n hx hb dX2_cellByChanges_74 rfl (lv_at hl 0 rfl) ?_
                refine va_get (D := D) (ci := 2) (v := .ref (ad 13)) (C := RX2) (T := TX2) (N := 8) hx hb hts uin_X2_cellByChanges_X2 hown hG.1 hP 0 rfl rfl 4 (by decide) (hts (.fieldLink RX2 25 "TableSplice" "rules" "[I") (List.mem_of_getElem? (i := 3) rfl)) (fun _ h9 => h9) rfl dX2_cellByChanges_75 ?_
                refine lv_iload_n hx hb dX2_cellByChanges_78 rfl (lv_at hl 2 rfl) ?_
                refine va_iald hx hb hG.1 hP 13 0 rfl rfl (in_reqcol c_5) dX2_cellByChanges_79 ?_
                refine pr_i (va_runV (As := [.int p1, .int p2, .int (zu (p2).toNatClampNeg)]) (rest := []) ⟨hx, hb, hml, hown, hts⟩ (k_X2_choiceByChanges l D cyI cyZ ad zb zo zt zm zu zr zl zf p1 p2 (zu (p2).toNatClampNeg)) (cwV 3 hts gX2_cellByChanges_X2_choiceByChanges rfl rfl rfl (by decide +kernel) ⟨Nat.le_of_ble_eq_true rfl, Nat.le_of_ble_eq_true rfl⟩) (prV hG hP (ci := 2) rfl rfl rfl) rfl rfl hl.1 rfl (lv_room (Nat.le_of_ble_eq_true rfl)) dX2_cellByChanges_80 ⟨Nat.zero_le _, Nat.zero_le _⟩) hS hP (fun H locs hP hS => ?_)
                have ef : f_X2_cellByChanges zb zo zt zu p1 p2 = f_X2_choiceByChanges zb zo zt p1 p2 (zu (p2).toNatClampNeg) := by rw [f_X2_cellByChanges, if_pos c_1, if_pos c_5, if_neg c_13, if_neg c_21, if_pos c_35, if_neg c_47, if_neg c_59]
                exact W.iret (v := f_X2_choiceByChanges zb zo zt p1 p2 (zu (p2).toNatClampNeg)) hx hb hr (fun t ht hW => ⟨⟨f_X2_choiceByChanges zb zo zt p1 p2 (zu (p2).toNatClampNeg), (), rfl, ef.symm, trivial⟩, hS.F ht⟩) hS.2.2 dX2_cellByChanges_83
              · refine lv_aload_n hx hb dX2_cellByChanges_62 rfl (lv_at hl 0 rfl) ?_
                refine lv_iload_n hx hb dX2_cellByChanges_63 rfl (lv_at hl 1 rfl) ?_
                refine lv_iload_n hx hb dX2_cellByChanges_64 rfl (lv_at hl 2 rfl) ?_
                refine pr_i (va_runV (As := [.int p1, .int p2]) (rest := []) ⟨hx, hb, hml, hown, hts⟩ (k_X2_sumByChanges l D cyI cyZ ad zb zo zt zm zu zr zl zf p1 p2) (cwV 2 hts gX2_cellByChanges_X2_sumByChanges rfl rfl rfl (by decide +kernel) ⟨Nat.le_of_ble_eq_true rfl, Nat.le_of_ble_eq_true rfl⟩) (prV hG hP (ci := 2) rfl rfl rfl) rfl rfl hl.1 rfl (lv_room (Nat.le_of_ble_eq_true rfl)) dX2_cellByChanges_65 ⟨Nat.zero_le _, Nat.zero_le _⟩) hS hP (fun H locs hP hS => ?_)
                refine lv_goto (tgt := 83) hx hb dX2_cellByChanges_68 (by decide) ?_
                have ef : f_X2_cellByChanges zb zo zt zu p1 p2 = f_X2_sumByChanges zb zo zt p1 p2 := by rw [f_X2_cellByChanges, if_pos c_1, if_pos c_5, if_neg c_13, if_neg c_21, if_pos c_35, if_neg c_47, if_pos c_59]
                exact W.iret (v := f_X2_sumByChanges zb zo zt p1 p2) hx hb hr (fun t ht hW => ⟨⟨f_X2_sumByChanges zb zo zt p1 p2, (), rfl, ef.symm, trivial⟩, hS.F ht⟩) hS.2.2 dX2_cellByChanges_83
            · refine lv_iconst (v := 0) hx hb dX2_cellByChanges_50 (by decide) ?_
              have ef : f_X2_cellByChanges zb zo zt zu p1 p2 = 0 := by rw [f_X2_cellByChanges, if_pos c_1, if_pos c_5, if_neg c_13, if_neg c_21, if_pos c_35, if_pos c_47]
              exact W.iret (v := 0) hx hb hr (fun t ht hW => ⟨⟨0, (), rfl, ef.symm, trivial⟩, hS.F ht⟩) hS.2.2 dX2_cellByChanges_51
        · refine lv_iconst (v := 0) hx hb dX2_cellByChanges_24 (by decide) ?_
          have ef : f_X2_cellByChanges zb zo zt zu p1 p2 = 0 := by rw [f_X2_cellByChanges, if_pos c_1, if_pos c_5, if_neg c_13, if_pos c_21]
          exact W.iret (v := 0) hx hb hr (fun t ht hW => ⟨⟨0, (), rfl, ef.symm, trivial⟩, hS.F ht⟩) hS.2.2 dX2_cellByChanges_25
    · exact absurd hx9 (by rw [f_X2_cellByChanges_x, if_pos c_1, if_neg c_5]; exact c_5)
  · exact absurd hx9 (by rw [f_X2_cellByChanges_x, if_neg c_1]; exact c_1)
set_option maxHeartbeats 4000000 in
set_option maxRecDepth 100000 in
theorem t_X2_cellByChanges (l : Launch) (hlt : l.stackTraces = false) (D : va_G) (cyI cyZ : ClassId) (ad : Nat → Nat) (zb : Tr) (zo : Tr) (zt : Tr) (zm : Tr) (zu : Nat → Int32) (zr : Nat → Int32) (zl : Lr) (zf : Int32) (p1 : Int32) (p2 : Int32) (hx9 : ¬ f_X2_cellByChanges_x zb zo zt zu p1 p2 = 0) : vx_Met l yX2_cellByChanges wsX2_cellByChanges ({ frames := 7, cells := 1, slots := 6, locals := 137 } : Room) (pcT D cyI cyZ [.ref (ad 0), .int p1, .int p2] (wZ cyI cyZ ad zb zo zt zm zu zr zl zf)) qFi (xX (f_X2_cellByChanges_x zb zo zt zu p1 p2)) 1 6 nA := by
  refine vx_ofW (cc := cX2_cellByChanges) (maxL := 3) (ret := (some .int)) (by decide) rfl ?_
  intro p e s m args below meth c s₁ B hml hnt hv
  obtain ⟨rfl, hP, hG, hz⟩ := hv
  have hx := B.exec
  have hb := B.bytes
  have hr := B.returns
  have hts := atoms_spec (ws := wsX2_cellByChanges) B.pre
  have hown : s.vm.findClass RX2 = some m.cls := findClass_of_methodNamed B.named
  have hlocks := B.notSynchronized
  have hS : va_S nA s.heap s.heap [] := va_S.rf
  have hl := lv_entry ([.ref (ad 0), .int p1, .int p2]) (n := 3) (Nat.le_of_ble_eq_true rfl)
  rw [lg_entry_eq]
  generalize (lg_sl ([.ref (ad 0), .int p1, .int p2]) ++ List.replicate (3 - (lg_sl ([.ref (ad 0), .int p1, .int p2])).length) Slot.unset).toArray = ls at hl ⊢
  have hl : lv_has ls 3 [(0, .ref (ad 0)), (1, .int p1), (2, .int p2)] := hl
  have hP : va_P D vwCl (wZ cyI cyZ ad zb zo zt zm zu zr zl zf) s.heap := hP
  refine lv_iload_n hx hb dX2_cellByChanges_0 rfl (lv_at hl 1 rfl) ?_
  by_cases c_1 : (f_X2_requireKey_x p1) = 0
  · refine pr_v (va_runS (As := [.int p1]) (rest := []) ⟨hx, hb, hml, hown, hts⟩ (k_X2_requireKey l D cyI cyZ p1 c_1) (va_cwS 1 hts gX2_cellByChanges_X2_requireKey rfl rfl rfl (by decide +kernel) ⟨Nat.le_of_ble_eq_true rfl, Nat.le_of_ble_eq_true rfl⟩) (prS hG (hP.sub (ws' := []) [] rfl)) rfl rfl hl.1 rfl (lv_room (Nat.le_of_ble_eq_true rfl)) dX2_cellByChanges_1 ⟨Nat.zero_le _, Nat.zero_le _⟩) hS hP (fun H locs hP hS => ?_)
    refine lv_iload_n hx hb dX2_cellByChanges_4 rfl (lv_at hl 2 rfl) ?_
    by_cases c_5 : (f_X2_requireColumnNumber_x p2) = 0
    · refine pr_v (va_runS (As := [.int p2]) (rest := []) ⟨hx, hb, hml, hown, hts⟩ (k_X2_requireColumnNumber l D cyI cyZ p2 c_5) (va_cwS 1 hts gX2_cellByChanges_X2_requireColumnNumber rfl rfl rfl (by decide +kernel) ⟨Nat.le_of_ble_eq_true rfl, Nat.le_of_ble_eq_true rfl⟩) (prS hG (hP.sub (ws' := []) [] rfl)) rfl rfl hl.1 rfl (lv_room (Nat.le_of_ble_eq_true rfl)) dX2_cellByChanges_5 ⟨Nat.zero_le _, Nat.zero_le _⟩) hS hP (fun H locs hP hS => ?_)
      refine lv_aload_n hx hb dX2_cellByChanges_8 rfl (lv_at hl 0 rfl) ?_
      refine lv_iload_n hx hb dX2_cellByChanges_9 rfl (lv_at hl 1 rfl) ?_
      refine pr_i (va_runV (As := [.int p1]) (rest := []) ⟨hx, hb, hml, hown, hts⟩ (k_X2_rowStaysByChanges l D cyI cyZ ad zb zo zt zm zu zr zl zf p1) (cwV 1 hts gX2_cellByChanges_X2_rowStaysByChanges rfl rfl rfl (by decide +kernel) ⟨Nat.le_of_ble_eq_true rfl, Nat.le_of_ble_eq_true rfl⟩) (prV hG hP (ci := 2) rfl rfl rfl) rfl rfl hl.1 rfl (lv_room (Nat.le_of_ble_eq_true rfl)) dX2_cellByChanges_10 ⟨Nat.zero_le _, Nat.zero_le _⟩) hS hP (fun H locs hP hS => ?_)
      refine lv_if_eq (tgt := 24) hx hb dX2_cellByChanges_13 (by decide) (fun c_13 => ?_) (fun c_13 => ?_)
      · refine lv_iconst (v := 0) hx hb dX2_cellByChanges_24 (by decide) ?_
        exact absurd (by rw [f_X2_cellByChanges_x, if_pos c_1, if_pos c_5, if_pos c_13]) hx9
      · refine lv_aload_n hx hb dX2_cellByChanges_16 rfl (lv_at hl 0 rfl) ?_
        refine lv_iload_n hx hb dX2_cellByChanges_17 rfl (lv_at hl 2 rfl) ?_
        refine pr_i (va_runV (As := [.int p2]) (rest := []) ⟨hx, hb, hml, hown, hts⟩ (k_X2_columnStaysByChanges l D cyI cyZ ad zb zo zt zm zu zr zl zf p2) (cwV 1 hts gX2_cellByChanges_X2_columnStaysByChanges rfl rfl rfl (by decide +kernel) ⟨Nat.le_of_ble_eq_true rfl, Nat.le_of_ble_eq_true rfl⟩) (prV hG hP (ci := 2) rfl rfl rfl) rfl rfl hl.1 rfl (lv_room (Nat.le_of_ble_eq_true rfl)) dX2_cellByChanges_18 ⟨Nat.zero_le _, Nat.zero_le _⟩) hS hP (fun H locs hP hS => ?_)
        refine lv_if_ne (tgt := 26) hx hb dX2_cellByChanges_21 (by decide) (fun c_21 => ?_) (fun c_21 => ?_)
        · refine lv_aload_n hx hb dX2_cellByChanges_26 rfl (lv_at hl 0 rfl) ?_
          refine va_get (D := D) (ci := 2) (v := .ref (ad 4)) (C := RX2) (T := TX2) (N := 8) hx hb hts uin_X2_cellByChanges_X2 hown hG.1 hP 0 rfl rfl 1 (by decide) (hts (.fieldLink RX2 16 "TableSplice" "ours" "LTableSplice$Table;") (List.mem_of_getElem? (i := 1) rfl)) (fun _ h9 => h9) rfl dX2_cellByChanges_27 ?_
          refine lv_iload_n hx hb dX2_cellByChanges_30 rfl (lv_at hl 1 rfl) ?_
          refine lv_iload_n hx hb dX2_cellByChanges_31 rfl (lv_at hl 2 rfl) ?_
          refine pr_i (va_runVN (As := [.int p1, .int p2]) (rest := []) ⟨hx, hb, hml, hown, hts⟩ (k_X1_hasCell l D cyI cyZ (ad 4) (ad 5) (ad 6) zo p1 p2) ⟨va_cnB 2 hts gX2_cellByChanges_X1_hasCell_n185 rfl rfl rfl (hG.2.1 (RX2, 185, yX1_hasCell, "TableSplice") (List.mem_of_getElem? (i := 17) rfl)) (hts (.initialized RX1) (List.mem_of_getElem? (i := 25) rfl)) (by decide +kernel) ⟨Nat.le_of_ble_eq_true rfl, Nat.le_of_ble_eq_true rfl⟩, hts (.instanceMethod yX1_hasCell) (List.mem_of_getElem? (i := 42) rfl), hts (.selects RX1 yX1_hasCell yX1_hasCell) (List.mem_of_getElem? (i := 43) rfl)⟩ (prV hG (hP.sub (ws' := wT cyI (ad 4) (ad 5) (ad 6) zo) [4, 5, 6] rfl) (ci := 1) rfl rfl rfl) rfl rfl hl.1 rfl (lv_room (Nat.le_of_ble_eq_true rfl)) dX2_cellByChanges_32 ⟨Nat.zero_le _, Nat.zero_le _⟩) hS hP (fun H locs hP hS => ?_)
          refine lv_if_ne (tgt := 52) hx hb dX2_cellByChanges_35 (by decide) (fun c_35 => ?_) (fun c_35 => ?_)
          · refine lv_aload_n hx hb dX2_cellByChanges_52 rfl (lv_at hl 0 rfl) ?_
            refine va_get (D := D) (ci := 2) (v := .ref (ad 13)) (C := RX2) (T := TX2) (N := 8) hx hb hts uin_X2_cellByChanges_X2 hown hG.1 hP 0 rfl rfl 4 (by decide) (hts (.fieldLink RX2 25 "TableSplice" "rules" "[I") (List.mem_of_getElem? (i := 3) rfl)) (fun _ h9 => h9) rfl dX2_cellByChanges_53 ?_
            refine lv_iload_n hx hb dX2_cellByChanges_56 rfl (lv_at hl 2 rfl) ?_
            refine va_iald hx hb hG.1 hP 13 0 rfl rfl (in_reqcol c_5) dX2_cellByChanges_57 ?_
            refine lv_iconst (v := 3) hx hb dX2_cellByChanges_58 (by decide) ?_
            refine lv_icmp_ne (tgt := 71) hx hb dX2_cellByChanges_59 (by decide) (fun c_59 => ?_) (fun c_59 => ?_)
            · refine lv_aload_n hx hb dX2_cellByChanges_71 rfl (lv_at hl 0 rfl) ?_
              refine lv_iload_n hx hb dX2_cellByChanges_72 rfl (lv_at hl 1 rfl) ?_
              refine lv_iload_n hx hb dX2_cellByChanges_73 rfl (lv_at hl 2 rfl) ?_
              refine lv_aload_n hx hb dX2_cellByChanges_74 rfl (lv_at hl 0 rfl) ?_
              refine va_get (D := D) (ci := 2) (v := .ref (ad 13)) (C := RX2) (T := TX2) (N := 8) hx hb hts uin_X2_cellByChanges_X2 hown hG.1 hP 0 rfl rfl 4 (by decide) (hts (.fieldLink RX2 25 "TableSplice" "rules" "[I") (List.mem_of_getElem? (i := 3) rfl)) (fun _ h9 => h9) rfl dX2_cellByChanges_75 ?_
              refine lv_iload_n hx hb dX2_cellByChanges_78 rfl (lv_at hl 2 rfl) ?_
              refine va_iald hx hb hG.1 hP 13 0 rfl rfl (in_reqcol c_5) dX2_cellByChanges_79 ?_
              refine pr_i (va_runV (As := [.int p1, .int p2, .int (zu (p2).toNatClampNeg)]) (rest := []) ⟨hx, hb, hml, hown, hts⟩ (k_X2_choiceByChanges l D cyI cyZ ad zb zo zt zm zu zr zl zf p1 p2 (zu (p2).toNatClampNeg)) (cwV 3 hts gX2_cellByChanges_X2_choiceByChanges rfl rfl rfl (by decide +kernel) ⟨Nat.le_of_ble_eq_true rfl, Nat.le_of_ble_eq_true rfl⟩) (prV hG hP (ci := 2) rfl rfl rfl) rfl rfl hl.1 rfl (lv_room (Nat.le_of_ble_eq_true rfl)) dX2_cellByChanges_80 ⟨Nat.zero_le _, Nat.zero_le _⟩) hS hP (fun H locs hP hS => ?_)
              exact absurd (by rw [f_X2_cellByChanges_x, if_pos c_1, if_pos c_5, if_neg c_13, if_neg c_21, if_neg c_35, if_neg c_59]) hx9
            · refine lv_aload_n hx hb dX2_cellByChanges_62 rfl (lv_at hl 0 rfl) ?_
              refine lv_iload_n hx hb dX2_cellByChanges_63 rfl (lv_at hl 1 rfl) ?_
              refine lv_iload_n hx hb dX2_cellByChanges_64 rfl (lv_at hl 2 rfl) ?_
              refine pr_i (va_runV (As := [.int p1, .int p2]) (rest := []) ⟨hx, hb, hml, hown, hts⟩ (k_X2_sumByChanges l D cyI cyZ ad zb zo zt zm zu zr zl zf p1 p2) (cwV 2 hts gX2_cellByChanges_X2_sumByChanges rfl rfl rfl (by decide +kernel) ⟨Nat.le_of_ble_eq_true rfl, Nat.le_of_ble_eq_true rfl⟩) (prV hG hP (ci := 2) rfl rfl rfl) rfl rfl hl.1 rfl (lv_room (Nat.le_of_ble_eq_true rfl)) dX2_cellByChanges_65 ⟨Nat.zero_le _, Nat.zero_le _⟩) hS hP (fun H locs hP hS => ?_)
              refine lv_goto (tgt := 83) hx hb dX2_cellByChanges_68 (by decide) ?_
              exact absurd (by rw [f_X2_cellByChanges_x, if_pos c_1, if_pos c_5, if_neg c_13, if_neg c_21, if_neg c_35, if_pos c_59]) hx9
          · refine lv_aload_n hx hb dX2_cellByChanges_38 rfl (lv_at hl 0 rfl) ?_
            refine va_get (D := D) (ci := 2) (v := .ref (ad 7)) (C := RX2) (T := TX2) (N := 8) hx hb hts uin_X2_cellByChanges_X2 hown hG.1 hP 0 rfl rfl 2 (by decide) (hts (.fieldLink RX2 19 "TableSplice" "theirs" "LTableSplice$Table;") (List.mem_of_getElem? (i := 2) rfl)) (fun _ h9 => h9) rfl dX2_cellByChanges_39 ?_
            refine lv_iload_n hx hb dX2_cellByChanges_42 rfl (lv_at hl 1 rfl) ?_
            refine lv_iload_n hx hb dX2_cellByChanges_43 rfl (lv_at hl 2 rfl) ?_
            refine pr_i (va_runVN (As := [.int p1, .int p2]) (rest := []) ⟨hx, hb, hml, hown, hts⟩ (k_X1_hasCell l D cyI cyZ (ad 7) (ad 8) (ad 9) zt p1 p2) ⟨va_cnB 2 hts gX2_cellByChanges_X1_hasCell_n185 rfl rfl rfl (hG.2.1 (RX2, 185, yX1_hasCell, "TableSplice") (List.mem_of_getElem? (i := 17) rfl)) (hts (.initialized RX1) (List.mem_of_getElem? (i := 25) rfl)) (by decide +kernel) ⟨Nat.le_of_ble_eq_true rfl, Nat.le_of_ble_eq_true rfl⟩, hts (.instanceMethod yX1_hasCell) (List.mem_of_getElem? (i := 42) rfl), hts (.selects RX1 yX1_hasCell yX1_hasCell) (List.mem_of_getElem? (i := 43) rfl)⟩ (prV hG (hP.sub (ws' := wT cyI (ad 7) (ad 8) (ad 9) zt) [7, 8, 9] rfl) (ci := 1) rfl rfl rfl) rfl rfl hl.1 rfl (lv_room (Nat.le_of_ble_eq_true rfl)) dX2_cellByChanges_44 ⟨Nat.zero_le _, Nat.zero_le _⟩) hS hP (fun H locs hP hS => ?_)
            refine lv_if_ne (tgt := 52) hx hb dX2_cellByChanges_47 (by decide) (fun c_47 => ?_) (fun c_47 => ?_)
            · refine lv_aload_n hx hb dX2_cellByChanges_52 rfl (lv_at hl 0 rfl) ?_
              refine va_get (D := D) (ci := 2) (v := .ref (ad 13)) (C := RX2) (T := TX2) (N := 8) hx hb hts uin_X2_cellByChanges_X2 hown hG.1 hP 0 rfl rfl 4 (by decide) (hts (.fieldLink RX2 25 "TableSplice" "rules" "[I") (List.mem_of_getElem? (i := 3) rfl)) (fun _ h9 => h9) rfl dX2_cellByChanges_53 ?_
              refine lv_iload_n hx hb dX2_cellByChanges_56 rfl (lv_at hl 2 rfl) ?_
              refine va_iald hx hb hG.1 hP 13 0 rfl rfl (in_reqcol c_5) dX2_cellByChanges_57 ?_
              refine lv_iconst (v := 3) hx hb dX2_cellByChanges_58 (by decide) ?_
              refine lv_icmp_ne (tgt := 71) hx hb dX2_cellByChanges_59 (by decide) (fun c_59 => ?_) (fun c_59 => ?_)
              · refine lv_aload_n hx hb dX2_cellByChanges_71 rfl (lv_at hl 0 rfl) ?_
                refine lv_iload_n hx hb dX2_cellByChanges_72 rfl (lv_at hl 1 rfl) ?_
                refine lv_iload_n hx hb dX2_cellByChanges_73 rfl (lv_at hl 2 rfl) ?_
                refine lv_aload_n hx hb dX2_cellByChanges_74 rfl (lv_at hl 0 rfl) ?_
                refine va_get (D := D) (ci := 2) (v := .ref (ad 13)) (C := RX2) (T := TX2) (N := 8) hx hb hts uin_X2_cellByChanges_X2 hown hG.1 hP 0 rfl rfl 4 (by decide) (hts (.fieldLink RX2 25 "TableSplice" "rules" "[I") (List.mem_of_getElem? (i := 3) rfl)) (fun _ h9 => h9) rfl dX2_cellByChanges_75 ?_
                refine lv_iload_n hx hb dX2_cellByChanges_78 rfl (lv_at hl 2 rfl) ?_
                refine va_iald hx hb hG.1 hP 13 0 rfl rfl (in_reqcol c_5) dX2_cellByChanges_79 ?_
                refine pr_i (va_runV (As := [.int p1, .int p2, .int (zu (p2).toNatClampNeg)]) (rest := []) ⟨hx, hb, hml, hown, hts⟩ (k_X2_choiceByChanges l D cyI cyZ ad zb zo zt zm zu zr zl zf p1 p2 (zu (p2).toNatClampNeg)) (cwV 3 hts gX2_cellByChanges_X2_choiceByChanges rfl rfl rfl (by decide +kernel) ⟨Nat.le_of_ble_eq_true rfl, Nat.le_of_ble_eq_true rfl⟩) (prV hG hP (ci := 2) rfl rfl rfl) rfl rfl hl.1 rfl (lv_room (Nat.le_of_ble_eq_true rfl)) dX2_cellByChanges_80 ⟨Nat.zero_le _, Nat.zero_le _⟩) hS hP (fun H locs hP hS => ?_)
                exact absurd (by rw [f_X2_cellByChanges_x, if_pos c_1, if_pos c_5, if_neg c_13, if_neg c_21, if_pos c_35, if_neg c_47, if_neg c_59]) hx9
              · refine lv_aload_n hx hb dX2_cellByChanges_62 rfl (lv_at hl 0 rfl) ?_
                refine lv_iload_n hx hb dX2_cellByChanges_63 rfl (lv_at hl 1 rfl) ?_
                refine lv_iload_n hx hb dX2_cellByChanges_64 rfl (lv_at hl 2 rfl) ?_
                refine pr_i (va_runV (As := [.int p1, .int p2]) (rest := []) ⟨hx, hb, hml, hown, hts⟩ (k_X2_sumByChanges l D cyI cyZ ad zb zo zt zm zu zr zl zf p1 p2) (cwV 2 hts gX2_cellByChanges_X2_sumByChanges rfl rfl rfl (by decide +kernel) ⟨Nat.le_of_ble_eq_true rfl, Nat.le_of_ble_eq_true rfl⟩) (prV hG hP (ci := 2) rfl rfl rfl) rfl rfl hl.1 rfl (lv_room (Nat.le_of_ble_eq_true rfl)) dX2_cellByChanges_65 ⟨Nat.zero_le _, Nat.zero_le _⟩) hS hP (fun H locs hP hS => ?_)
                refine lv_goto (tgt := 83) hx hb dX2_cellByChanges_68 (by decide) ?_
                exact absurd (by rw [f_X2_cellByChanges_x, if_pos c_1, if_pos c_5, if_neg c_13, if_neg c_21, if_pos c_35, if_neg c_47, if_pos c_59]) hx9
            · refine lv_iconst (v := 0) hx hb dX2_cellByChanges_50 (by decide) ?_
              exact absurd (by rw [f_X2_cellByChanges_x, if_pos c_1, if_pos c_5, if_neg c_13, if_neg c_21, if_pos c_35, if_pos c_47]) hx9
        · refine lv_iconst (v := 0) hx hb dX2_cellByChanges_24 (by decide) ?_
          exact absurd (by rw [f_X2_cellByChanges_x, if_pos c_1, if_pos c_5, if_neg c_13, if_pos c_21]) hx9
    · have ef : f_X2_cellByChanges_x zb zo zt zu p1 p2 = f_X2_requireColumnNumber_x p2 := by rw [f_X2_cellByChanges_x, if_pos c_1, if_neg c_5]
      exact vx_callv (vx_runS (As := [.int p2]) (rest := []) ⟨hx, hb, hml, hown, hts⟩ (t_X2_requireColumnNumber l hlt D cyI cyZ p2 c_5) (va_cwS 1 hts gX2_cellByChanges_X2_requireColumnNumber rfl rfl rfl (by decide +kernel) ⟨Nat.le_of_ble_eq_true rfl, Nat.le_of_ble_eq_true rfl⟩) (ptS hG (hz.kept hS) (hP.sub (ws' := []) [] rfl)) rfl rfl hl.1 rfl (lv_room (Nat.le_of_ble_eq_true rfl)) dX2_cellByChanges_5 ⟨Nat.le_of_ble_eq_true rfl, Nat.le_of_ble_eq_true rfl⟩) hS (fun _ _ h => h.elim) (fun _ h => h.elim) (fun _ _ h => h.elim) (fun E ce q9 u t H1 locs1 ht _ _ hE _ _ hS1 hce hcv hcl => vx_out (fun x h => (hnt x h).elim) hlocks hce hcv hcl (fun t9 h9 _ => ⟨(), trivial, hE.trans (congrArg xn ef.symm), hS1.F h9⟩) hS1.2.2 (Nat.le_refl _) (Nat.le_refl _)) (fun u t H1 locs1 ht hvm h hb9 hz1 hk1 hS1 => h.elim)
  · have ef : f_X2_cellByChanges_x zb zo zt zu p1 p2 = f_X2_requireKey_x p1 := by rw [f_X2_cellByChanges_x, if_neg c_1]
    exact vx_callv (vx_runS (As := [.int p1]) (rest := []) ⟨hx, hb, hml, hown, hts⟩ (t_X2_requireKey l hlt D cyI cyZ p1 c_1) (va_cwS 1 hts gX2_cellByChanges_X2_requireKey rfl rfl rfl (by decide +kernel) ⟨Nat.le_of_ble_eq_true rfl, Nat.le_of_ble_eq_true rfl⟩) (ptS hG (hz.kept hS) (hP.sub (ws' := []) [] rfl)) rfl rfl hl.1 rfl (lv_room (Nat.le_of_ble_eq_true rfl)) dX2_cellByChanges_1 ⟨Nat.le_of_ble_eq_true rfl, Nat.le_of_ble_eq_true rfl⟩) hS (fun _ _ h => h.elim) (fun _ h => h.elim) (fun _ _ h => h.elim) (fun E ce q9 u t H1 locs1 ht _ _ hE _ _ hS1 hce hcv hcl => vx_out (fun x h => (hnt x h).elim) hlocks hce hcv hcl (fun t9 h9 _ => ⟨(), trivial, hE.trans (congrArg xn ef.symm), hS1.F h9⟩) hS1.2.2 (Nat.le_refl _) (Nat.le_refl _)) (fun u t H1 locs1 ht hvm h hb9 hz1 hk1 hS1 => h.elim)
