def f_X2_columnStays (zb : Tr) (zo : Tr) (zt : Tr) (p1 : Int32) : Int32 := if (f_X1_hasColumn zo p1) = 0 then (if (f_X1_hasColumn zb p1) = 0 then (if (f_X1_hasColumn zt p1) = 0 then 0 else 1) else (if (f_X1_changedColumnOf zo zb p1) = 0 then (if (f_X1_changedColumnOf zt zb p1) = 0 then 0 else 1) else 1)) else (if (f_X1_hasColumn zt p1) = 0 then (if (f_X1_hasColumn zb p1) = 0 then 1 else (if (f_X1_changedColumnOf zo zb p1) = 0 then (if (f_X1_changedColumnOf zt zb p1) = 0 then 0 else 1) else 1)) else 1)
theorem uin_X2_columnStays_X2 : ∀ w ∈ wsX20, w ∈ wsX2_columnStays := fun _ h => List.mem_cons_of_mem _ (List.mem_append_left _ (List.mem_append_right _ h))
theorem uin_X2_columnStays_X1 : ∀ w ∈ wsX10, w ∈ wsX2_columnStays := fun _ h => List.mem_cons_of_mem _ (List.mem_append_right _ h)
set_option maxHeartbeats 4000000 in
set_option maxRecDepth 100000 in
theorem k_X2_columnStays (l : Launch) (D : va_G) (cyI cyZ : ClassId) (ad : Nat → Nat) (zb : Tr) (zo : Tr) (zt : Tr) (zm : Tr) (zu : Nat → Int32) (zr : Nat → Int32) (zl : Lr) (zf : Int32) (p1 : Int32) : Met l yX2_columnStays wsX2_columnStays ({ frames := 4, cells := 0, slots := 0, locals := 90 } : Room) (pcP D cyI cyZ [.ref (ad 0), .int p1] (wZ cyI cyZ ad zb zo zt zm zu zr zl zf)) (qI (f_X2_columnStays zb zo zt p1)) 0 0 nA := by
  refine Met.ofW (cc := cX2_columnStays) (maxL := 4) (ret := (some .boolean)) (by decide) rfl ?_
  intro p e s m args below meth c s₁ B hml hv
  obtain ⟨rfl, hP, hG⟩ := hv
  have hx := B.exec
  have hb := B.bytes
  have hr := B.returns
  have hts := atoms_spec (ws := wsX2_columnStays) B.pre
  have hown : s.vm.findClass RX2 = some m.cls := findClass_of_methodNamed B.named
  have hlocks := B.notSynchronized
  have hS : va_S nA s.heap s.heap [] := va_S.rf
  have hl := lv_entry ([.ref (ad 0), .int p1]) (n := 4) (Nat.le_of_ble_eq_true rfl)
  rw [lg_entry_eq]
  generalize (lg_sl ([.ref (ad 0), .int p1]) ++ List.replicate (4 - (lg_sl ([.ref (ad 0), .int p1])).length) Slot.unset).toArray = ls at hl ⊢
  have hl : lv_has ls 4 [(0, .ref (ad 0)), (1, .int p1)] := hl
  have hP : va_P D vwCl (wZ cyI cyZ ad zb zo zt zm zu zr zl zf) s.heap := hP
  refine lv_aload_n hx hb dX2_columnStays_0 rfl (lv_at hl 0 rfl) ?_
  refine va_get (D := D) (ci := 2) (v := .ref (ad 4)) (C := RX2) (T := TX2) (N := 8) hx hb hts uin_X2_columnStays_X2 hown hG.1 hP 0 rfl rfl 1 (by decide) (hts (.fieldLink RX2 16 "TableSplice" "ours" "LTableSplice$Table;") (List.mem_of_getElem? (i := 1) rfl)) (fun _ h9 => h9) rfl dX2_columnStays_1 ?_
  refine lv_iload_n hx hb dX2_columnStays_4 rfl (lv_at hl 1 rfl) ?_
  refine pr_i (va_runVN (As := [.int p1]) (rest := []) ⟨hx, hb, hml, hown, hts⟩ (k_X1_hasColumn l D cyI cyZ (ad 4) (ad 5) (ad 6) zo p1) ⟨va_cnB 1 hts gX2_columnStays_X1_hasColumn_n55 rfl rfl rfl (hG.2.1 (RX2, 55, yX1_hasColumn, "TableSplice") (List.mem_of_getElem? (i := 6) rfl)) (hts (.initialized RX1) (List.mem_of_getElem? (i := 5) rfl)) (by decide +kernel) ⟨Nat.le_of_ble_eq_true rfl, Nat.le_of_ble_eq_true rfl⟩, hts (.instanceMethod yX1_hasColumn) (List.mem_of_getElem? (i := 4) rfl), hts (.selects RX1 yX1_hasColumn yX1_hasColumn) (List.mem_of_getElem? (i := 6) rfl)⟩ (prV hG (hP.sub (ws' := wT cyI (ad 4) (ad 5) (ad 6) zo) [4, 5, 6] rfl) (ci := 1) rfl rfl rfl) rfl rfl hl.1 rfl (lv_room (Nat.le_of_ble_eq_true rfl)) dX2_columnStays_5 ⟨Nat.zero_le _, Nat.zero_le _⟩) hS hP (fun H locs hP hS => ?_)
  refine lv_istore_n (lv' := [(2, .int (f_X1_hasColumn zo p1)), (0, .ref (ad 0)), (1, .int p1)]) hx hb dX2_columnStays_8 rfl hl (by decide) rfl (fun ls hl => ?_)
  refine lv_aload_n hx hb dX2_columnStays_9 rfl (lv_at hl 1 rfl) ?_
  refine va_get (D := D) (ci := 2) (v := .ref (ad 7)) (C := RX2) (T := TX2) (N := 8) hx hb hts uin_X2_columnStays_X2 hown hG.1 hP 0 rfl rfl 2 (by decide) (hts (.fieldLink RX2 19 "TableSplice" "theirs" "LTableSplice$Table;") (List.mem_of_getElem? (i := 2) rfl)) (fun _ h9 => h9) rfl dX2_columnStays_10 ?_
  refine lv_iload_n hx hb dX2_columnStays_13 rfl (lv_at hl 2 rfl) ?_
  refine pr_i (va_runVN (As := [.int p1]) (rest := []) ⟨hx, hb, hml, hown, hts⟩ (k_X1_hasColumn l D cyI cyZ (ad 7) (ad 8) (ad 9) zt p1) ⟨va_cnB 1 hts gX2_columnStays_X1_hasColumn_n55 rfl rfl rfl (hG.2.1 (RX2, 55, yX1_hasColumn, "TableSplice") (List.mem_of_getElem? (i := 6) rfl)) (hts (.initialized RX1) (List.mem_of_getElem? (i := 5) rfl)) (by decide +kernel) ⟨Nat.le_of_ble_eq_true rfl, Nat.le_of_ble_eq_true rfl⟩, hts (.instanceMethod yX1_hasColumn) (List.mem_of_getElem? (i := 4) rfl), hts (.selects RX1 yX1_hasColumn yX1_hasColumn) (List.mem_of_getElem? (i := 6) rfl)⟩ (prV hG (hP.sub (ws' := wT cyI (ad 7) (ad 8) (ad 9) zt) [7, 8, 9] rfl) (ci := 1) rfl rfl rfl) rfl rfl hl.1 rfl (lv_room (Nat.le_of_ble_eq_true rfl)) dX2_columnStays_14 ⟨Nat.zero_le _, Nat.zero_le _⟩) hS hP (fun H locs hP hS => ?_)
  refine lv_istore_n (lv' := [(3, .int (f_X1_hasColumn zt p1)), (2, .int (f_X1_hasColumn zo p1)), (0, .ref (ad 0)), (1, .int p1)]) hx hb dX2_columnStays_17 rfl hl (by decide) rfl (fun ls hl => ?_)
  refine lv_iload_n hx hb dX2_columnStays_18 rfl (lv_at hl 1 rfl) ?_
  refine lv_if_eq (tgt := 28) hx hb dX2_columnStays_19 (by decide) (fun c_19 => ?_) (fun c_19 => ?_)
  · refine lv_aload_n hx hb dX2_columnStays_28 rfl (lv_at hl 2 rfl) ?_
    refine va_get (D := D) (ci := 2) (v := .ref (ad 1)) (C := RX2) (T := TX2) (N := 8) hx hb hts uin_X2_columnStays_X2 hown hG.1 hP 0 rfl rfl 0 (by decide) (hts (.fieldLink RX2 10 "TableSplice" "base" "LTableSplice$Table;") (List.mem_of_getElem? (i := 3) rfl)) (fun _ h9 => h9) rfl dX2_columnStays_29 ?_
    refine lv_iload_n hx hb dX2_columnStays_32 rfl (lv_at hl 3 rfl) ?_
    refine pr_i (va_runVN (As := [.int p1]) (rest := []) ⟨hx, hb, hml, hown, hts⟩ (k_X1_hasColumn l D cyI cyZ (ad 1) (ad 2) (ad 3) zb p1) ⟨va_cnB 1 hts gX2_columnStays_X1_hasColumn_n55 rfl rfl rfl (hG.2.1 (RX2, 55, yX1_hasColumn, "TableSplice") (List.mem_of_getElem? (i := 6) rfl)) (hts (.initialized RX1) (List.mem_of_getElem? (i := 5) rfl)) (by decide +kernel) ⟨Nat.le_of_ble_eq_true rfl, Nat.le_of_ble_eq_true rfl⟩, hts (.instanceMethod yX1_hasColumn) (List.mem_of_getElem? (i := 4) rfl), hts (.selects RX1 yX1_hasColumn yX1_hasColumn) (List.mem_of_getElem? (i := 6) rfl)⟩ (prV hG (hP.sub (ws' := wT cyI (ad 1) (ad 2) (ad 3) zb) [1, 2, 3] rfl) (ci := 1) rfl rfl rfl) rfl rfl hl.1 rfl (lv_room (Nat.le_of_ble_eq_true rfl)) dX2_columnStays_33 ⟨Nat.zero_le _, Nat.zero_le _⟩) hS hP (fun H locs hP hS => ?_)
    refine lv_if_ne (tgt := 53) hx hb dX2_columnStays_36 (by decide) (fun c_36 => ?_) (fun c_36 => ?_)
    · refine lv_aload_n hx hb dX2_columnStays_53 rfl (lv_at hl 2 rfl) ?_
      refine va_get (D := D) (ci := 2) (v := .ref (ad 4)) (C := RX2) (T := TX2) (N := 8) hx hb hts uin_X2_columnStays_X2 hown hG.1 hP 0 rfl rfl 1 (by decide) (hts (.fieldLink RX2 16 "TableSplice" "ours" "LTableSplice$Table;") (List.mem_of_getElem? (i := 1) rfl)) (fun _ h9 => h9) rfl dX2_columnStays_54 ?_
      refine lv_aload_n hx hb dX2_columnStays_57 rfl (lv_at hl 2 rfl) ?_
      refine va_get (D := D) (ci := 2) (v := .ref (ad 1)) (C := RX2) (T := TX2) (N := 8) hx hb hts uin_X2_columnStays_X2 hown hG.1 hP 0 rfl rfl 0 (by decide) (hts (.fieldLink RX2 10 "TableSplice" "base" "LTableSplice$Table;") (List.mem_of_getElem? (i := 3) rfl)) (fun _ h9 => h9) rfl dX2_columnStays_58 ?_
      refine lv_iload_n hx hb dX2_columnStays_61 rfl (lv_at hl 3 rfl) ?_
      refine pr_i (va_runVN (As := [.ref (ad 1), .int p1]) (rest := []) ⟨hx, hb, hml, hown, hts⟩ (k_X1_changedColumnOf l D cyI cyZ (ad 4) (ad 5) (ad 6) (ad 1) (ad 2) (ad 3) zo zb p1) ⟨va_cnB 2 hts gX2_columnStays_X1_changedColumnOf_n262 rfl rfl rfl (hG.2.1 (RX2, 262, yX1_changedColumnOf, "TableSplice") (List.mem_of_getElem? (i := 7) rfl)) (hts (.initialized RX1) (List.mem_of_getElem? (i := 5) rfl)) (by decide +kernel) ⟨Nat.le_of_ble_eq_true rfl, Nat.le_of_ble_eq_true rfl⟩, hts (.instanceMethod yX1_changedColumnOf) (List.mem_of_getElem? (i := 9) rfl), hts (.selects RX1 yX1_changedColumnOf yX1_changedColumnOf) (List.mem_of_getElem? (i := 10) rfl)⟩ (prV hG (hP.sub (ws' := wU cyI (ad 4) (ad 5) (ad 6) zo (ad 1) (ad 2) (ad 3) zb) [4, 5, 6, 1, 2, 3] rfl) (ci := 1) rfl rfl rfl) rfl rfl hl.1 rfl (lv_room (Nat.le_of_ble_eq_true rfl)) dX2_columnStays_62 ⟨Nat.zero_le _, Nat.zero_le _⟩) hS hP (fun H locs hP hS => ?_)
      refine lv_if_ne (tgt := 83) hx hb dX2_columnStays_65 (by decide) (fun c_65 => ?_) (fun c_65 => ?_)
      · refine lv_iconst (v := 1) hx hb dX2_columnStays_83 (by decide) ?_
        refine lv_goto (tgt := 88) hx hb dX2_columnStays_84 (by decide) ?_
        have ef : f_X2_columnStays zb zo zt p1 = 1 := by rw [f_X2_columnStays, if_pos c_19, if_neg c_36, if_neg c_65]
        exact W.zret (v := 1) (ty := .boolean) hx hb hr rfl (fun t ht hW => ⟨⟨1, (), rfl, ef.symm, trivial⟩, hS.F ht⟩) hS.2.2 dX2_columnStays_88
      · refine lv_aload_n hx hb dX2_columnStays_68 rfl (lv_at hl 2 rfl) ?_
        refine va_get (D := D) (ci := 2) (v := .ref (ad 7)) (C := RX2) (T := TX2) (N := 8) hx hb hts uin_X2_columnStays_X2 hown hG.1 hP 0 rfl rfl 2 (by decide) (hts (.fieldLink RX2 19 "TableSplice" "theirs" "LTableSplice$Table;") (List.mem_of_getElem? (i := 2) rfl)) (fun _ h9 => h9) rfl dX2_columnStays_69 ?_
        refine lv_aload_n hx hb dX2_columnStays_72 rfl (lv_at hl 2 rfl) ?_
        refine va_get (D := D) (ci := 2) (v := .ref (ad 1)) (C := RX2) (T := TX2) (N := 8) hx hb hts uin_X2_columnStays_X2 hown hG.1 hP 0 rfl rfl 0 (by decide) (hts (.fieldLink RX2 10 "TableSplice" "base" "LTableSplice$Table;") (List.mem_of_getElem? (i := 3) rfl)) (fun _ h9 => h9) rfl dX2_columnStays_73 ?_
        refine lv_iload_n hx hb dX2_columnStays_76 rfl (lv_at hl 3 rfl) ?_
        refine pr_i (va_runVN (As := [.ref (ad 1), .int p1]) (rest := []) ⟨hx, hb, hml, hown, hts⟩ (k_X1_changedColumnOf l D cyI cyZ (ad 7) (ad 8) (ad 9) (ad 1) (ad 2) (ad 3) zt zb p1) ⟨va_cnB 2 hts gX2_columnStays_X1_changedColumnOf_n262 rfl rfl rfl (hG.2.1 (RX2, 262, yX1_changedColumnOf, "TableSplice") (List.mem_of_getElem? (i := 7) rfl)) (hts (.initialized RX1) (List.mem_of_getElem? (i := 5) rfl)) (by decide +kernel) ⟨Nat.le_of_ble_eq_true rfl, Nat.le_of_ble_eq_true rfl⟩, hts (.instanceMethod yX1_changedColumnOf) (List.mem_of_getElem? (i := 9) rfl), hts (.selects RX1 yX1_changedColumnOf yX1_changedColumnOf) (List.mem_of_getElem? (i := 10) rfl)⟩ (prV hG (hP.sub (ws' := wU cyI (ad 7) (ad 8) (ad 9) zt (ad 1) (ad 2) (ad 3) zb) [7, 8, 9, 1, 2, 3] rfl) (ci := 1) rfl rfl rfl) rfl rfl hl.1 rfl (lv_room (Nat.le_of_ble_eq_true rfl)) dX2_columnStays_77 ⟨Nat.zero_le _, Nat.zero_le _⟩) hS hP (fun H locs hP hS => ?_)
        refine lv_if_eq (tgt := 87) hx hb dX2_columnStays_80 (by decide) (fun c_80 => ?_) (fun c_80 => ?_)
        · refine lv_iconst (v := 0) hx hb dX2_columnStays_87 (by decide) ?_
          have ef : f_X2_columnStays zb zo zt p1 = 0 := by rw [f_X2_columnStays, if_pos c_19, if_neg c_36, if_pos c_65, if_pos c_80]
          exact W.zret (v := 0) (ty := .boolean) hx hb hr rfl (fun t ht hW => ⟨⟨0, (), rfl, ef.symm, trivial⟩, hS.F ht⟩) hS.2.2 dX2_columnStays_88
        · refine lv_iconst (v := 1) hx hb dX2_columnStays_83 (by decide) ?_
          refine lv_goto (tgt := 88) hx hb dX2_columnStays_84 (by decide) ?_
          have ef : f_X2_columnStays zb zo zt p1 = 1 := by rw [f_X2_columnStays, if_pos c_19, if_neg c_36, if_pos c_65, if_neg c_80]
          exact W.zret (v := 1) (ty := .boolean) hx hb hr rfl (fun t ht hW => ⟨⟨1, (), rfl, ef.symm, trivial⟩, hS.F ht⟩) hS.2.2 dX2_columnStays_88
    · refine lv_iload_n hx hb dX2_columnStays_39 rfl (lv_at hl 1 rfl) ?_
      refine lv_if_ne (tgt := 47) hx hb dX2_columnStays_40 (by decide) (fun c_40 => ?_) (fun c_40 => ?_)
      · exact absurd c_19 c_40
      · refine lv_iload_n hx hb dX2_columnStays_43 rfl (lv_at hl 0 rfl) ?_
        refine lv_if_eq (tgt := 51) hx hb dX2_columnStays_44 (by decide) (fun c_44 => ?_) (fun c_44 => ?_)
        · refine lv_iconst (v := 0) hx hb dX2_columnStays_51 (by decide) ?_
          have ef : f_X2_columnStays zb zo zt p1 = 0 := by rw [f_X2_columnStays, if_pos c_19, if_pos c_36, if_pos c_44]
          exact W.zret (v := 0) (ty := .boolean) hx hb hr rfl (fun t ht hW => ⟨⟨0, (), rfl, ef.symm, trivial⟩, hS.F ht⟩) hS.2.2 dX2_columnStays_52
        · refine lv_iconst (v := 1) hx hb dX2_columnStays_47 (by decide) ?_
          refine lv_goto (tgt := 52) hx hb dX2_columnStays_48 (by decide) ?_
          have ef : f_X2_columnStays zb zo zt p1 = 1 := by rw [f_X2_columnStays, if_pos c_19, if_pos c_36, if_neg c_44]
          exact W.zret (v := 1) (ty := .boolean) hx hb hr rfl (fun t ht hW => ⟨⟨1, (), rfl, ef.symm, trivial⟩, hS.F ht⟩) hS.2.2 dX2_columnStays_52
  · refine lv_iload_n hx hb dX2_columnStays_22 rfl (lv_at hl 0 rfl) ?_
    refine lv_if_eq (tgt := 28) hx hb dX2_columnStays_23 (by decide) (fun c_23 => ?_) (fun c_23 => ?_)
    · refine lv_aload_n hx hb dX2_columnStays_28 rfl (lv_at hl 2 rfl) ?_
      refine va_get (D := D) (ci := 2) (v := .ref (ad 1)) (C := RX2) (T := TX2) (N := 8) hx hb hts uin_X2_columnStays_X2 hown hG.1 hP 0 rfl rfl 0 (by decide) (hts (.fieldLink RX2 10 "TableSplice" "base" "LTableSplice$Table;") (List.mem_of_getElem? (i := 3) rfl)) (fun _ h9 => h9) rfl dX2_columnStays_29 ?_
      refine lv_iload_n hx hb dX2_columnStays_32 rfl (lv_at hl 3 rfl) ?_
      refine pr_i (va_runVN (As := [.int p1]) (rest := []) ⟨hx, hb, hml, hown, hts⟩ (k_X1_hasColumn l D cyI cyZ (ad 1) (ad 2) (ad 3) zb p1) ⟨va_cnB 1 hts gX2_columnStays_X1_hasColumn_n55 rfl rfl rfl (hG.2.1 (RX2, 55, yX1_hasColumn, "TableSplice") (List.mem_of_getElem? (i := 6) rfl)) (hts (.initialized RX1) (List.mem_of_getElem? (i := 5) rfl)) (by decide +kernel) ⟨Nat.le_of_ble_eq_true rfl, Nat.le_of_ble_eq_true rfl⟩, hts (.instanceMethod yX1_hasColumn) (List.mem_of_getElem? (i := 4) rfl), hts (.selects RX1 yX1_hasColumn yX1_hasColumn) (List.mem_of_getElem? (i := 6) rfl)⟩ (prV hG (hP.sub (ws' := wT cyI (ad 1) (ad 2) (ad 3) zb) [1, 2, 3] rfl) (ci := 1) rfl rfl rfl) rfl rfl hl.1 rfl (lv_room (Nat.le_of_ble_eq_true rfl)) dX2_columnStays_33 ⟨Nat.zero_le _, Nat.zero_le _⟩) hS hP (fun H locs hP hS => ?_)
      refine lv_if_ne (tgt := 53) hx hb dX2_columnStays_36 (by decide) (fun c_36 => ?_) (fun c_36 => ?_)
      · refine lv_aload_n hx hb dX2_columnStays_53 rfl (lv_at hl 2 rfl) ?_
        refine va_get (D := D) (ci := 2) (v := .ref (ad 4)) (C := RX2) (T := TX2) (N := 8) hx hb hts uin_X2_columnStays_X2 hown hG.1 hP 0 rfl rfl 1 (by decide) (hts (.fieldLink RX2 16 "TableSplice" "ours" "LTableSplice$Table;") (List.mem_of_getElem? (i := 1) rfl)) (fun _ h9 => h9) rfl dX2_columnStays_54 ?_
        refine lv_aload_n hx hb dX2_columnStays_57 rfl (lv_at hl 2 rfl) ?_
        refine va_get (D := D) (ci := 2) (v := .ref (ad 1)) (C := RX2) (T := TX2) (N := 8) hx hb hts uin_X2_columnStays_X2 hown hG.1 hP 0 rfl rfl 0 (by decide) (hts (.fieldLink RX2 10 "TableSplice" "base" "LTableSplice$Table;") (List.mem_of_getElem? (i := 3) rfl)) (fun _ h9 => h9) rfl dX2_columnStays_58 ?_
        refine lv_iload_n hx hb dX2_columnStays_61 rfl (lv_at hl 3 rfl) ?_
        refine pr_i (va_runVN (As := [.ref (ad 1), .int p1]) (rest := []) ⟨hx, hb, hml, hown, hts⟩ (k_X1_changedColumnOf l D cyI cyZ (ad 4) (ad 5) (ad 6) (ad 1) (ad 2) (ad 3) zo zb p1) ⟨va_cnB 2 hts gX2_columnStays_X1_changedColumnOf_n262 rfl rfl rfl (hG.2.1 (RX2, 262, yX1_changedColumnOf, "TableSplice") (List.mem_of_getElem? (i := 7) rfl)) (hts (.initialized RX1) (List.mem_of_getElem? (i := 5) rfl)) (by decide +kernel) ⟨Nat.le_of_ble_eq_true rfl, Nat.le_of_ble_eq_true rfl⟩, hts (.instanceMethod yX1_changedColumnOf) (List.mem_of_getElem? (i := 9) rfl), hts (.selects RX1 yX1_changedColumnOf yX1_changedColumnOf) (List.mem_of_getElem? (i := 10) rfl)⟩ (prV hG (hP.sub (ws' := wU cyI (ad 4) (ad 5) (ad 6) zo (ad 1) (ad 2) (ad 3) zb) [4, 5, 6, 1, 2, 3] rfl) (ci := 1) rfl rfl rfl) rfl rfl hl.1 rfl (lv_room (Nat.le_of_ble_eq_true rfl)) dX2_columnStays_62 ⟨Nat.zero_le _, Nat.zero_le _⟩) hS hP (fun H locs hP hS => ?_)
        refine lv_if_ne (tgt := 83) hx hb dX2_columnStays_65 (by decide) (fun c_65 => ?_) (fun c_65 => ?_)
        · refine lv_iconst (v := 1) hx hb dX2_columnStays_83 (by decide) ?_
          refine lv_goto (tgt := 88) hx hb dX2_columnStays_84 (by decide) ?_
          have ef : f_X2_columnStays zb zo zt p1 = 1 := by rw [f_X2_columnStays, if_neg c_19, if_pos c_23, if_neg c_36, if_neg c_65]
          exact W.zret (v := 1) (ty := .boolean) hx hb hr rfl (fun t ht hW => ⟨⟨1, (), rfl, ef.symm, trivial⟩, hS.F ht⟩) hS.2.2 dX2_columnStays_88
        · refine lv_aload_n hx hb dX2_columnStays_68 rfl (lv_at hl 2 rfl) ?_
          refine va_get (D := D) (ci := 2) (v := .ref (ad 7)) (C := RX2) (T := TX2) (N := 8) hx hb hts uin_X2_columnStays_X2 hown hG.1 hP 0 rfl rfl 2 (by decide) (hts (.fieldLink RX2 19 "TableSplice" "theirs" "LTableSplice$Table;") (List.mem_of_getElem? (i := 2) rfl)) (fun _ h9 => h9) rfl dX2_columnStays_69 ?_
          refine lv_aload_n hx hb dX2_columnStays_72 rfl (lv_at hl 2 rfl) ?_
          refine va_get (D := D) (ci := 2) (v := .ref (ad 1)) (C := RX2) (T := TX2) (N := 8) hx hb hts uin_X2_columnStays_X2 hown hG.1 hP 0 rfl rfl 0 (by decide) (hts (.fieldLink RX2 10 "TableSplice" "base" "LTableSplice$Table;") (List.mem_of_getElem? (i := 3) rfl)) (fun _ h9 => h9) rfl dX2_columnStays_73 ?_
          refine lv_iload_n hx hb dX2_columnStays_76 rfl (lv_at hl 3 rfl) ?_
          refine pr_i (va_runVN (As := [.ref (ad 1), .int p1]) (rest := []) ⟨hx, hb, hml, hown, hts⟩ (k_X1_changedColumnOf l D cyI cyZ (ad 7) (ad 8) (ad 9) (ad 1) (ad 2) (ad 3) zt zb p1) ⟨va_cnB 2 hts gX2_columnStays_X1_changedColumnOf_n262 rfl rfl rfl (hG.2.1 (RX2, 262, yX1_changedColumnOf, "TableSplice") (List.mem_of_getElem? (i := 7) rfl)) (hts (.initialized RX1) (List.mem_of_getElem? (i := 5) rfl)) (by decide +kernel) ⟨Nat.le_of_ble_eq_true rfl, Nat.le_of_ble_eq_true rfl⟩, hts (.instanceMethod yX1_changedColumnOf) (List.mem_of_getElem? (i := 9) rfl), hts (.selects RX1 yX1_changedColumnOf yX1_changedColumnOf) (List.mem_of_getElem? (i := 10) rfl)⟩ (prV hG (hP.sub (ws' := wU cyI (ad 7) (ad 8) (ad 9) zt (ad 1) (ad 2) (ad 3) zb) [7, 8, 9, 1, 2, 3] rfl) (ci := 1) rfl rfl rfl) rfl rfl hl.1 rfl (lv_room (Nat.le_of_ble_eq_true rfl)) dX2_columnStays_77 ⟨Nat.zero_le _, Nat.zero_le _⟩) hS hP (fun H locs hP hS => ?_)
          refine lv_if_eq (tgt := 87) hx hb dX2_columnStays_80 (by decide) (fun c_80 => ?_) (fun c_80 => ?_)
          · refine lv_iconst (v := 0) hx hb dX2_columnStays_87 (by decide) ?_
            have ef : f_X2_columnStays zb zo zt p1 = 0 := by rw [f_X2_columnStays, if_neg c_19, if_pos c_23, if_neg c_36, if_pos c_65, if_pos c_80]
            exact W.zret (v := 0) (ty := .boolean) hx hb hr rfl (fun t ht hW => ⟨⟨0, (), rfl, ef.symm, trivial⟩, hS.F ht⟩) hS.2.2 dX2_columnStays_88
          · refine lv_iconst (v := 1) hx hb dX2_columnStays_83 (by decide) ?_
            refine lv_goto (tgt := 88) hx hb dX2_columnStays_84 (by decide) ?_
            have ef : f_X2_columnStays zb zo zt p1 = 1 := by rw [f_X2_columnStays, if_neg c_19, if_pos c_23, if_neg c_36, if_pos c_65, if_neg c_80]
            exact W.zret (v := 1) (ty := .boolean) hx hb hr rfl (fun t ht hW => ⟨⟨1, (), rfl, ef.symm, trivial⟩, hS.F ht⟩) hS.2.2 dX2_columnStays_88
      · refine lv_iload_n hx hb dX2_columnStays_39 rfl (lv_at hl 1 rfl) ?_
        refine lv_if_ne (tgt := 47) hx hb dX2_columnStays_40 (by decide) (fun c_40 => ?_) (fun c_40 => ?_)
        · refine lv_iconst (v := 1) hx hb dX2_columnStays_47 (by decide) ?_
          refine lv_goto (tgt := 52) hx hb dX2_columnStays_48 (by decide) ?_
          have ef : f_X2_columnStays zb zo zt p1 = 1 := by rw [f_X2_columnStays, if_neg c_19, if_pos c_23, if_pos c_36]
          exact W.zret (v := 1) (ty := .boolean) hx hb hr rfl (fun t ht hW => ⟨⟨1, (), rfl, ef.symm, trivial⟩, hS.F ht⟩) hS.2.2 dX2_columnStays_52
        · exact absurd c_40 c_19
    · refine lv_iconst (v := 1) hx hb dX2_columnStays_26 (by decide) ?_
      have ef : f_X2_columnStays zb zo zt p1 = 1 := by rw [f_X2_columnStays, if_neg c_19, if_neg c_23]
      exact W.zret (v := 1) (ty := .boolean) hx hb hr rfl (fun t ht hW => ⟨⟨1, (), rfl, ef.symm, trivial⟩, hS.F ht⟩) hS.2.2 dX2_columnStays_27
def f_X2_mergedName (zb : Tr) (zo : Tr) (zt : Tr) (p1 : Int32) : Int32 := if (f_X1_hasColumn zo p1) = 0 then f_X1_nameAt zt p1 else (if (f_X1_renamedColumnOf zt zb p1) = 0 then f_X1_nameAt zo p1 else (if (f_X1_renamedColumnOf zo zb p1) = 0 then f_X1_nameAt zt p1 else f_X1_nameAt zo p1))
theorem uin_X2_mergedName_X2 : ∀ w ∈ wsX20, w ∈ wsX2_mergedName := fun _ h => List.mem_cons_of_mem _ (List.mem_append_left _ (List.mem_append_right _ h))
theorem uin_X2_mergedName_X1 : ∀ w ∈ wsX10, w ∈ wsX2_mergedName := fun _ h => List.mem_cons_of_mem _ (List.mem_append_right _ h)
set_option maxHeartbeats 4000000 in
set_option maxRecDepth 100000 in
theorem k_X2_mergedName (l : Launch) (D : va_G) (cyI cyZ : ClassId) (ad : Nat → Nat) (zb : Tr) (zo : Tr) (zt : Tr) (zm : Tr) (zu : Nat → Int32) (zr : Nat → Int32) (zl : Lr) (zf : Int32) (p1 : Int32) : Met l yX2_mergedName wsX2_mergedName ({ frames := 3, cells := 0, slots := 0, locals := 64 } : Room) (pcP D cyI cyZ [.ref (ad 0), .int p1] (wZ cyI cyZ ad zb zo zt zm zu zr zl zf)) (qI (f_X2_mergedName zb zo zt p1)) 0 0 nA := by
  refine Met.ofW (cc := cX2_mergedName) (maxL := 3) (ret := (some .int)) (by decide) rfl ?_
  intro p e s m args below meth c s₁ B hml hv
  obtain ⟨rfl, hP, hG⟩ := hv
  have hx := B.exec
  have hb := B.bytes
  have hr := B.returns
  have hts := atoms_spec (ws := wsX2_mergedName) B.pre
  have hown : s.vm.findClass RX2 = some m.cls := findClass_of_methodNamed B.named
  have hlocks := B.notSynchronized
  have hS : va_S nA s.heap s.heap [] := va_S.rf
  have hl := lv_entry ([.ref (ad 0), .int p1]) (n := 3) (Nat.le_of_ble_eq_true rfl)
  rw [lg_entry_eq]
  generalize (lg_sl ([.ref (ad 0), .int p1]) ++ List.replicate (3 - (lg_sl ([.ref (ad 0), .int p1])).length) Slot.unset).toArray = ls at hl ⊢
  have hl : lv_has ls 3 [(0, .ref (ad 0)), (1, .int p1)] := hl
  have hP : va_P D vwCl (wZ cyI cyZ ad zb zo zt zm zu zr zl zf) s.heap := hP
  refine lv_aload_n hx hb dX2_mergedName_0 rfl (lv_at hl 0 rfl) ?_
  refine va_get (D := D) (ci := 2) (v := .ref (ad 4)) (C := RX2) (T := TX2) (N := 8) hx hb hts uin_X2_mergedName_X2 hown hG.1 hP 0 rfl rfl 1 (by decide) (hts (.fieldLink RX2 16 "TableSplice" "ours" "LTableSplice$Table;") (List.mem_of_getElem? (i := 1) rfl)) (fun _ h9 => h9) rfl dX2_mergedName_1 ?_
  refine lv_iload_n hx hb dX2_mergedName_4 rfl (lv_at hl 1 rfl) ?_
  refine pr_i (va_runVN (As := [.int p1]) (rest := []) ⟨hx, hb, hml, hown, hts⟩ (k_X1_hasColumn l D cyI cyZ (ad 4) (ad 5) (ad 6) zo p1) ⟨va_cnB 1 hts gX2_mergedName_X1_hasColumn_n55 rfl rfl rfl (hG.2.1 (RX2, 55, yX1_hasColumn, "TableSplice") (List.mem_of_getElem? (i := 6) rfl)) (hts (.initialized RX1) (List.mem_of_getElem? (i := 5) rfl)) (by decide +kernel) ⟨Nat.le_of_ble_eq_true rfl, Nat.le_of_ble_eq_true rfl⟩, hts (.instanceMethod yX1_hasColumn) (List.mem_of_getElem? (i := 4) rfl), hts (.selects RX1 yX1_hasColumn yX1_hasColumn) (List.mem_of_getElem? (i := 6) rfl)⟩ (prV hG (hP.sub (ws' := wT cyI (ad 4) (ad 5) (ad 6) zo) [4, 5, 6] rfl) (ci := 1) rfl rfl rfl) rfl rfl hl.1 rfl (lv_room (Nat.le_of_ble_eq_true rfl)) dX2_mergedName_5 ⟨Nat.zero_le _, Nat.zero_le _⟩) hS hP (fun H locs hP hS => ?_)
  refine lv_if_ne (tgt := 20) hx hb dX2_mergedName_8 (by decide) (fun c_8 => ?_) (fun c_8 => ?_)
  · refine lv_aload_n hx hb dX2_mergedName_20 rfl (lv_at hl 0 rfl) ?_
    refine va_get (D := D) (ci := 2) (v := .ref (ad 7)) (C := RX2) (T := TX2) (N := 8) hx hb hts uin_X2_mergedName_X2 hown hG.1 hP 0 rfl rfl 2 (by decide) (hts (.fieldLink RX2 19 "TableSplice" "theirs" "LTableSplice$Table;") (List.mem_of_getElem? (i := 2) rfl)) (fun _ h9 => h9) rfl dX2_mergedName_21 ?_
    refine lv_aload_n hx hb dX2_mergedName_24 rfl (lv_at hl 0 rfl) ?_
    refine va_get (D := D) (ci := 2) (v := .ref (ad 1)) (C := RX2) (T := TX2) (N := 8) hx hb hts uin_X2_mergedName_X2 hown hG.1 hP 0 rfl rfl 0 (by decide) (hts (.fieldLink RX2 10 "TableSplice" "base" "LTableSplice$Table;") (List.mem_of_getElem? (i := 3) rfl)) (fun _ h9 => h9) rfl dX2_mergedName_25 ?_
    refine lv_iload_n hx hb dX2_mergedName_28 rfl (lv_at hl 1 rfl) ?_
    refine pr_i (va_runVN (As := [.ref (ad 1), .int p1]) (rest := []) ⟨hx, hb, hml, hown, hts⟩ (k_X1_renamedColumnOf l D cyI cyZ (ad 7) (ad 8) (ad 9) (ad 1) (ad 2) (ad 3) zt zb p1) ⟨va_cnB 2 hts gX2_mergedName_X1_renamedColumnOf_n266 rfl rfl rfl (hG.2.1 (RX2, 266, yX1_renamedColumnOf, "TableSplice") (List.mem_of_getElem? (i := 9) rfl)) (hts (.initialized RX1) (List.mem_of_getElem? (i := 5) rfl)) (by decide +kernel) ⟨Nat.le_of_ble_eq_true rfl, Nat.le_of_ble_eq_true rfl⟩, hts (.instanceMethod yX1_renamedColumnOf) (List.mem_of_getElem? (i := 14) rfl), hts (.selects RX1 yX1_renamedColumnOf yX1_renamedColumnOf) (List.mem_of_getElem? (i := 15) rfl)⟩ (prV hG (hP.sub (ws' := wU cyI (ad 7) (ad 8) (ad 9) zt (ad 1) (ad 2) (ad 3) zb) [7, 8, 9, 1, 2, 3] rfl) (ci := 1) rfl rfl rfl) rfl rfl hl.1 rfl (lv_room (Nat.le_of_ble_eq_true rfl)) dX2_mergedName_29 ⟨Nat.zero_le _, Nat.zero_le _⟩) hS hP (fun H locs hP hS => ?_)
    refine lv_if_eq (tgt := 54) hx hb dX2_mergedName_32 (by decide) (fun c_32 => ?_) (fun c_32 => ?_)
    · refine lv_iconst (v := 0) hx hb dX2_mergedName_54 (by decide) ?_
      refine lv_istore_n (lv' := [(2, .int 0), (0, .ref (ad 0)), (1, .int p1)]) hx hb dX2_mergedName_55 rfl hl (by decide) rfl (fun ls hl => ?_)
      refine lv_iload_n hx hb dX2_mergedName_56 rfl (lv_at hl 0 rfl) ?_
      refine lv_if_eq (tgt := 71) hx hb dX2_mergedName_57 (by decide) (fun c_57 => ?_) (fun c_57 => ?_)
      · refine lv_aload_n hx hb dX2_mergedName_71 rfl (lv_at hl 1 rfl) ?_
        refine va_get (D := D) (ci := 2) (v := .ref (ad 4)) (C := RX2) (T := TX2) (N := 8) hx hb hts uin_X2_mergedName_X2 hown hG.1 hP 0 rfl rfl 1 (by decide) (hts (.fieldLink RX2 16 "TableSplice" "ours" "LTableSplice$Table;") (List.mem_of_getElem? (i := 1) rfl)) (fun _ h9 => h9) rfl dX2_mergedName_72 ?_
        refine lv_iload_n hx hb dX2_mergedName_75 rfl (lv_at hl 2 rfl) ?_
        refine pr_i (va_runVN (As := [.int p1]) (rest := []) ⟨hx, hb, hml, hown, hts⟩ (k_X1_nameAt l D cyI cyZ (ad 4) (ad 5) (ad 6) zo p1) ⟨va_cnB 1 hts gX2_mergedName_X1_nameAt_n78 rfl rfl rfl (hG.2.1 (RX2, 78, yX1_nameAt, "TableSplice") (List.mem_of_getElem? (i := 8) rfl)) (hts (.initialized RX1) (List.mem_of_getElem? (i := 5) rfl)) (by decide +kernel) ⟨Nat.le_of_ble_eq_true rfl, Nat.le_of_ble_eq_true rfl⟩, hts (.instanceMethod yX1_nameAt) (List.mem_of_getElem? (i := 9) rfl), hts (.selects RX1 yX1_nameAt yX1_nameAt) (List.mem_of_getElem? (i := 10) rfl)⟩ (prV hG (hP.sub (ws' := wT cyI (ad 4) (ad 5) (ad 6) zo) [4, 5, 6] rfl) (ci := 1) rfl rfl rfl) rfl rfl hl.1 rfl (lv_room (Nat.le_of_ble_eq_true rfl)) dX2_mergedName_76 ⟨Nat.zero_le _, Nat.zero_le _⟩) hS hP (fun H locs hP hS => ?_)
        have ef : f_X2_mergedName zb zo zt p1 = f_X1_nameAt zo p1 := by rw [f_X2_mergedName, if_neg c_8, if_pos c_32]
        exact W.iret (v := f_X1_nameAt zo p1) hx hb hr (fun t ht hW => ⟨⟨f_X1_nameAt zo p1, (), rfl, ef.symm, trivial⟩, hS.F ht⟩) hS.2.2 dX2_mergedName_79
      · exact absurd (by decide) c_57
    · refine lv_aload_n hx hb dX2_mergedName_35 rfl (lv_at hl 0 rfl) ?_
      refine va_get (D := D) (ci := 2) (v := .ref (ad 4)) (C := RX2) (T := TX2) (N := 8) hx hb hts uin_X2_mergedName_X2 hown hG.1 hP 0 rfl rfl 1 (by decide) (hts (.fieldLink RX2 16 "TableSplice" "ours" "LTableSplice$Table;") (List.mem_of_getElem? (i := 1) rfl)) (fun _ h9 => h9) rfl dX2_mergedName_36 ?_
      refine lv_aload_n hx hb dX2_mergedName_39 rfl (lv_at hl 0 rfl) ?_
      refine va_get (D := D) (ci := 2) (v := .ref (ad 1)) (C := RX2) (T := TX2) (N := 8) hx hb hts uin_X2_mergedName_X2 hown hG.1 hP 0 rfl rfl 0 (by decide) (hts (.fieldLink RX2 10 "TableSplice" "base" "LTableSplice$Table;") (List.mem_of_getElem? (i := 3) rfl)) (fun _ h9 => h9) rfl dX2_mergedName_40 ?_
      refine lv_iload_n hx hb dX2_mergedName_43 rfl (lv_at hl 1 rfl) ?_
      refine pr_i (va_runVN (As := [.ref (ad 1), .int p1]) (rest := []) ⟨hx, hb, hml, hown, hts⟩ (k_X1_renamedColumnOf l D cyI cyZ (ad 4) (ad 5) (ad 6) (ad 1) (ad 2) (ad 3) zo zb p1) ⟨va_cnB 2 hts gX2_mergedName_X1_renamedColumnOf_n266 rfl rfl rfl (hG.2.1 (RX2, 266, yX1_renamedColumnOf, "TableSplice") (List.mem_of_getElem? (i := 9) rfl)) (hts (.initialized RX1) (List.mem_of_getElem? (i := 5) rfl)) (by decide +kernel) ⟨Nat.le_of_ble_eq_true rfl, Nat.le_of_ble_eq_true rfl⟩, hts (.instanceMethod yX1_renamedColumnOf) (List.mem_of_getElem? (i := 14) rfl), hts (.selects RX1 yX1_renamedColumnOf yX1_renamedColumnOf) (List.mem_of_getElem? (i := 15) rfl)⟩ (prV hG (hP.sub (ws' := wU cyI (ad 4) (ad 5) (ad 6) zo (ad 1) (ad 2) (ad 3) zb) [4, 5, 6, 1, 2, 3] rfl) (ci := 1) rfl rfl rfl) rfl rfl hl.1 rfl (lv_room (Nat.le_of_ble_eq_true rfl)) dX2_mergedName_44 ⟨Nat.zero_le _, Nat.zero_le _⟩) hS hP (fun H locs hP hS => ?_)
      refine lv_if_ne (tgt := 54) hx hb dX2_mergedName_47 (by decide) (fun c_47 => ?_) (fun c_47 => ?_)
      · refine lv_iconst (v := 0) hx hb dX2_mergedName_54 (by decide) ?_
        refine lv_istore_n (lv' := [(2, .int 0), (0, .ref (ad 0)), (1, .int p1)]) hx hb dX2_mergedName_55 rfl hl (by decide) rfl (fun ls hl => ?_)
        refine lv_iload_n hx hb dX2_mergedName_56 rfl (lv_at hl 0 rfl) ?_
        refine lv_if_eq (tgt := 71) hx hb dX2_mergedName_57 (by decide) (fun c_57 => ?_) (fun c_57 => ?_)
        · refine lv_aload_n hx hb dX2_mergedName_71 rfl (lv_at hl 1 rfl) ?_
          refine va_get (D := D) (ci := 2) (v := .ref (ad 4)) (C := RX2) (T := TX2) (N := 8) hx hb hts uin_X2_mergedName_X2 hown hG.1 hP 0 rfl rfl 1 (by decide) (hts (.fieldLink RX2 16 "TableSplice" "ours" "LTableSplice$Table;") (List.mem_of_getElem? (i := 1) rfl)) (fun _ h9 => h9) rfl dX2_mergedName_72 ?_
          refine lv_iload_n hx hb dX2_mergedName_75 rfl (lv_at hl 2 rfl) ?_
          refine pr_i (va_runVN (As := [.int p1]) (rest := []) ⟨hx, hb, hml, hown, hts⟩ (k_X1_nameAt l D cyI cyZ (ad 4) (ad 5) (ad 6) zo p1) ⟨va_cnB 1 hts gX2_mergedName_X1_nameAt_n78 rfl rfl rfl (hG.2.1 (RX2, 78, yX1_nameAt, "TableSplice") (List.mem_of_getElem? (i := 8) rfl)) (hts (.initialized RX1) (List.mem_of_getElem? (i := 5) rfl)) (by decide +kernel) ⟨Nat.le_of_ble_eq_true rfl, Nat.le_of_ble_eq_true rfl⟩, hts (.instanceMethod yX1_nameAt) (List.mem_of_getElem? (i := 9) rfl), hts (.selects RX1 yX1_nameAt yX1_nameAt) (List.mem_of_getElem? (i := 10) rfl)⟩ (prV hG (hP.sub (ws' := wT cyI (ad 4) (ad 5) (ad 6) zo) [4, 5, 6] rfl) (ci := 1) rfl rfl rfl) rfl rfl hl.1 rfl (lv_room (Nat.le_of_ble_eq_true rfl)) dX2_mergedName_76 ⟨Nat.zero_le _, Nat.zero_le _⟩) hS hP (fun H locs hP hS => ?_)
          have ef : f_X2_mergedName zb zo zt p1 = f_X1_nameAt zo p1 := by rw [f_X2_mergedName, if_neg c_8, if_neg c_32, if_neg c_47]
          exact W.iret (v := f_X1_nameAt zo p1) hx hb hr (fun t ht hW => ⟨⟨f_X1_nameAt zo p1, (), rfl, ef.symm, trivial⟩, hS.F ht⟩) hS.2.2 dX2_mergedName_79
        · exact absurd (by decide) c_57
      · refine lv_iconst (v := 1) hx hb dX2_mergedName_50 (by decide) ?_
        refine lv_goto (tgt := 55) hx hb dX2_mergedName_51 (by decide) ?_
        refine lv_istore_n (lv' := [(2, .int 1), (0, .ref (ad 0)), (1, .int p1)]) hx hb dX2_mergedName_55 rfl hl (by decide) rfl (fun ls hl => ?_)
        refine lv_iload_n hx hb dX2_mergedName_56 rfl (lv_at hl 0 rfl) ?_
        refine lv_if_eq (tgt := 71) hx hb dX2_mergedName_57 (by decide) (fun c_57 => ?_) (fun c_57 => ?_)
        · exact absurd c_57 (by decide)
        · refine lv_aload_n hx hb dX2_mergedName_60 rfl (lv_at hl 1 rfl) ?_
          refine va_get (D := D) (ci := 2) (v := .ref (ad 7)) (C := RX2) (T := TX2) (N := 8) hx hb hts uin_X2_mergedName_X2 hown hG.1 hP 0 rfl rfl 2 (by decide) (hts (.fieldLink RX2 19 "TableSplice" "theirs" "LTableSplice$Table;") (List.mem_of_getElem? (i := 2) rfl)) (fun _ h9 => h9) rfl dX2_mergedName_61 ?_
          refine lv_iload_n hx hb dX2_mergedName_64 rfl (lv_at hl 2 rfl) ?_
          refine pr_i (va_runVN (As := [.int p1]) (rest := []) ⟨hx, hb, hml, hown, hts⟩ (k_X1_nameAt l D cyI cyZ (ad 7) (ad 8) (ad 9) zt p1) ⟨va_cnB 1 hts gX2_mergedName_X1_nameAt_n78 rfl rfl rfl (hG.2.1 (RX2, 78, yX1_nameAt, "TableSplice") (List.mem_of_getElem? (i := 8) rfl)) (hts (.initialized RX1) (List.mem_of_getElem? (i := 5) rfl)) (by decide +kernel) ⟨Nat.le_of_ble_eq_true rfl, Nat.le_of_ble_eq_true rfl⟩, hts (.instanceMethod yX1_nameAt) (List.mem_of_getElem? (i := 9) rfl), hts (.selects RX1 yX1_nameAt yX1_nameAt) (List.mem_of_getElem? (i := 10) rfl)⟩ (prV hG (hP.sub (ws' := wT cyI (ad 7) (ad 8) (ad 9) zt) [7, 8, 9] rfl) (ci := 1) rfl rfl rfl) rfl rfl hl.1 rfl (lv_room (Nat.le_of_ble_eq_true rfl)) dX2_mergedName_65 ⟨Nat.zero_le _, Nat.zero_le _⟩) hS hP (fun H locs hP hS => ?_)
          refine lv_goto (tgt := 79) hx hb dX2_mergedName_68 (by decide) ?_
          have ef : f_X2_mergedName zb zo zt p1 = f_X1_nameAt zt p1 := by rw [f_X2_mergedName, if_neg c_8, if_neg c_32, if_pos c_47]
          exact W.iret (v := f_X1_nameAt zt p1) hx hb hr (fun t ht hW => ⟨⟨f_X1_nameAt zt p1, (), rfl, ef.symm, trivial⟩, hS.F ht⟩) hS.2.2 dX2_mergedName_79
  · refine lv_aload_n hx hb dX2_mergedName_11 rfl (lv_at hl 0 rfl) ?_
    refine va_get (D := D) (ci := 2) (v := .ref (ad 7)) (C := RX2) (T := TX2) (N := 8) hx hb hts uin_X2_mergedName_X2 hown hG.1 hP 0 rfl rfl 2 (by decide) (hts (.fieldLink RX2 19 "TableSplice" "theirs" "LTableSplice$Table;") (List.mem_of_getElem? (i := 2) rfl)) (fun _ h9 => h9) rfl dX2_mergedName_12 ?_
    refine lv_iload_n hx hb dX2_mergedName_15 rfl (lv_at hl 1 rfl) ?_
    refine pr_i (va_runVN (As := [.int p1]) (rest := []) ⟨hx, hb, hml, hown, hts⟩ (k_X1_nameAt l D cyI cyZ (ad 7) (ad 8) (ad 9) zt p1) ⟨va_cnB 1 hts gX2_mergedName_X1_nameAt_n78 rfl rfl rfl (hG.2.1 (RX2, 78, yX1_nameAt, "TableSplice") (List.mem_of_getElem? (i := 8) rfl)) (hts (.initialized RX1) (List.mem_of_getElem? (i := 5) rfl)) (by decide +kernel) ⟨Nat.le_of_ble_eq_true rfl, Nat.le_of_ble_eq_true rfl⟩, hts (.instanceMethod yX1_nameAt) (List.mem_of_getElem? (i := 9) rfl), hts (.selects RX1 yX1_nameAt yX1_nameAt) (List.mem_of_getElem? (i := 10) rfl)⟩ (prV hG (hP.sub (ws' := wT cyI (ad 7) (ad 8) (ad 9) zt) [7, 8, 9] rfl) (ci := 1) rfl rfl rfl) rfl rfl hl.1 rfl (lv_room (Nat.le_of_ble_eq_true rfl)) dX2_mergedName_16 ⟨Nat.zero_le _, Nat.zero_le _⟩) hS hP (fun H locs hP hS => ?_)
    have ef : f_X2_mergedName zb zo zt p1 = f_X1_nameAt zt p1 := by rw [f_X2_mergedName, if_pos c_8]
    exact W.iret (v := f_X1_nameAt zt p1) hx hb hr (fun t ht hW => ⟨⟨f_X1_nameAt zt p1, (), rfl, ef.symm, trivial⟩, hS.F ht⟩) hS.2.2 dX2_mergedName_19
def f_X2_namesAreAtOdds (zb : Tr) (zo : Tr) (zt : Tr) (p1 : Int32) : Int32 := if (f_X1_nameAt zo p1) = (f_X1_nameAt zt p1) then 0 else (if (f_X1_renamedColumnOf zo zb p1) = (f_X1_renamedColumnOf zt zb p1) then 1 else 0)
theorem uin_X2_namesAreAtOdds_X2 : ∀ w ∈ wsX20, w ∈ wsX2_namesAreAtOdds := fun _ h => List.mem_cons_of_mem _ (List.mem_append_left _ (List.mem_append_right _ h))
theorem uin_X2_namesAreAtOdds_X1 : ∀ w ∈ wsX10, w ∈ wsX2_namesAreAtOdds := fun _ h => List.mem_cons_of_mem _ (List.mem_append_right _ h)
set_option maxHeartbeats 4000000 in
set_option maxRecDepth 100000 in
theorem k_X2_namesAreAtOdds (l : Launch) (D : va_G) (cyI cyZ : ClassId) (ad : Nat → Nat) (zb : Tr) (zo : Tr) (zt : Tr) (zm : Tr) (zu : Nat → Int32) (zr : Nat → Int32) (zl : Lr) (zf : Int32) (p1 : Int32) : Met l yX2_namesAreAtOdds wsX2_namesAreAtOdds ({ frames := 3, cells := 0, slots := 0, locals := 64 } : Room) (pcP D cyI cyZ [.ref (ad 0), .int p1] (wZ cyI cyZ ad zb zo zt zm zu zr zl zf)) (qI (f_X2_namesAreAtOdds zb zo zt p1)) 0 0 nA := by
  refine Met.ofW (cc := cX2_namesAreAtOdds) (maxL := 2) (ret := (some .boolean)) (by decide) rfl ?_
  intro p e s m args below meth c s₁ B hml hv
  obtain ⟨rfl, hP, hG⟩ := hv
  have hx := B.exec
  have hb := B.bytes
  have hr := B.returns
  have hts := atoms_spec (ws := wsX2_namesAreAtOdds) B.pre
  have hown : s.vm.findClass RX2 = some m.cls := findClass_of_methodNamed B.named
  have hlocks := B.notSynchronized
  have hS : va_S nA s.heap s.heap [] := va_S.rf
  have hl := lv_entry ([.ref (ad 0), .int p1]) (n := 2) (Nat.le_of_ble_eq_true rfl)
  rw [lg_entry_eq]
  generalize (lg_sl ([.ref (ad 0), .int p1]) ++ List.replicate (2 - (lg_sl ([.ref (ad 0), .int p1])).length) Slot.unset).toArray = ls at hl ⊢
  have hl : lv_has ls 2 [(0, .ref (ad 0)), (1, .int p1)] := hl
  have hP : va_P D vwCl (wZ cyI cyZ ad zb zo zt zm zu zr zl zf) s.heap := hP
  refine lv_aload_n hx hb dX2_namesAreAtOdds_0 rfl (lv_at hl 0 rfl) ?_
  refine va_get (D := D) (ci := 2) (v := .ref (ad 4)) (C := RX2) (T := TX2) (N := 8) hx hb hts uin_X2_namesAreAtOdds_X2 hown hG.1 hP 0 rfl rfl 1 (by decide) (hts (.fieldLink RX2 16 "TableSplice" "ours" "LTableSplice$Table;") (List.mem_of_getElem? (i := 1) rfl)) (fun _ h9 => h9) rfl dX2_namesAreAtOdds_1 ?_
  refine lv_iload_n hx hb dX2_namesAreAtOdds_4 rfl (lv_at hl 1 rfl) ?_
  refine pr_i (va_runVN (As := [.int p1]) (rest := []) ⟨hx, hb, hml, hown, hts⟩ (k_X1_nameAt l D cyI cyZ (ad 4) (ad 5) (ad 6) zo p1) ⟨va_cnB 1 hts gX2_namesAreAtOdds_X1_nameAt_n78 rfl rfl rfl (hG.2.1 (RX2, 78, yX1_nameAt, "TableSplice") (List.mem_of_getElem? (i := 8) rfl)) (hts (.initialized RX1) (List.mem_of_getElem? (i := 5) rfl)) (by decide +kernel) ⟨Nat.le_of_ble_eq_true rfl, Nat.le_of_ble_eq_true rfl⟩, hts (.instanceMethod yX1_nameAt) (List.mem_of_getElem? (i := 4) rfl), hts (.selects RX1 yX1_nameAt yX1_nameAt) (List.mem_of_getElem? (i := 6) rfl)⟩ (prV hG (hP.sub (ws' := wT cyI (ad 4) (ad 5) (ad 6) zo) [4, 5, 6] rfl) (ci := 1) rfl rfl rfl) rfl rfl hl.1 rfl (lv_room (Nat.le_of_ble_eq_true rfl)) dX2_namesAreAtOdds_5 ⟨Nat.zero_le _, Nat.zero_le _⟩) hS hP (fun H locs hP hS => ?_)
  refine lv_aload_n hx hb dX2_namesAreAtOdds_8 rfl (lv_at hl 0 rfl) ?_
  refine va_get (D := D) (ci := 2) (v := .ref (ad 7)) (C := RX2) (T := TX2) (N := 8) hx hb hts uin_X2_namesAreAtOdds_X2 hown hG.1 hP 0 rfl rfl 2 (by decide) (hts (.fieldLink RX2 19 "TableSplice" "theirs" "LTableSplice$Table;") (List.mem_of_getElem? (i := 2) rfl)) (fun _ h9 => h9) rfl dX2_namesAreAtOdds_9 ?_
  refine lv_iload_n hx hb dX2_namesAreAtOdds_12 rfl (lv_at hl 1 rfl) ?_
  refine pr_i (va_runVN (As := [.int p1]) (rest := [.int (f_X1_nameAt zo p1)]) ⟨hx, hb, hml, hown, hts⟩ (k_X1_nameAt l D cyI cyZ (ad 7) (ad 8) (ad 9) zt p1) ⟨va_cnB 1 hts gX2_namesAreAtOdds_X1_nameAt_n78 rfl rfl rfl (hG.2.1 (RX2, 78, yX1_nameAt, "TableSplice") (List.mem_of_getElem? (i := 8) rfl)) (hts (.initialized RX1) (List.mem_of_getElem? (i := 5) rfl)) (by decide +kernel) ⟨Nat.le_of_ble_eq_true rfl, Nat.le_of_ble_eq_true rfl⟩, hts (.instanceMethod yX1_nameAt) (List.mem_of_getElem? (i := 4) rfl), hts (.selects RX1 yX1_nameAt yX1_nameAt) (List.mem_of_getElem? (i := 6) rfl)⟩ (prV hG (hP.sub (ws' := wT cyI (ad 7) (ad 8) (ad 9) zt) [7, 8, 9] rfl) (ci := 1) rfl rfl rfl) rfl rfl hl.1 rfl (lv_room (Nat.le_of_ble_eq_true rfl)) dX2_namesAreAtOdds_13 ⟨Nat.zero_le _, Nat.zero_le _⟩) hS hP (fun H locs hP hS => ?_)
  refine lv_icmp_eq (tgt := 50) hx hb dX2_namesAreAtOdds_16 (by decide) (fun c_16 => ?_) (fun c_16 => ?_)
  · refine lv_iconst (v := 0) hx hb dX2_namesAreAtOdds_50 (by decide) ?_
    have ef : f_X2_namesAreAtOdds zb zo zt p1 = 0 := by rw [f_X2_namesAreAtOdds, if_pos c_16]
    exact W.zret (v := 0) (ty := .boolean) hx hb hr rfl (fun t ht hW => ⟨⟨0, (), rfl, ef.symm, trivial⟩, hS.F ht⟩) hS.2.2 dX2_namesAreAtOdds_51
  · refine lv_aload_n hx hb dX2_namesAreAtOdds_19 rfl (lv_at hl 0 rfl) ?_
    refine va_get (D := D) (ci := 2) (v := .ref (ad 4)) (C := RX2) (T := TX2) (N := 8) hx hb hts uin_X2_namesAreAtOdds_X2 hown hG.1 hP 0 rfl rfl 1 (by decide) (hts (.fieldLink RX2 16 "TableSplice" "ours" "LTableSplice$Table;") (List.mem_of_getElem? (i := 1) rfl)) (fun _ h9 => h9) rfl dX2_namesAreAtOdds_20 ?_
    refine lv_aload_n hx hb dX2_namesAreAtOdds_23 rfl (lv_at hl 0 rfl) ?_
    refine va_get (D := D) (ci := 2) (v := .ref (ad 1)) (C := RX2) (T := TX2) (N := 8) hx hb hts uin_X2_namesAreAtOdds_X2 hown hG.1 hP 0 rfl rfl 0 (by decide) (hts (.fieldLink RX2 10 "TableSplice" "base" "LTableSplice$Table;") (List.mem_of_getElem? (i := 3) rfl)) (fun _ h9 => h9) rfl dX2_namesAreAtOdds_24 ?_
    refine lv_iload_n hx hb dX2_namesAreAtOdds_27 rfl (lv_at hl 1 rfl) ?_
    refine pr_i (va_runVN (As := [.ref (ad 1), .int p1]) (rest := []) ⟨hx, hb, hml, hown, hts⟩ (k_X1_renamedColumnOf l D cyI cyZ (ad 4) (ad 5) (ad 6) (ad 1) (ad 2) (ad 3) zo zb p1) ⟨va_cnB 2 hts gX2_namesAreAtOdds_X1_renamedColumnOf_n266 rfl rfl rfl (hG.2.1 (RX2, 266, yX1_renamedColumnOf, "TableSplice") (List.mem_of_getElem? (i := 9) rfl)) (hts (.initialized RX1) (List.mem_of_getElem? (i := 5) rfl)) (by decide +kernel) ⟨Nat.le_of_ble_eq_true rfl, Nat.le_of_ble_eq_true rfl⟩, hts (.instanceMethod yX1_renamedColumnOf) (List.mem_of_getElem? (i := 14) rfl), hts (.selects RX1 yX1_renamedColumnOf yX1_renamedColumnOf) (List.mem_of_getElem? (i := 15) rfl)⟩ (prV hG (hP.sub (ws' := wU cyI (ad 4) (ad 5) (ad 6) zo (ad 1) (ad 2) (ad 3) zb) [4, 5, 6, 1, 2, 3] rfl) (ci := 1) rfl rfl rfl) rfl rfl hl.1 rfl (lv_room (Nat.le_of_ble_eq_true rfl)) dX2_namesAreAtOdds_28 ⟨Nat.zero_le _, Nat.zero_le _⟩) hS hP (fun H locs hP hS => ?_)
    refine lv_aload_n hx hb dX2_namesAreAtOdds_31 rfl (lv_at hl 0 rfl) ?_
    refine va_get (D := D) (ci := 2) (v := .ref (ad 7)) (C := RX2) (T := TX2) (N := 8) hx hb hts uin_X2_namesAreAtOdds_X2 hown hG.1 hP 0 rfl rfl 2 (by decide) (hts (.fieldLink RX2 19 "TableSplice" "theirs" "LTableSplice$Table;") (List.mem_of_getElem? (i := 2) rfl)) (fun _ h9 => h9) rfl dX2_namesAreAtOdds_32 ?_
    refine lv_aload_n hx hb dX2_namesAreAtOdds_35 rfl (lv_at hl 0 rfl) ?_
    refine va_get (D := D) (ci := 2) (v := .ref (ad 1)) (C := RX2) (T := TX2) (N := 8) hx hb hts uin_X2_namesAreAtOdds_X2 hown hG.1 hP 0 rfl rfl 0 (by decide) (hts (.fieldLink RX2 10 "TableSplice" "base" "LTableSplice$Table;") (List.mem_of_getElem? (i := 3) rfl)) (fun _ h9 => h9) rfl dX2_namesAreAtOdds_36 ?_
    refine lv_iload_n hx hb dX2_namesAreAtOdds_39 rfl (lv_at hl 1 rfl) ?_
    refine pr_i (va_runVN (As := [.ref (ad 1), .int p1]) (rest := [.int (f_X1_renamedColumnOf zo zb p1)]) ⟨hx, hb, hml, hown, hts⟩ (k_X1_renamedColumnOf l D cyI cyZ (ad 7) (ad 8) (ad 9) (ad 1) (ad 2) (ad 3) zt zb p1) ⟨va_cnB 2 hts gX2_namesAreAtOdds_X1_renamedColumnOf_n266 rfl rfl rfl (hG.2.1 (RX2, 266, yX1_renamedColumnOf, "TableSplice") (List.mem_of_getElem? (i := 9) rfl)) (hts (.initialized RX1) (List.mem_of_getElem? (i := 5) rfl)) (by decide +kernel) ⟨Nat.le_of_ble_eq_true rfl, Nat.le_of_ble_eq_true rfl⟩, hts (.instanceMethod yX1_renamedColumnOf) (List.mem_of_getElem? (i := 14) rfl), hts (.selects RX1 yX1_renamedColumnOf yX1_renamedColumnOf) (List.mem_of_getElem? (i := 15) rfl)⟩ (prV hG (hP.sub (ws' := wU cyI (ad 7) (ad 8) (ad 9) zt (ad 1) (ad 2) (ad 3) zb) [7, 8, 9, 1, 2, 3] rfl) (ci := 1) rfl rfl rfl) rfl rfl hl.1 rfl (lv_room (Nat.le_of_ble_eq_true rfl)) dX2_namesAreAtOdds_40 ⟨Nat.zero_le _, Nat.zero_le _⟩) hS hP (fun H locs hP hS => ?_)
    refine lv_icmp_ne (tgt := 50) hx hb dX2_namesAreAtOdds_43 (by decide) (fun c_43 => ?_) (fun c_43 => ?_)
    · refine lv_iconst (v := 0) hx hb dX2_namesAreAtOdds_50 (by decide) ?_
      have ef : f_X2_namesAreAtOdds zb zo zt p1 = 0 := by rw [f_X2_namesAreAtOdds, if_neg c_16, if_neg c_43]
      exact W.zret (v := 0) (ty := .boolean) hx hb hr rfl (fun t ht hW => ⟨⟨0, (), rfl, ef.symm, trivial⟩, hS.F ht⟩) hS.2.2 dX2_namesAreAtOdds_51
    · refine lv_iconst (v := 1) hx hb dX2_namesAreAtOdds_46 (by decide) ?_
      refine lv_goto (tgt := 51) hx hb dX2_namesAreAtOdds_47 (by decide) ?_
      have ef : f_X2_namesAreAtOdds zb zo zt p1 = 1 := by rw [f_X2_namesAreAtOdds, if_neg c_16, if_pos c_43]
      exact W.zret (v := 1) (ty := .boolean) hx hb hr rfl (fun t ht hW => ⟨⟨1, (), rfl, ef.symm, trivial⟩, hS.F ht⟩) hS.2.2 dX2_namesAreAtOdds_51
def f_X2_rowStays (zb : Tr) (zo : Tr) (zt : Tr) (p1 : Int32) : Int32 := if (f_X1_hasRow zo p1) = 0 then (if (f_X1_hasRow zb p1) = 0 then (if (f_X1_hasRow zt p1) = 0 then 0 else 1) else (if 0 < (f_X1_countCellsChanged zo zb p1) then 1 else (if (f_X1_countCellsChanged zt zb p1) ≤ 0 then 0 else 1))) else (if (f_X1_hasRow zt p1) = 0 then (if (f_X1_hasRow zb p1) = 0 then 1 else (if 0 < (f_X1_countCellsChanged zo zb p1) then 1 else (if (f_X1_countCellsChanged zt zb p1) ≤ 0 then 0 else 1))) else 1)
theorem uin_X2_rowStays_X2 : ∀ w ∈ wsX20, w ∈ wsX2_rowStays := fun _ h => List.mem_cons_of_mem _ (List.mem_append_left _ (List.mem_append_right _ h))
theorem uin_X2_rowStays_X1 : ∀ w ∈ wsX10, w ∈ wsX2_rowStays := fun _ h => List.mem_cons_of_mem _ (List.mem_append_right _ h)
set_option maxHeartbeats 4000000 in
set_option maxRecDepth 100000 in
theorem k_X2_rowStays (l : Launch) (D : va_G) (cyI cyZ : ClassId) (ad : Nat → Nat) (zb : Tr) (zo : Tr) (zt : Tr) (zm : Tr) (zu : Nat → Int32) (zr : Nat → Int32) (zl : Lr) (zf : Int32) (p1 : Int32) : Met l yX2_rowStays wsX2_rowStays ({ frames := 4, cells := 0, slots := 0, locals := 91 } : Room) (pcP D cyI cyZ [.ref (ad 0), .int p1] (wZ cyI cyZ ad zb zo zt zm zu zr zl zf)) (qI (f_X2_rowStays zb zo zt p1)) 0 0 nA := by
  refine Met.ofW (cc := cX2_rowStays) (maxL := 4) (ret := (some .boolean)) (by decide) rfl ?_
  intro p e s m args below meth c s₁ B hml hv
  obtain ⟨rfl, hP, hG⟩ := hv
  have hx := B.exec
  have hb := B.bytes
  have hr := B.returns
  have hts := atoms_spec (ws := wsX2_rowStays) B.pre
  have hown : s.vm.findClass RX2 = some m.cls := findClass_of_methodNamed B.named
  have hlocks := B.notSynchronized
  have hS : va_S nA s.heap s.heap [] := va_S.rf
  have hl := lv_entry ([.ref (ad 0), .int p1]) (n := 4) (Nat.le_of_ble_eq_true rfl)
  rw [lg_entry_eq]
  generalize (lg_sl ([.ref (ad 0), .int p1]) ++ List.replicate (4 - (lg_sl ([.ref (ad 0), .int p1])).length) Slot.unset).toArray = ls at hl ⊢
  have hl : lv_has ls 4 [(0, .ref (ad 0)), (1, .int p1)] := hl
  have hP : va_P D vwCl (wZ cyI cyZ ad zb zo zt zm zu zr zl zf) s.heap := hP
  refine lv_aload_n hx hb dX2_rowStays_0 rfl (lv_at hl 0 rfl) ?_
  refine va_get (D := D) (ci := 2) (v := .ref (ad 4)) (C := RX2) (T := TX2) (N := 8) hx hb hts uin_X2_rowStays_X2 hown hG.1 hP 0 rfl rfl 1 (by decide) (hts (.fieldLink RX2 16 "TableSplice" "ours" "LTableSplice$Table;") (List.mem_of_getElem? (i := 1) rfl)) (fun _ h9 => h9) rfl dX2_rowStays_1 ?_
  refine lv_iload_n hx hb dX2_rowStays_4 rfl (lv_at hl 1 rfl) ?_
  refine pr_i (va_runVN (As := [.int p1]) (rest := []) ⟨hx, hb, hml, hown, hts⟩ (k_X1_hasRow l D cyI cyZ (ad 4) (ad 5) (ad 6) zo p1) ⟨va_cnB 1 hts gX2_rowStays_X1_hasRow_n91 rfl rfl rfl (hG.2.1 (RX2, 91, yX1_hasRow, "TableSplice") (List.mem_of_getElem? (i := 13) rfl)) (hts (.initialized RX1) (List.mem_of_getElem? (i := 5) rfl)) (by decide +kernel) ⟨Nat.le_of_ble_eq_true rfl, Nat.le_of_ble_eq_true rfl⟩, hts (.instanceMethod yX1_hasRow) (List.mem_of_getElem? (i := 4) rfl), hts (.selects RX1 yX1_hasRow yX1_hasRow) (List.mem_of_getElem? (i := 6) rfl)⟩ (prV hG (hP.sub (ws' := wT cyI (ad 4) (ad 5) (ad 6) zo) [4, 5, 6] rfl) (ci := 1) rfl rfl rfl) rfl rfl hl.1 rfl (lv_room (Nat.le_of_ble_eq_true rfl)) dX2_rowStays_5 ⟨Nat.zero_le _, Nat.zero_le _⟩) hS hP (fun H locs hP hS => ?_)
  refine lv_istore_n (lv' := [(2, .int (f_X1_hasRow zo p1)), (0, .ref (ad 0)), (1, .int p1)]) hx hb dX2_rowStays_8 rfl hl (by decide) rfl (fun ls hl => ?_)
  refine lv_aload_n hx hb dX2_rowStays_9 rfl (lv_at hl 1 rfl) ?_
  refine va_get (D := D) (ci := 2) (v := .ref (ad 7)) (C := RX2) (T := TX2) (N := 8) hx hb hts uin_X2_rowStays_X2 hown hG.1 hP 0 rfl rfl 2 (by decide) (hts (.fieldLink RX2 19 "TableSplice" "theirs" "LTableSplice$Table;") (List.mem_of_getElem? (i := 2) rfl)) (fun _ h9 => h9) rfl dX2_rowStays_10 ?_
  refine lv_iload_n hx hb dX2_rowStays_13 rfl (lv_at hl 2 rfl) ?_
  refine pr_i (va_runVN (As := [.int p1]) (rest := []) ⟨hx, hb, hml, hown, hts⟩ (k_X1_hasRow l D cyI cyZ (ad 7) (ad 8) (ad 9) zt p1) ⟨va_cnB 1 hts gX2_rowStays_X1_hasRow_n91 rfl rfl rfl (hG.2.1 (RX2, 91, yX1_hasRow, "TableSplice") (List.mem_of_getElem? (i := 13) rfl)) (hts (.initialized RX1) (List.mem_of_getElem? (i := 5) rfl)) (by decide +kernel) ⟨Nat.le_of_ble_eq_true rfl, Nat.le_of_ble_eq_true rfl⟩, hts (.instanceMethod yX1_hasRow) (List.mem_of_getElem? (i := 4) rfl), hts (.selects RX1 yX1_hasRow yX1_hasRow) (List.mem_of_getElem? (i := 6) rfl)⟩ (prV hG (hP.sub (ws' := wT cyI (ad 7) (ad 8) (ad 9) zt) [7, 8, 9] rfl) (ci := 1) rfl rfl rfl) rfl rfl hl.1 rfl (lv_room (Nat.le_of_ble_eq_true rfl)) dX2_rowStays_14 ⟨Nat.zero_le _, Nat.zero_le _⟩) hS hP (fun H locs hP hS => ?_)
  refine lv_istore_n (lv' := [(3, .int (f_X1_hasRow zt p1)), (2, .int (f_X1_hasRow zo p1)), (0, .ref (ad 0)), (1, .int p1)]) hx hb dX2_rowStays_17 rfl hl (by decide) rfl (fun ls hl => ?_)
  refine lv_iload_n hx hb dX2_rowStays_18 rfl (lv_at hl 1 rfl) ?_
  refine lv_if_eq (tgt := 28) hx hb dX2_rowStays_19 (by decide) (fun c_19 => ?_) (fun c_19 => ?_)
  · refine lv_aload_n hx hb dX2_rowStays_28 rfl (lv_at hl 2 rfl) ?_
    refine va_get (D := D) (ci := 2) (v := .ref (ad 1)) (C := RX2) (T := TX2) (N := 8) hx hb hts uin_X2_rowStays_X2 hown hG.1 hP 0 rfl rfl 0 (by decide) (hts (.fieldLink RX2 10 "TableSplice" "base" "LTableSplice$Table;") (List.mem_of_getElem? (i := 3) rfl)) (fun _ h9 => h9) rfl dX2_rowStays_29 ?_
    refine lv_iload_n hx hb dX2_rowStays_32 rfl (lv_at hl 3 rfl) ?_
    refine pr_i (va_runVN (As := [.int p1]) (rest := []) ⟨hx, hb, hml, hown, hts⟩ (k_X1_hasRow l D cyI cyZ (ad 1) (ad 2) (ad 3) zb p1) ⟨va_cnB 1 hts gX2_rowStays_X1_hasRow_n91 rfl rfl rfl (hG.2.1 (RX2, 91, yX1_hasRow, "TableSplice") (List.mem_of_getElem? (i := 13) rfl)) (hts (.initialized RX1) (List.mem_of_getElem? (i := 5) rfl)) (by decide +kernel) ⟨Nat.le_of_ble_eq_true rfl, Nat.le_of_ble_eq_true rfl⟩, hts (.instanceMethod yX1_hasRow) (List.mem_of_getElem? (i := 4) rfl), hts (.selects RX1 yX1_hasRow yX1_hasRow) (List.mem_of_getElem? (i := 6) rfl)⟩ (prV hG (hP.sub (ws' := wT cyI (ad 1) (ad 2) (ad 3) zb) [1, 2, 3] rfl) (ci := 1) rfl rfl rfl) rfl rfl hl.1 rfl (lv_room (Nat.le_of_ble_eq_true rfl)) dX2_rowStays_33 ⟨Nat.zero_le _, Nat.zero_le _⟩) hS hP (fun H locs hP hS => ?_)
    refine lv_if_ne (tgt := 53) hx hb dX2_rowStays_36 (by decide) (fun c_36 => ?_) (fun c_36 => ?_)
    · refine lv_aload_n hx hb dX2_rowStays_53 rfl (lv_at hl 2 rfl) ?_
      refine va_get (D := D) (ci := 2) (v := .ref (ad 4)) (C := RX2) (T := TX2) (N := 8) hx hb hts uin_X2_rowStays_X2 hown hG.1 hP 0 rfl rfl 1 (by decide) (hts (.fieldLink RX2 16 "TableSplice" "ours" "LTableSplice$Table;") (List.mem_of_getElem? (i := 1) rfl)) (fun _ h9 => h9) rfl dX2_rowStays_54 ?_
      refine lv_aload_n hx hb dX2_rowStays_57 rfl (lv_at hl 2 rfl) ?_
      refine va_get (D := D) (ci := 2) (v := .ref (ad 1)) (C := RX2) (T := TX2) (N := 8) hx hb hts uin_X2_rowStays_X2 hown hG.1 hP 0 rfl rfl 0 (by decide) (hts (.fieldLink RX2 10 "TableSplice" "base" "LTableSplice$Table;") (List.mem_of_getElem? (i := 3) rfl)) (fun _ h9 => h9) rfl dX2_rowStays_58 ?_
      refine lv_iload_n hx hb dX2_rowStays_61 rfl (lv_at hl 3 rfl) ?_
      refine pr_i (va_runVN (As := [.ref (ad 1), .int p1]) (rest := []) ⟨hx, hb, hml, hown, hts⟩ (k_X1_countCellsChanged l D cyI cyZ (ad 4) (ad 5) (ad 6) (ad 1) (ad 2) (ad 3) zo zb p1) ⟨va_cnB 2 hts gX2_rowStays_X1_countCellsChanged_n275 rfl rfl rfl (hG.2.1 (RX2, 275, yX1_countCellsChanged, "TableSplice") (List.mem_of_getElem? (i := 14) rfl)) (hts (.initialized RX1) (List.mem_of_getElem? (i := 5) rfl)) (by decide +kernel) ⟨Nat.le_of_ble_eq_true rfl, Nat.le_of_ble_eq_true rfl⟩, hts (.instanceMethod yX1_countCellsChanged) (List.mem_of_getElem? (i := 9) rfl), hts (.selects RX1 yX1_countCellsChanged yX1_countCellsChanged) (List.mem_of_getElem? (i := 10) rfl)⟩ (prV hG (hP.sub (ws' := wU cyI (ad 4) (ad 5) (ad 6) zo (ad 1) (ad 2) (ad 3) zb) [4, 5, 6, 1, 2, 3] rfl) (ci := 1) rfl rfl rfl) rfl rfl hl.1 rfl (lv_room (Nat.le_of_ble_eq_true rfl)) dX2_rowStays_62 ⟨Nat.zero_le _, Nat.zero_le _⟩) hS hP (fun H locs hP hS => ?_)
      refine lv_if_gt (tgt := 83) hx hb dX2_rowStays_65 (by decide) (fun c_65 => ?_) (fun c_65 => ?_)
      · refine lv_iconst (v := 1) hx hb dX2_rowStays_83 (by decide) ?_
        refine lv_goto (tgt := 88) hx hb dX2_rowStays_84 (by decide) ?_
        have ef : f_X2_rowStays zb zo zt p1 = 1 := by rw [f_X2_rowStays, if_pos c_19, if_neg c_36, if_pos c_65]
        exact W.zret (v := 1) (ty := .boolean) hx hb hr rfl (fun t ht hW => ⟨⟨1, (), rfl, ef.symm, trivial⟩, hS.F ht⟩) hS.2.2 dX2_rowStays_88
      · refine lv_aload_n hx hb dX2_rowStays_68 rfl (lv_at hl 2 rfl) ?_
        refine va_get (D := D) (ci := 2) (v := .ref (ad 7)) (C := RX2) (T := TX2) (N := 8) hx hb hts uin_X2_rowStays_X2 hown hG.1 hP 0 rfl rfl 2 (by decide) (hts (.fieldLink RX2 19 "TableSplice" "theirs" "LTableSplice$Table;") (List.mem_of_getElem? (i := 2) rfl)) (fun _ h9 => h9) rfl dX2_rowStays_69 ?_
        refine lv_aload_n hx hb dX2_rowStays_72 rfl (lv_at hl 2 rfl) ?_
        refine va_get (D := D) (ci := 2) (v := .ref (ad 1)) (C := RX2) (T := TX2) (N := 8) hx hb hts uin_X2_rowStays_X2 hown hG.1 hP 0 rfl rfl 0 (by decide) (hts (.fieldLink RX2 10 "TableSplice" "base" "LTableSplice$Table;") (List.mem_of_getElem? (i := 3) rfl)) (fun _ h9 => h9) rfl dX2_rowStays_73 ?_
        refine lv_iload_n hx hb dX2_rowStays_76 rfl (lv_at hl 3 rfl) ?_
        refine pr_i (va_runVN (As := [.ref (ad 1), .int p1]) (rest := []) ⟨hx, hb, hml, hown, hts⟩ (k_X1_countCellsChanged l D cyI cyZ (ad 7) (ad 8) (ad 9) (ad 1) (ad 2) (ad 3) zt zb p1) ⟨va_cnB 2 hts gX2_rowStays_X1_countCellsChanged_n275 rfl rfl rfl (hG.2.1 (RX2, 275, yX1_countCellsChanged, "TableSplice") (List.mem_of_getElem? (i := 14) rfl)) (hts (.initialized RX1) (List.mem_of_getElem? (i := 5) rfl)) (by decide +kernel) ⟨Nat.le_of_ble_eq_true rfl, Nat.le_of_ble_eq_true rfl⟩, hts (.instanceMethod yX1_countCellsChanged) (List.mem_of_getElem? (i := 9) rfl), hts (.selects RX1 yX1_countCellsChanged yX1_countCellsChanged) (List.mem_of_getElem? (i := 10) rfl)⟩ (prV hG (hP.sub (ws' := wU cyI (ad 7) (ad 8) (ad 9) zt (ad 1) (ad 2) (ad 3) zb) [7, 8, 9, 1, 2, 3] rfl) (ci := 1) rfl rfl rfl) rfl rfl hl.1 rfl (lv_room (Nat.le_of_ble_eq_true rfl)) dX2_rowStays_77 ⟨Nat.zero_le _, Nat.zero_le _⟩) hS hP (fun H locs hP hS => ?_)
        refine lv_if_le (tgt := 87) hx hb dX2_rowStays_80 (by decide) (fun c_80 => ?_) (fun c_80 => ?_)
        · refine lv_iconst (v := 0) hx hb dX2_rowStays_87 (by decide) ?_
          have ef : f_X2_rowStays zb zo zt p1 = 0 := by rw [f_X2_rowStays, if_pos c_19, if_neg c_36, if_neg c_65, if_pos c_80]
          exact W.zret (v := 0) (ty := .boolean) hx hb hr rfl (fun t ht hW => ⟨⟨0, (), rfl, ef.symm, trivial⟩, hS.F ht⟩) hS.2.2 dX2_rowStays_88
        · refine lv_iconst (v := 1) hx hb dX2_rowStays_83 (by decide) ?_
          refine lv_goto (tgt := 88) hx hb dX2_rowStays_84 (by decide) ?_
          have ef : f_X2_rowStays zb zo zt p1 = 1 := by rw [f_X2_rowStays, if_pos c_19, if_neg c_36, if_neg c_65, if_neg c_80]
          exact W.zret (v := 1) (ty := .boolean) hx hb hr rfl (fun t ht hW => ⟨⟨1, (), rfl, ef.symm, trivial⟩, hS.F ht⟩) hS.2.2 dX2_rowStays_88
    · refine lv_iload_n hx hb dX2_rowStays_39 rfl (lv_at hl 1 rfl) ?_
      refine lv_if_ne (tgt := 47) hx hb dX2_rowStays_40 (by decide) (fun c_40 => ?_) (fun c_40 => ?_)
      · exact absurd c_19 c_40
      · refine lv_iload_n hx hb dX2_rowStays_43 rfl (lv_at hl 0 rfl) ?_
        refine lv_if_eq (tgt := 51) hx hb dX2_rowStays_44 (by decide) (fun c_44 => ?_) (fun c_44 => ?_)
        · refine lv_iconst (v := 0) hx hb dX2_rowStays_51 (by decide) ?_
          have ef : f_X2_rowStays zb zo zt p1 = 0 := by rw [f_X2_rowStays, if_pos c_19, if_pos c_36, if_pos c_44]
          exact W.zret (v := 0) (ty := .boolean) hx hb hr rfl (fun t ht hW => ⟨⟨0, (), rfl, ef.symm, trivial⟩, hS.F ht⟩) hS.2.2 dX2_rowStays_52
        · refine lv_iconst (v := 1) hx hb dX2_rowStays_47 (by decide) ?_
          refine lv_goto (tgt := 52) hx hb dX2_rowStays_48 (by decide) ?_
          have ef : f_X2_rowStays zb zo zt p1 = 1 := by rw [f_X2_rowStays, if_pos c_19, if_pos c_36, if_neg c_44]
          exact W.zret (v := 1) (ty := .boolean) hx hb hr rfl (fun t ht hW => ⟨⟨1, (), rfl, ef.symm, trivial⟩, hS.F ht⟩) hS.2.2 dX2_rowStays_52
  · refine lv_iload_n hx hb dX2_rowStays_22 rfl (lv_at hl 0 rfl) ?_
    refine lv_if_eq (tgt := 28) hx hb dX2_rowStays_23 (by decide) (fun c_23 => ?_) (fun c_23 => ?_)
    · refine lv_aload_n hx hb dX2_rowStays_28 rfl (lv_at hl 2 rfl) ?_
      refine va_get (D := D) (ci := 2) (v := .ref (ad 1)) (C := RX2) (T := TX2) (N := 8) hx hb hts uin_X2_rowStays_X2 hown hG.1 hP 0 rfl rfl 0 (by decide) (hts (.fieldLink RX2 10 "TableSplice" "base" "LTableSplice$Table;") (List.mem_of_getElem? (i := 3) rfl)) (fun _ h9 => h9) rfl dX2_rowStays_29 ?_
      refine lv_iload_n hx hb dX2_rowStays_32 rfl (lv_at hl 3 rfl) ?_
      refine pr_i (va_runVN (As := [.int p1]) (rest := []) ⟨hx, hb, hml, hown, hts⟩ (k_X1_hasRow l D cyI cyZ (ad 1) (ad 2) (ad 3) zb p1) ⟨va_cnB 1 hts gX2_rowStays_X1_hasRow_n91 rfl rfl rfl (hG.2.1 (RX2, 91, yX1_hasRow, "TableSplice") (List.mem_of_getElem? (i := 13) rfl)) (hts (.initialized RX1) (List.mem_of_getElem? (i := 5) rfl)) (by decide +kernel) ⟨Nat.le_of_ble_eq_true rfl, Nat.le_of_ble_eq_true rfl⟩, hts (.instanceMethod yX1_hasRow) (List.mem_of_getElem? (i := 4) rfl), hts (.selects RX1 yX1_hasRow yX1_hasRow) (List.mem_of_getElem? (i := 6) rfl)⟩ (prV hG (hP.sub (ws' := wT cyI (ad 1) (ad 2) (ad 3) zb) [1, 2, 3] rfl) (ci := 1) rfl rfl rfl) rfl rfl hl.1 rfl (lv_room (Nat.le_of_ble_eq_true rfl)) dX2_rowStays_33 ⟨Nat.zero_le _, Nat.zero_le _⟩) hS hP (fun H locs hP hS => ?_)
      refine lv_if_ne (tgt := 53) hx hb dX2_rowStays_36 (by decide) (fun c_36 => ?_) (fun c_36 => ?_)
      · refine lv_aload_n hx hb dX2_rowStays_53 rfl (lv_at hl 2 rfl) ?_
        refine va_get (D := D) (ci := 2) (v := .ref (ad 4)) (C := RX2) (T := TX2) (N := 8) hx hb hts uin_X2_rowStays_X2 hown hG.1 hP 0 rfl rfl 1 (by decide) (hts (.fieldLink RX2 16 "TableSplice" "ours" "LTableSplice$Table;") (List.mem_of_getElem? (i := 1) rfl)) (fun _ h9 => h9) rfl dX2_rowStays_54 ?_
        refine lv_aload_n hx hb dX2_rowStays_57 rfl (lv_at hl 2 rfl) ?_
        refine va_get (D := D) (ci := 2) (v := .ref (ad 1)) (C := RX2) (T := TX2) (N := 8) hx hb hts uin_X2_rowStays_X2 hown hG.1 hP 0 rfl rfl 0 (by decide) (hts (.fieldLink RX2 10 "TableSplice" "base" "LTableSplice$Table;") (List.mem_of_getElem? (i := 3) rfl)) (fun _ h9 => h9) rfl dX2_rowStays_58 ?_
        refine lv_iload_n hx hb dX2_rowStays_61 rfl (lv_at hl 3 rfl) ?_
        refine pr_i (va_runVN (As := [.ref (ad 1), .int p1]) (rest := []) ⟨hx, hb, hml, hown, hts⟩ (k_X1_countCellsChanged l D cyI cyZ (ad 4) (ad 5) (ad 6) (ad 1) (ad 2) (ad 3) zo zb p1) ⟨va_cnB 2 hts gX2_rowStays_X1_countCellsChanged_n275 rfl rfl rfl (hG.2.1 (RX2, 275, yX1_countCellsChanged, "TableSplice") (List.mem_of_getElem? (i := 14) rfl)) (hts (.initialized RX1) (List.mem_of_getElem? (i := 5) rfl)) (by decide +kernel) ⟨Nat.le_of_ble_eq_true rfl, Nat.le_of_ble_eq_true rfl⟩, hts (.instanceMethod yX1_countCellsChanged) (List.mem_of_getElem? (i := 9) rfl), hts (.selects RX1 yX1_countCellsChanged yX1_countCellsChanged) (List.mem_of_getElem? (i := 10) rfl)⟩ (prV hG (hP.sub (ws' := wU cyI (ad 4) (ad 5) (ad 6) zo (ad 1) (ad 2) (ad 3) zb) [4, 5, 6, 1, 2, 3] rfl) (ci := 1) rfl rfl rfl) rfl rfl hl.1 rfl (lv_room (Nat.le_of_ble_eq_true rfl)) dX2_rowStays_62 ⟨Nat.zero_le _, Nat.zero_le _⟩) hS hP (fun H locs hP hS => ?_)
        refine lv_if_gt (tgt := 83) hx hb dX2_rowStays_65 (by decide) (fun c_65 => ?_) (fun c_65 => ?_)
        · refine lv_iconst (v := 1) hx hb dX2_rowStays_83 (by decide) ?_
          refine lv_goto (tgt := 88) hx hb dX2_rowStays_84 (by decide) ?_
          have ef : f_X2_rowStays zb zo zt p1 = 1 := by rw [f_X2_rowStays, if_neg c_19, if_pos c_23, if_neg c_36, if_pos c_65]
          exact W.zret (v := 1) (ty := .boolean) hx hb hr rfl (fun t ht hW => ⟨⟨1, (), rfl, ef.symm, trivial⟩, hS.F ht⟩) hS.2.2 dX2_rowStays_88
        · refine lv_aload_n hx hb dX2_rowStays_68 rfl (lv_at hl 2 rfl) ?_
          refine va_get (D := D) (ci := 2) (v := .ref (ad 7)) (C := RX2) (T := TX2) (N := 8) hx hb hts uin_X2_rowStays_X2 hown hG.1 hP 0 rfl rfl 2 (by decide) (hts (.fieldLink RX2 19 "TableSplice" "theirs" "LTableSplice$Table;") (List.mem_of_getElem? (i := 2) rfl)) (fun _ h9 => h9) rfl dX2_rowStays_69 ?_
          refine lv_aload_n hx hb dX2_rowStays_72 rfl (lv_at hl 2 rfl) ?_
          refine va_get (D := D) (ci := 2) (v := .ref (ad 1)) (C := RX2) (T := TX2) (N := 8) hx hb hts uin_X2_rowStays_X2 hown hG.1 hP 0 rfl rfl 0 (by decide) (hts (.fieldLink RX2 10 "TableSplice" "base" "LTableSplice$Table;") (List.mem_of_getElem? (i := 3) rfl)) (fun _ h9 => h9) rfl dX2_rowStays_73 ?_
          refine lv_iload_n hx hb dX2_rowStays_76 rfl (lv_at hl 3 rfl) ?_
          refine pr_i (va_runVN (As := [.ref (ad 1), .int p1]) (rest := []) ⟨hx, hb, hml, hown, hts⟩ (k_X1_countCellsChanged l D cyI cyZ (ad 7) (ad 8) (ad 9) (ad 1) (ad 2) (ad 3) zt zb p1) ⟨va_cnB 2 hts gX2_rowStays_X1_countCellsChanged_n275 rfl rfl rfl (hG.2.1 (RX2, 275, yX1_countCellsChanged, "TableSplice") (List.mem_of_getElem? (i := 14) rfl)) (hts (.initialized RX1) (List.mem_of_getElem? (i := 5) rfl)) (by decide +kernel) ⟨Nat.le_of_ble_eq_true rfl, Nat.le_of_ble_eq_true rfl⟩, hts (.instanceMethod yX1_countCellsChanged) (List.mem_of_getElem? (i := 9) rfl), hts (.selects RX1 yX1_countCellsChanged yX1_countCellsChanged) (List.mem_of_getElem? (i := 10) rfl)⟩ (prV hG (hP.sub (ws' := wU cyI (ad 7) (ad 8) (ad 9) zt (ad 1) (ad 2) (ad 3) zb) [7, 8, 9, 1, 2, 3] rfl) (ci := 1) rfl rfl rfl) rfl rfl hl.1 rfl (lv_room (Nat.le_of_ble_eq_true rfl)) dX2_rowStays_77 ⟨Nat.zero_le _, Nat.zero_le _⟩) hS hP (fun H locs hP hS => ?_)
          refine lv_if_le (tgt := 87) hx hb dX2_rowStays_80 (by decide) (fun c_80 => ?_) (fun c_80 => ?_)
          · refine lv_iconst (v := 0) hx hb dX2_rowStays_87 (by decide) ?_
            have ef : f_X2_rowStays zb zo zt p1 = 0 := by rw [f_X2_rowStays, if_neg c_19, if_pos c_23, if_neg c_36, if_neg c_65, if_pos c_80]
            exact W.zret (v := 0) (ty := .boolean) hx hb hr rfl (fun t ht hW => ⟨⟨0, (), rfl, ef.symm, trivial⟩, hS.F ht⟩) hS.2.2 dX2_rowStays_88
          · refine lv_iconst (v := 1) hx hb dX2_rowStays_83 (by decide) ?_
            refine lv_goto (tgt := 88) hx hb dX2_rowStays_84 (by decide) ?_
            have ef : f_X2_rowStays zb zo zt p1 = 1 := by rw [f_X2_rowStays, if_neg c_19, if_pos c_23, if_neg c_36, if_neg c_65, if_neg c_80]
            exact W.zret (v := 1) (ty := .boolean) hx hb hr rfl (fun t ht hW => ⟨⟨1, (), rfl, ef.symm, trivial⟩, hS.F ht⟩) hS.2.2 dX2_rowStays_88
      · refine lv_iload_n hx hb dX2_rowStays_39 rfl (lv_at hl 1 rfl) ?_
        refine lv_if_ne (tgt := 47) hx hb dX2_rowStays_40 (by decide) (fun c_40 => ?_) (fun c_40 => ?_)
        · refine lv_iconst (v := 1) hx hb dX2_rowStays_47 (by decide) ?_
          refine lv_goto (tgt := 52) hx hb dX2_rowStays_48 (by decide) ?_
          have ef : f_X2_rowStays zb zo zt p1 = 1 := by rw [f_X2_rowStays, if_neg c_19, if_pos c_23, if_pos c_36]
          exact W.zret (v := 1) (ty := .boolean) hx hb hr rfl (fun t ht hW => ⟨⟨1, (), rfl, ef.symm, trivial⟩, hS.F ht⟩) hS.2.2 dX2_rowStays_52
        · exact absurd c_40 c_19
    · refine lv_iconst (v := 1) hx hb dX2_rowStays_26 (by decide) ?_
      have ef : f_X2_rowStays zb zo zt p1 = 1 := by rw [f_X2_rowStays, if_neg c_19, if_neg c_23]
      exact W.zret (v := 1) (ty := .boolean) hx hb hr rfl (fun t ht hW => ⟨⟨1, (), rfl, ef.symm, trivial⟩, hS.F ht⟩) hS.2.2 dX2_rowStays_27
def f_X2_mergedCell (zb : Tr) (zo : Tr) (zt : Tr) (p1 : Int32) (p2 : Int32) (p3 : Int32) (p4 : Int32) : Int32 := if (f_X1_hasCell zo p1 p2) = 0 then f_X1_cellAt zt p1 p2 else (if (f_X1_hasCell zt p1 p2) = 0 then f_X1_cellAt zo p1 p2 else (if p3 = 3 then ((f_X1_cellAt zo p1 p2) + (f_X1_cellAt zt p1 p2)) - (f_X1_cellAt zb p1 p2) else (if p4 = 0 then (if (f_X1_hasCell zb p1 p2) = 0 then f_X1_cellAt zo p1 p2 else (if (f_X1_cellAt zo p1 p2) = (f_X1_cellAt zb p1 p2) then f_X1_cellAt zt p1 p2 else f_X1_cellAt zo p1 p2)) else (if p3 = 2 then if (f_X1_cellAt zo p1 p2) < (f_X1_cellAt zt p1 p2) then (f_X1_cellAt zt p1 p2) else (f_X1_cellAt zo p1 p2) else f_X1_cellAt zo p1 p2))))
theorem uin_X2_mergedCell_X2 : ∀ w ∈ wsX20, w ∈ wsX2_mergedCell := fun _ h => List.mem_cons_of_mem _ (List.mem_append_left _ (List.mem_append_right _ h))
theorem uin_X2_mergedCell_X1 : ∀ w ∈ wsX10, w ∈ wsX2_mergedCell := fun _ h => List.mem_cons_of_mem _ (List.mem_append_right _ h)
set_option maxHeartbeats 4000000 in
set_option maxRecDepth 100000 in
theorem k_X2_mergedCell (l : Launch) (D : va_G) (cyI cyZ : ClassId) (ad : Nat → Nat) (zb : Tr) (zo : Tr) (zt : Tr) (zm : Tr) (zu : Nat → Int32) (zr : Nat → Int32) (zl : Lr) (zf : Int32) (p1 : Int32) (p2 : Int32) (p3 : Int32) (p4 : Int32) : Met l yX2_mergedCell wsX2_mergedCell ({ frames := 3, cells := 0, slots := 0, locals := 65 } : Room) (pcP D cyI cyZ [.ref (ad 0), .int p1, .int p2, .int p3, .int p4] (wZ cyI cyZ ad zb zo zt zm zu zr zl zf)) (qI (f_X2_mergedCell zb zo zt p1 p2 p3 p4)) 0 0 nA := by
  refine Met.ofW (cc := cX2_mergedCell) (maxL := 8) (ret := (some .int)) (by decide) rfl ?_
  intro p e s m args below meth c s₁ B hml hv
  obtain ⟨rfl, hP, hG⟩ := hv
  have hx := B.exec
  have hb := B.bytes
  have hr := B.returns
  have hts := atoms_spec (ws := wsX2_mergedCell) B.pre
  have hown : s.vm.findClass RX2 = some m.cls := findClass_of_methodNamed B.named
  have hlocks := B.notSynchronized
  have hS : va_S nA s.heap s.heap [] := va_S.rf
  have hl := lv_entry ([.ref (ad 0), .int p1, .int p2, .int p3, .int p4]) (n := 8) (Nat.le_of_ble_eq_true rfl)
  rw [lg_entry_eq]
  generalize (lg_sl ([.ref (ad 0), .int p1, .int p2, .int p3, .int p4]) ++ List.replicate (8 - (lg_sl ([.ref (ad 0), .int p1, .int p2, .int p3, .int p4])).length) Slot.unset).toArray = ls at hl ⊢
  have hl : lv_has ls 8 [(0, .ref (ad 0)), (1, .int p1), (2, .int p2), (3, .int p3), (4, .int p4)] := hl
  have hP : va_P D vwCl (wZ cyI cyZ ad zb zo zt zm zu zr zl zf) s.heap := hP
  refine lv_aload_n hx hb dX2_mergedCell_0 rfl (lv_at hl 0 rfl) ?_
  refine va_get (D := D) (ci := 2) (v := .ref (ad 4)) (C := RX2) (T := TX2) (N := 8) hx hb hts uin_X2_mergedCell_X2 hown hG.1 hP 0 rfl rfl 1 (by decide) (hts (.fieldLink RX2 16 "TableSplice" "ours" "LTableSplice$Table;") (List.mem_of_getElem? (i := 1) rfl)) (fun _ h9 => h9) rfl dX2_mergedCell_1 ?_
  refine lv_iload_n hx hb dX2_mergedCell_4 rfl (lv_at hl 1 rfl) ?_
  refine lv_iload_n hx hb dX2_mergedCell_5 rfl (lv_at hl 2 rfl) ?_
  refine pr_i (va_runVN (As := [.int p1, .int p2]) (rest := []) ⟨hx, hb, hml, hown, hts⟩ (k_X1_cellAt l D cyI cyZ (ad 4) (ad 5) (ad 6) zo p1 p2) ⟨va_cnB 2 hts gX2_mergedCell_X1_cellAt_n113 rfl rfl rfl (hG.2.1 (RX2, 113, yX1_cellAt, "TableSplice") (List.mem_of_getElem? (i := 18) rfl)) (hts (.initialized RX1) (List.mem_of_getElem? (i := 9) rfl)) (by decide +kernel) ⟨Nat.le_of_ble_eq_true rfl, Nat.le_of_ble_eq_true rfl⟩, hts (.instanceMethod yX1_cellAt) (List.mem_of_getElem? (i := 8) rfl), hts (.selects RX1 yX1_cellAt yX1_cellAt) (List.mem_of_getElem? (i := 10) rfl)⟩ (prV hG (hP.sub (ws' := wT cyI (ad 4) (ad 5) (ad 6) zo) [4, 5, 6] rfl) (ci := 1) rfl rfl rfl) rfl rfl hl.1 rfl (lv_room (Nat.le_of_ble_eq_true rfl)) dX2_mergedCell_6 ⟨Nat.zero_le _, Nat.zero_le _⟩) hS hP (fun H locs hP hS => ?_)
  refine lv_istore (lv' := [(5, .int (f_X1_cellAt zo p1 p2)), (0, .ref (ad 0)), (1, .int p1), (2, .int p2), (3, .int p3), (4, .int p4)]) hx hb dX2_mergedCell_9 hl (by decide) rfl (fun ls hl => ?_)
  refine lv_aload_n hx hb dX2_mergedCell_11 rfl (lv_at hl 1 rfl) ?_
  refine va_get (D := D) (ci := 2) (v := .ref (ad 7)) (C := RX2) (T := TX2) (N := 8) hx hb hts uin_X2_mergedCell_X2 hown hG.1 hP 0 rfl rfl 2 (by decide) (hts (.fieldLink RX2 19 "TableSplice" "theirs" "LTableSplice$Table;") (List.mem_of_getElem? (i := 2) rfl)) (fun _ h9 => h9) rfl dX2_mergedCell_12 ?_
  refine lv_iload_n hx hb dX2_mergedCell_15 rfl (lv_at hl 2 rfl) ?_
  refine lv_iload_n hx hb dX2_mergedCell_16 rfl (lv_at hl 3 rfl) ?_
  refine pr_i (va_runVN (As := [.int p1, .int p2]) (rest := []) ⟨hx, hb, hml, hown, hts⟩ (k_X1_cellAt l D cyI cyZ (ad 7) (ad 8) (ad 9) zt p1 p2) ⟨va_cnB 2 hts gX2_mergedCell_X1_cellAt_n113 rfl rfl rfl (hG.2.1 (RX2, 113, yX1_cellAt, "TableSplice") (List.mem_of_getElem? (i := 18) rfl)) (hts (.initialized RX1) (List.mem_of_getElem? (i := 9) rfl)) (by decide +kernel) ⟨Nat.le_of_ble_eq_true rfl, Nat.le_of_ble_eq_true rfl⟩, hts (.instanceMethod yX1_cellAt) (List.mem_of_getElem? (i := 8) rfl), hts (.selects RX1 yX1_cellAt yX1_cellAt) (List.mem_of_getElem? (i := 10) rfl)⟩ (prV hG (hP.sub (ws' := wT cyI (ad 7) (ad 8) (ad 9) zt) [7, 8, 9] rfl) (ci := 1) rfl rfl rfl) rfl rfl hl.1 rfl (lv_room (Nat.le_of_ble_eq_true rfl)) dX2_mergedCell_17 ⟨Nat.zero_le _, Nat.zero_le _⟩) hS hP (fun H locs hP hS => ?_)
  refine lv_istore (lv' := [(6, .int (f_X1_cellAt zt p1 p2)), (5, .int (f_X1_cellAt zo p1 p2)), (0, .ref (ad 0)), (1, .int p1), (2, .int p2), (3, .int p3), (4, .int p4)]) hx hb dX2_mergedCell_20 hl (by decide) rfl (fun ls hl => ?_)
  refine lv_aload_n hx hb dX2_mergedCell_22 rfl (lv_at hl 2 rfl) ?_
  refine va_get (D := D) (ci := 2) (v := .ref (ad 4)) (C := RX2) (T := TX2) (N := 8) hx hb hts uin_X2_mergedCell_X2 hown hG.1 hP 0 rfl rfl 1 (by decide) (hts (.fieldLink RX2 16 "TableSplice" "ours" "LTableSplice$Table;") (List.mem_of_getElem? (i := 1) rfl)) (fun _ h9 => h9) rfl dX2_mergedCell_23 ?_
  refine lv_iload_n hx hb dX2_mergedCell_26 rfl (lv_at hl 3 rfl) ?_
  refine lv_iload_n hx hb dX2_mergedCell_27 rfl (lv_at hl 4 rfl) ?_
  refine pr_i (va_runVN (As := [.int p1, .int p2]) (rest := []) ⟨hx, hb, hml, hown, hts⟩ (k_X1_hasCell l D cyI cyZ (ad 4) (ad 5) (ad 6) zo p1 p2) ⟨va_cnB 2 hts gX2_mergedCell_X1_hasCell_n185 rfl rfl rfl (hG.2.1 (RX2, 185, yX1_hasCell, "TableSplice") (List.mem_of_getElem? (i := 17) rfl)) (hts (.initialized RX1) (List.mem_of_getElem? (i := 9) rfl)) (by decide +kernel) ⟨Nat.le_of_ble_eq_true rfl, Nat.le_of_ble_eq_true rfl⟩, hts (.instanceMethod yX1_hasCell) (List.mem_of_getElem? (i := 14) rfl), hts (.selects RX1 yX1_hasCell yX1_hasCell) (List.mem_of_getElem? (i := 15) rfl)⟩ (prV hG (hP.sub (ws' := wT cyI (ad 4) (ad 5) (ad 6) zo) [4, 5, 6] rfl) (ci := 1) rfl rfl rfl) rfl rfl hl.1 rfl (lv_room (Nat.le_of_ble_eq_true rfl)) dX2_mergedCell_28 ⟨Nat.zero_le _, Nat.zero_le _⟩) hS hP (fun H locs hP hS => ?_)
  refine lv_if_ne (tgt := 37) hx hb dX2_mergedCell_31 (by decide) (fun c_31 => ?_) (fun c_31 => ?_)
  · refine lv_aload_n hx hb dX2_mergedCell_37 rfl (lv_at hl 2 rfl) ?_
    refine va_get (D := D) (ci := 2) (v := .ref (ad 7)) (C := RX2) (T := TX2) (N := 8) hx hb hts uin_X2_mergedCell_X2 hown hG.1 hP 0 rfl rfl 2 (by decide) (hts (.fieldLink RX2 19 "TableSplice" "theirs" "LTableSplice$Table;") (List.mem_of_getElem? (i := 2) rfl)) (fun _ h9 => h9) rfl dX2_mergedCell_38 ?_
    refine lv_iload_n hx hb dX2_mergedCell_41 rfl (lv_at hl 3 rfl) ?_
    refine lv_iload_n hx hb dX2_mergedCell_42 rfl (lv_at hl 4 rfl) ?_
    refine pr_i (va_runVN (As := [.int p1, .int p2]) (rest := []) ⟨hx, hb, hml, hown, hts⟩ (k_X1_hasCell l D cyI cyZ (ad 7) (ad 8) (ad 9) zt p1 p2) ⟨va_cnB 2 hts gX2_mergedCell_X1_hasCell_n185 rfl rfl rfl (hG.2.1 (RX2, 185, yX1_hasCell, "TableSplice") (List.mem_of_getElem? (i := 17) rfl)) (hts (.initialized RX1) (List.mem_of_getElem? (i := 9) rfl)) (by decide +kernel) ⟨Nat.le_of_ble_eq_true rfl, Nat.le_of_ble_eq_true rfl⟩, hts (.instanceMethod yX1_hasCell) (List.mem_of_getElem? (i := 14) rfl), hts (.selects RX1 yX1_hasCell yX1_hasCell) (List.mem_of_getElem? (i := 15) rfl)⟩ (prV hG (hP.sub (ws' := wT cyI (ad 7) (ad 8) (ad 9) zt) [7, 8, 9] rfl) (ci := 1) rfl rfl rfl) rfl rfl hl.1 rfl (lv_room (Nat.le_of_ble_eq_true rfl)) dX2_mergedCell_43 ⟨Nat.zero_le _, Nat.zero_le _⟩) hS hP (fun H locs hP hS => ?_)
    refine lv_if_ne (tgt := 52) hx hb dX2_mergedCell_46 (by decide) (fun c_46 => ?_) (fun c_46 => ?_)
    · refine lv_aload_n hx hb dX2_mergedCell_52 rfl (lv_at hl 2 rfl) ?_
      refine va_get (D := D) (ci := 2) (v := .ref (ad 1)) (C := RX2) (T := TX2) (N := 8) hx hb hts uin_X2_mergedCell_X2 hown hG.1 hP 0 rfl rfl 0 (by decide) (hts (.fieldLink RX2 10 "TableSplice" "base" "LTableSplice$Table;") (List.mem_of_getElem? (i := 3) rfl)) (fun _ h9 => h9) rfl dX2_mergedCell_53 ?_
      refine lv_iload_n hx hb dX2_mergedCell_56 rfl (lv_at hl 3 rfl) ?_
      refine lv_iload_n hx hb dX2_mergedCell_57 rfl (lv_at hl 4 rfl) ?_
      refine pr_i (va_runVN (As := [.int p1, .int p2]) (rest := []) ⟨hx, hb, hml, hown, hts⟩ (k_X1_cellAt l D cyI cyZ (ad 1) (ad 2) (ad 3) zb p1 p2) ⟨va_cnB 2 hts gX2_mergedCell_X1_cellAt_n113 rfl rfl rfl (hG.2.1 (RX2, 113, yX1_cellAt, "TableSplice") (List.mem_of_getElem? (i := 18) rfl)) (hts (.initialized RX1) (List.mem_of_getElem? (i := 9) rfl)) (by decide +kernel) ⟨Nat.le_of_ble_eq_true rfl, Nat.le_of_ble_eq_true rfl⟩, hts (.instanceMethod yX1_cellAt) (List.mem_of_getElem? (i := 8) rfl), hts (.selects RX1 yX1_cellAt yX1_cellAt) (List.mem_of_getElem? (i := 10) rfl)⟩ (prV hG (hP.sub (ws' := wT cyI (ad 1) (ad 2) (ad 3) zb) [1, 2, 3] rfl) (ci := 1) rfl rfl rfl) rfl rfl hl.1 rfl (lv_room (Nat.le_of_ble_eq_true rfl)) dX2_mergedCell_58 ⟨Nat.zero_le _, Nat.zero_le _⟩) hS hP (fun H locs hP hS => ?_)
      refine lv_istore (lv' := [(7, .int (f_X1_cellAt zb p1 p2)), (6, .int (f_X1_cellAt zt p1 p2)), (5, .int (f_X1_cellAt zo p1 p2)), (0, .ref (ad 0)), (1, .int p1), (2, .int p2), (3, .int p3), (4, .int p4)]) hx hb dX2_mergedCell_61 hl (by decide) rfl (fun ls hl => ?_)
      refine lv_iload_n hx hb dX2_mergedCell_63 rfl (lv_at hl 6 rfl) ?_
      refine lv_iconst (v := 3) hx hb dX2_mergedCell_64 (by decide) ?_
      refine lv_icmp_ne (tgt := 77) hx hb dX2_mergedCell_65 (by decide) (fun c_65 => ?_) (fun c_65 => ?_)
      · refine lv_iload hx hb dX2_mergedCell_77 (lv_at hl 7 rfl) ?_
        refine lv_if_eq (tgt := 100) hx hb dX2_mergedCell_79 (by decide) (fun c_79 => ?_) (fun c_79 => ?_)
        · refine lv_aload_n hx hb dX2_mergedCell_100 rfl (lv_at hl 3 rfl) ?_
          refine va_get (D := D) (ci := 2) (v := .ref (ad 1)) (C := RX2) (T := TX2) (N := 8) hx hb hts uin_X2_mergedCell_X2 hown hG.1 hP 0 rfl rfl 0 (by decide) (hts (.fieldLink RX2 10 "TableSplice" "base" "LTableSplice$Table;") (List.mem_of_getElem? (i := 3) rfl)) (fun _ h9 => h9) rfl dX2_mergedCell_101 ?_
          refine lv_iload_n hx hb dX2_mergedCell_104 rfl (lv_at hl 4 rfl) ?_
          refine lv_iload_n hx hb dX2_mergedCell_105 rfl (lv_at hl 5 rfl) ?_
          refine pr_i (va_runVN (As := [.int p1, .int p2]) (rest := []) ⟨hx, hb, hml, hown, hts⟩ (k_X1_hasCell l D cyI cyZ (ad 1) (ad 2) (ad 3) zb p1 p2) ⟨va_cnB 2 hts gX2_mergedCell_X1_hasCell_n185 rfl rfl rfl (hG.2.1 (RX2, 185, yX1_hasCell, "TableSplice") (List.mem_of_getElem? (i := 17) rfl)) (hts (.initialized RX1) (List.mem_of_getElem? (i := 9) rfl)) (by decide +kernel) ⟨Nat.le_of_ble_eq_true rfl, Nat.le_of_ble_eq_true rfl⟩, hts (.instanceMethod yX1_hasCell) (List.mem_of_getElem? (i := 14) rfl), hts (.selects RX1 yX1_hasCell yX1_hasCell) (List.mem_of_getElem? (i := 15) rfl)⟩ (prV hG (hP.sub (ws' := wT cyI (ad 1) (ad 2) (ad 3) zb) [1, 2, 3] rfl) (ci := 1) rfl rfl rfl) rfl rfl hl.1 rfl (lv_room (Nat.le_of_ble_eq_true rfl)) dX2_mergedCell_106 ⟨Nat.zero_le _, Nat.zero_le _⟩) hS hP (fun H locs hP hS => ?_)
          refine lv_if_eq (tgt := 124) hx hb dX2_mergedCell_109 (by decide) (fun c_109 => ?_) (fun c_109 => ?_)
          · refine lv_iload hx hb dX2_mergedCell_124 (lv_at hl 2 rfl) ?_
            have ef : f_X2_mergedCell zb zo zt p1 p2 p3 p4 = f_X1_cellAt zo p1 p2 := by rw [f_X2_mergedCell, if_neg c_31, if_neg c_46, if_neg c_65, if_pos c_79, if_pos c_109]
            exact W.iret (v := f_X1_cellAt zo p1 p2) hx hb hr (fun t ht hW => ⟨⟨f_X1_cellAt zo p1 p2, (), rfl, ef.symm, trivial⟩, hS.F ht⟩) hS.2.2 dX2_mergedCell_126
          · refine lv_iload hx hb dX2_mergedCell_112 (lv_at hl 2 rfl) ?_
            refine lv_iload hx hb dX2_mergedCell_114 (lv_at hl 0 rfl) ?_
            refine lv_icmp_ne (tgt := 124) hx hb dX2_mergedCell_116 (by decide) (fun c_116 => ?_) (fun c_116 => ?_)
            · refine lv_iload hx hb dX2_mergedCell_124 (lv_at hl 2 rfl) ?_
              have ef : f_X2_mergedCell zb zo zt p1 p2 p3 p4 = f_X1_cellAt zo p1 p2 := by rw [f_X2_mergedCell, if_neg c_31, if_neg c_46, if_neg c_65, if_pos c_79, if_neg c_109, if_neg c_116]
              exact W.iret (v := f_X1_cellAt zo p1 p2) hx hb hr (fun t ht hW => ⟨⟨f_X1_cellAt zo p1 p2, (), rfl, ef.symm, trivial⟩, hS.F ht⟩) hS.2.2 dX2_mergedCell_126
            · refine lv_iload hx hb dX2_mergedCell_119 (lv_at hl 1 rfl) ?_
              refine lv_goto (tgt := 126) hx hb dX2_mergedCell_121 (by decide) ?_
              have ef : f_X2_mergedCell zb zo zt p1 p2 p3 p4 = f_X1_cellAt zt p1 p2 := by rw [f_X2_mergedCell, if_neg c_31, if_neg c_46, if_neg c_65, if_pos c_79, if_neg c_109, if_pos c_116]
              exact W.iret (v := f_X1_cellAt zt p1 p2) hx hb hr (fun t ht hW => ⟨⟨f_X1_cellAt zt p1 p2, (), rfl, ef.symm, trivial⟩, hS.F ht⟩) hS.2.2 dX2_mergedCell_126
        · refine lv_iload_n hx hb dX2_mergedCell_82 rfl (lv_at hl 6 rfl) ?_
          refine lv_iconst (v := 2) hx hb dX2_mergedCell_83 (by decide) ?_
          refine lv_icmp_ne (tgt := 97) hx hb dX2_mergedCell_84 (by decide) (fun c_84 => ?_) (fun c_84 => ?_)
          · refine lv_iload hx hb dX2_mergedCell_97 (lv_at hl 2 rfl) ?_
            have ef : f_X2_mergedCell zb zo zt p1 p2 p3 p4 = f_X1_cellAt zo p1 p2 := by rw [f_X2_mergedCell, if_neg c_31, if_neg c_46, if_neg c_65, if_neg c_79, if_neg c_84]
            exact W.iret (v := f_X1_cellAt zo p1 p2) hx hb hr (fun t ht hW => ⟨⟨f_X1_cellAt zo p1 p2, (), rfl, ef.symm, trivial⟩, hS.F ht⟩) hS.2.2 dX2_mergedCell_99
          · refine lv_iload hx hb dX2_mergedCell_87 (lv_at hl 2 rfl) ?_
            refine lv_iload hx hb dX2_mergedCell_89 (lv_at hl 1 rfl) ?_
            refine va_mmax (rest := []) hx hb (hml.trans hl.1.symm) hown (hts (.methodLink RX2 289 Lib.Math.max.name) (List.mem_of_getElem? (i := 4) rfl)) (hts (.static Lib.Math.max.name) (List.mem_of_getElem? (i := 5) rfl)) (hts (.initialized "java/lang/Math") (List.mem_of_getElem? (i := 6) rfl)) (hts (.code Lib.Math.max.name Lib.Math.max.code 2 (some .int)) (List.mem_of_getElem? (i := 7) rfl)) (Nat.le_of_ble_eq_true rfl) (Nat.le_of_ble_eq_true rfl) (Nat.zero_le _) (Nat.zero_le _) dX2_mergedCell_91 ?_
            refine lv_goto (tgt := 99) hx hb dX2_mergedCell_94 (by decide) ?_
            have ef : f_X2_mergedCell zb zo zt p1 p2 p3 p4 = if (f_X1_cellAt zo p1 p2) < (f_X1_cellAt zt p1 p2) then (f_X1_cellAt zt p1 p2) else (f_X1_cellAt zo p1 p2) := by rw [f_X2_mergedCell, if_neg c_31, if_neg c_46, if_neg c_65, if_neg c_79, if_pos c_84]
            exact W.iret (v := if (f_X1_cellAt zo p1 p2) < (f_X1_cellAt zt p1 p2) then (f_X1_cellAt zt p1 p2) else (f_X1_cellAt zo p1 p2)) hx hb hr (fun t ht hW => ⟨⟨if (f_X1_cellAt zo p1 p2) < (f_X1_cellAt zt p1 p2) then (f_X1_cellAt zt p1 p2) else (f_X1_cellAt zo p1 p2), (), rfl, ef.symm, trivial⟩, hS.F ht⟩) hS.2.2 dX2_mergedCell_99
      · refine lv_iload hx hb dX2_mergedCell_68 (lv_at hl 2 rfl) ?_
        refine lv_iload hx hb dX2_mergedCell_70 (lv_at hl 1 rfl) ?_
        refine lv_iadd hx hb dX2_mergedCell_72 ?_
        refine lv_iload hx hb dX2_mergedCell_73 (lv_at hl 0 rfl) ?_
        refine lv_isub hx hb dX2_mergedCell_75 ?_
        have ef : f_X2_mergedCell zb zo zt p1 p2 p3 p4 = ((f_X1_cellAt zo p1 p2) + (f_X1_cellAt zt p1 p2)) - (f_X1_cellAt zb p1 p2) := by rw [f_X2_mergedCell, if_neg c_31, if_neg c_46, if_pos c_65]
        exact W.iret (v := ((f_X1_cellAt zo p1 p2) + (f_X1_cellAt zt p1 p2)) - (f_X1_cellAt zb p1 p2)) hx hb hr (fun t ht hW => ⟨⟨((f_X1_cellAt zo p1 p2) + (f_X1_cellAt zt p1 p2)) - (f_X1_cellAt zb p1 p2), (), rfl, ef.symm, trivial⟩, hS.F ht⟩) hS.2.2 dX2_mergedCell_76
    · refine lv_iload hx hb dX2_mergedCell_49 (lv_at hl 1 rfl) ?_
      have ef : f_X2_mergedCell zb zo zt p1 p2 p3 p4 = f_X1_cellAt zo p1 p2 := by rw [f_X2_mergedCell, if_neg c_31, if_pos c_46]
      exact W.iret (v := f_X1_cellAt zo p1 p2) hx hb hr (fun t ht hW => ⟨⟨f_X1_cellAt zo p1 p2, (), rfl, ef.symm, trivial⟩, hS.F ht⟩) hS.2.2 dX2_mergedCell_51
  · refine lv_iload hx hb dX2_mergedCell_34 (lv_at hl 0 rfl) ?_
    have ef : f_X2_mergedCell zb zo zt p1 p2 p3 p4 = f_X1_cellAt zt p1 p2 := by rw [f_X2_mergedCell, if_pos c_31]
    exact W.iret (v := f_X1_cellAt zt p1 p2) hx hb hr (fun t ht hW => ⟨⟨f_X1_cellAt zt p1 p2, (), rfl, ef.symm, trivial⟩, hS.F ht⟩) hS.2.2 dX2_mergedCell_36
def f_X2_cellsAreUnlike (zb : Tr) (zo : Tr) (zt : Tr) (p1 : Int32) (p2 : Int32) : Int32 := if (f_X1_hasCell zo p1 p2) = 0 then 0 else (if (f_X1_hasCell zt p1 p2) = 0 then 0 else (if (f_X1_cellAt zo p1 p2) = (f_X1_cellAt zt p1 p2) then 0 else (if (f_X1_hasCell zb p1 p2) = 0 then 1 else (if (f_X1_cellAt zo p1 p2) = (f_X1_cellAt zb p1 p2) then 0 else (if (f_X1_cellAt zt p1 p2) = (f_X1_cellAt zb p1 p2) then 0 else 1)))))
theorem uin_X2_cellsAreUnlike_X2 : ∀ w ∈ wsX20, w ∈ wsX2_cellsAreUnlike := fun _ h => List.mem_cons_of_mem _ (List.mem_append_left _ (List.mem_append_right _ h))
theorem uin_X2_cellsAreUnlike_X1 : ∀ w ∈ wsX10, w ∈ wsX2_cellsAreUnlike := fun _ h => List.mem_cons_of_mem _ (List.mem_append_right _ h)
set_option maxHeartbeats 4000000 in
set_option maxRecDepth 100000 in
theorem k_X2_cellsAreUnlike (l : Launch) (D : va_G) (cyI cyZ : ClassId) (ad : Nat → Nat) (zb : Tr) (zo : Tr) (zt : Tr) (zm : Tr) (zu : Nat → Int32) (zr : Nat → Int32) (zl : Lr) (zf : Int32) (p1 : Int32) (p2 : Int32) : Met l yX2_cellsAreUnlike wsX2_cellsAreUnlike ({ frames := 3, cells := 0, slots := 0, locals := 65 } : Room) (pcP D cyI cyZ [.ref (ad 0), .int p1, .int p2] (wZ cyI cyZ ad zb zo zt zm zu zr zl zf)) (qI (f_X2_cellsAreUnlike zb zo zt p1 p2)) 0 0 nA := by
  refine Met.ofW (cc := cX2_cellsAreUnlike) (maxL := 6) (ret := (some .boolean)) (by decide) rfl ?_
  intro p e s m args below meth c s₁ B hml hv
  obtain ⟨rfl, hP, hG⟩ := hv
  have hx := B.exec
  have hb := B.bytes
  have hr := B.returns
  have hts := atoms_spec (ws := wsX2_cellsAreUnlike) B.pre
  have hown : s.vm.findClass RX2 = some m.cls := findClass_of_methodNamed B.named
  have hlocks := B.notSynchronized
  have hS : va_S nA s.heap s.heap [] := va_S.rf
  have hl := lv_entry ([.ref (ad 0), .int p1, .int p2]) (n := 6) (Nat.le_of_ble_eq_true rfl)
  rw [lg_entry_eq]
  generalize (lg_sl ([.ref (ad 0), .int p1, .int p2]) ++ List.replicate (6 - (lg_sl ([.ref (ad 0), .int p1, .int p2])).length) Slot.unset).toArray = ls at hl ⊢
  have hl : lv_has ls 6 [(0, .ref (ad 0)), (1, .int p1), (2, .int p2)] := hl
  have hP : va_P D vwCl (wZ cyI cyZ ad zb zo zt zm zu zr zl zf) s.heap := hP
  refine lv_aload_n hx hb dX2_cellsAreUnlike_0 rfl (lv_at hl 0 rfl) ?_
  refine va_get (D := D) (ci := 2) (v := .ref (ad 4)) (C := RX2) (T := TX2) (N := 8) hx hb hts uin_X2_cellsAreUnlike_X2 hown hG.1 hP 0 rfl rfl 1 (by decide) (hts (.fieldLink RX2 16 "TableSplice" "ours" "LTableSplice$Table;") (List.mem_of_getElem? (i := 1) rfl)) (fun _ h9 => h9) rfl dX2_cellsAreUnlike_1 ?_
  refine lv_iload_n hx hb dX2_cellsAreUnlike_4 rfl (lv_at hl 1 rfl) ?_
  refine lv_iload_n hx hb dX2_cellsAreUnlike_5 rfl (lv_at hl 2 rfl) ?_
  refine pr_i (va_runVN (As := [.int p1, .int p2]) (rest := []) ⟨hx, hb, hml, hown, hts⟩ (k_X1_hasCell l D cyI cyZ (ad 4) (ad 5) (ad 6) zo p1 p2) ⟨va_cnB 2 hts gX2_cellsAreUnlike_X1_hasCell_n185 rfl rfl rfl (hG.2.1 (RX2, 185, yX1_hasCell, "TableSplice") (List.mem_of_getElem? (i := 17) rfl)) (hts (.initialized RX1) (List.mem_of_getElem? (i := 5) rfl)) (by decide +kernel) ⟨Nat.le_of_ble_eq_true rfl, Nat.le_of_ble_eq_true rfl⟩, hts (.instanceMethod yX1_hasCell) (List.mem_of_getElem? (i := 4) rfl), hts (.selects RX1 yX1_hasCell yX1_hasCell) (List.mem_of_getElem? (i := 6) rfl)⟩ (prV hG (hP.sub (ws' := wT cyI (ad 4) (ad 5) (ad 6) zo) [4, 5, 6] rfl) (ci := 1) rfl rfl rfl) rfl rfl hl.1 rfl (lv_room (Nat.le_of_ble_eq_true rfl)) dX2_cellsAreUnlike_6 ⟨Nat.zero_le _, Nat.zero_le _⟩) hS hP (fun H locs hP hS => ?_)
  refine lv_if_eq (tgt := 24) hx hb dX2_cellsAreUnlike_9 (by decide) (fun c_9 => ?_) (fun c_9 => ?_)
  · refine lv_iconst (v := 0) hx hb dX2_cellsAreUnlike_24 (by decide) ?_
    have ef : f_X2_cellsAreUnlike zb zo zt p1 p2 = 0 := by rw [f_X2_cellsAreUnlike, if_pos c_9]
    exact W.zret (v := 0) (ty := .boolean) hx hb hr rfl (fun t ht hW => ⟨⟨0, (), rfl, ef.symm, trivial⟩, hS.F ht⟩) hS.2.2 dX2_cellsAreUnlike_25
  · refine lv_aload_n hx hb dX2_cellsAreUnlike_12 rfl (lv_at hl 0 rfl) ?_
    refine va_get (D := D) (ci := 2) (v := .ref (ad 7)) (C := RX2) (T := TX2) (N := 8) hx hb hts uin_X2_cellsAreUnlike_X2 hown hG.1 hP 0 rfl rfl 2 (by decide) (hts (.fieldLink RX2 19 "TableSplice" "theirs" "LTableSplice$Table;") (List.mem_of_getElem? (i := 2) rfl)) (fun _ h9 => h9) rfl dX2_cellsAreUnlike_13 ?_
    refine lv_iload_n hx hb dX2_cellsAreUnlike_16 rfl (lv_at hl 1 rfl) ?_
    refine lv_iload_n hx hb dX2_cellsAreUnlike_17 rfl (lv_at hl 2 rfl) ?_
    refine pr_i (va_runVN (As := [.int p1, .int p2]) (rest := []) ⟨hx, hb, hml, hown, hts⟩ (k_X1_hasCell l D cyI cyZ (ad 7) (ad 8) (ad 9) zt p1 p2) ⟨va_cnB 2 hts gX2_cellsAreUnlike_X1_hasCell_n185 rfl rfl rfl (hG.2.1 (RX2, 185, yX1_hasCell, "TableSplice") (List.mem_of_getElem? (i := 17) rfl)) (hts (.initialized RX1) (List.mem_of_getElem? (i := 5) rfl)) (by decide +kernel) ⟨Nat.le_of_ble_eq_true rfl, Nat.le_of_ble_eq_true rfl⟩, hts (.instanceMethod yX1_hasCell) (List.mem_of_getElem? (i := 4) rfl), hts (.selects RX1 yX1_hasCell yX1_hasCell) (List.mem_of_getElem? (i := 6) rfl)⟩ (prV hG (hP.sub (ws' := wT cyI (ad 7) (ad 8) (ad 9) zt) [7, 8, 9] rfl) (ci := 1) rfl rfl rfl) rfl rfl hl.1 rfl (lv_room (Nat.le_of_ble_eq_true rfl)) dX2_cellsAreUnlike_18 ⟨Nat.zero_le _, Nat.zero_le _⟩) hS hP (fun H locs hP hS => ?_)
    refine lv_if_ne (tgt := 26) hx hb dX2_cellsAreUnlike_21 (by decide) (fun c_21 => ?_) (fun c_21 => ?_)
    · refine lv_aload_n hx hb dX2_cellsAreUnlike_26 rfl (lv_at hl 0 rfl) ?_
      refine va_get (D := D) (ci := 2) (v := .ref (ad 4)) (C := RX2) (T := TX2) (N := 8) hx hb hts uin_X2_cellsAreUnlike_X2 hown hG.1 hP 0 rfl rfl 1 (by decide) (hts (.fieldLink RX2 16 "TableSplice" "ours" "LTableSplice$Table;") (List.mem_of_getElem? (i := 1) rfl)) (fun _ h9 => h9) rfl dX2_cellsAreUnlike_27 ?_
      refine lv_iload_n hx hb dX2_cellsAreUnlike_30 rfl (lv_at hl 1 rfl) ?_
      refine lv_iload_n hx hb dX2_cellsAreUnlike_31 rfl (lv_at hl 2 rfl) ?_
      refine pr_i (va_runVN (As := [.int p1, .int p2]) (rest := []) ⟨hx, hb, hml, hown, hts⟩ (k_X1_cellAt l D cyI cyZ (ad 4) (ad 5) (ad 6) zo p1 p2) ⟨va_cnB 2 hts gX2_cellsAreUnlike_X1_cellAt_n113 rfl rfl rfl (hG.2.1 (RX2, 113, yX1_cellAt, "TableSplice") (List.mem_of_getElem? (i := 18) rfl)) (hts (.initialized RX1) (List.mem_of_getElem? (i := 5) rfl)) (by decide +kernel) ⟨Nat.le_of_ble_eq_true rfl, Nat.le_of_ble_eq_true rfl⟩, hts (.instanceMethod yX1_cellAt) (List.mem_of_getElem? (i := 18) rfl), hts (.selects RX1 yX1_cellAt yX1_cellAt) (List.mem_of_getElem? (i := 19) rfl)⟩ (prV hG (hP.sub (ws' := wT cyI (ad 4) (ad 5) (ad 6) zo) [4, 5, 6] rfl) (ci := 1) rfl rfl rfl) rfl rfl hl.1 rfl (lv_room (Nat.le_of_ble_eq_true rfl)) dX2_cellsAreUnlike_32 ⟨Nat.zero_le _, Nat.zero_le _⟩) hS hP (fun H locs hP hS => ?_)
      refine lv_istore_n (lv' := [(3, .int (f_X1_cellAt zo p1 p2)), (0, .ref (ad 0)), (1, .int p1), (2, .int p2)]) hx hb dX2_cellsAreUnlike_35 rfl hl (by decide) rfl (fun ls hl => ?_)
      refine lv_aload_n hx hb dX2_cellsAreUnlike_36 rfl (lv_at hl 1 rfl) ?_
      refine va_get (D := D) (ci := 2) (v := .ref (ad 7)) (C := RX2) (T := TX2) (N := 8) hx hb hts uin_X2_cellsAreUnlike_X2 hown hG.1 hP 0 rfl rfl 2 (by decide) (hts (.fieldLink RX2 19 "TableSplice" "theirs" "LTableSplice$Table;") (List.mem_of_getElem? (i := 2) rfl)) (fun _ h9 => h9) rfl dX2_cellsAreUnlike_37 ?_
      refine lv_iload_n hx hb dX2_cellsAreUnlike_40 rfl (lv_at hl 2 rfl) ?_
      refine lv_iload_n hx hb dX2_cellsAreUnlike_41 rfl (lv_at hl 3 rfl) ?_
      refine pr_i (va_runVN (As := [.int p1, .int p2]) (rest := []) ⟨hx, hb, hml, hown, hts⟩ (k_X1_cellAt l D cyI cyZ (ad 7) (ad 8) (ad 9) zt p1 p2) ⟨va_cnB 2 hts gX2_cellsAreUnlike_X1_cellAt_n113 rfl rfl rfl (hG.2.1 (RX2, 113, yX1_cellAt, "TableSplice") (List.mem_of_getElem? (i := 18) rfl)) (hts (.initialized RX1) (List.mem_of_getElem? (i := 5) rfl)) (by decide +kernel) ⟨Nat.le_of_ble_eq_true rfl, Nat.le_of_ble_eq_true rfl⟩, hts (.instanceMethod yX1_cellAt) (List.mem_of_getElem? (i := 18) rfl), hts (.selects RX1 yX1_cellAt yX1_cellAt) (List.mem_of_getElem? (i := 19) rfl)⟩ (prV hG (hP.sub (ws' := wT cyI (ad 7) (ad 8) (ad 9) zt) [7, 8, 9] rfl) (ci := 1) rfl rfl rfl) rfl rfl hl.1 rfl (lv_room (Nat.le_of_ble_eq_true rfl)) dX2_cellsAreUnlike_42 ⟨Nat.zero_le _, Nat.zero_le _⟩) hS hP (fun H locs hP hS => ?_)
      refine lv_istore (lv' := [(4, .int (f_X1_cellAt zt p1 p2)), (3, .int (f_X1_cellAt zo p1 p2)), (0, .ref (ad 0)), (1, .int p1), (2, .int p2)]) hx hb dX2_cellsAreUnlike_45 hl (by decide) rfl (fun ls hl => ?_)
      refine lv_iload_n hx hb dX2_cellsAreUnlike_47 rfl (lv_at hl 1 rfl) ?_
      refine lv_iload hx hb dX2_cellsAreUnlike_48 (lv_at hl 0 rfl) ?_
      refine lv_icmp_ne (tgt := 55) hx hb dX2_cellsAreUnlike_50 (by decide) (fun c_50 => ?_) (fun c_50 => ?_)
      · refine lv_aload_n hx hb dX2_cellsAreUnlike_55 rfl (lv_at hl 2 rfl) ?_
        refine va_get (D := D) (ci := 2) (v := .ref (ad 1)) (C := RX2) (T := TX2) (N := 8) hx hb hts uin_X2_cellsAreUnlike_X2 hown hG.1 hP 0 rfl rfl 0 (by decide) (hts (.fieldLink RX2 10 "TableSplice" "base" "LTableSplice$Table;") (List.mem_of_getElem? (i := 3) rfl)) (fun _ h9 => h9) rfl dX2_cellsAreUnlike_56 ?_
        refine lv_iload_n hx hb dX2_cellsAreUnlike_59 rfl (lv_at hl 3 rfl) ?_
        refine lv_iload_n hx hb dX2_cellsAreUnlike_60 rfl (lv_at hl 4 rfl) ?_
        refine pr_i (va_runVN (As := [.int p1, .int p2]) (rest := []) ⟨hx, hb, hml, hown, hts⟩ (k_X1_cellAt l D cyI cyZ (ad 1) (ad 2) (ad 3) zb p1 p2) ⟨va_cnB 2 hts gX2_cellsAreUnlike_X1_cellAt_n113 rfl rfl rfl (hG.2.1 (RX2, 113, yX1_cellAt, "TableSplice") (List.mem_of_getElem? (i := 18) rfl)) (hts (.initialized RX1) (List.mem_of_getElem? (i := 5) rfl)) (by decide +kernel) ⟨Nat.le_of_ble_eq_true rfl, Nat.le_of_ble_eq_true rfl⟩, hts (.instanceMethod yX1_cellAt) (List.mem_of_getElem? (i := 18) rfl), hts (.selects RX1 yX1_cellAt yX1_cellAt) (List.mem_of_getElem? (i := 19) rfl)⟩ (prV hG (hP.sub (ws' := wT cyI (ad 1) (ad 2) (ad 3) zb) [1, 2, 3] rfl) (ci := 1) rfl rfl rfl) rfl rfl hl.1 rfl (lv_room (Nat.le_of_ble_eq_true rfl)) dX2_cellsAreUnlike_61 ⟨Nat.zero_le _, Nat.zero_le _⟩) hS hP (fun H locs hP hS => ?_)
        refine lv_istore (lv' := [(5, .int (f_X1_cellAt zb p1 p2)), (4, .int (f_X1_cellAt zt p1 p2)), (3, .int (f_X1_cellAt zo p1 p2)), (0, .ref (ad 0)), (1, .int p1), (2, .int p2)]) hx hb dX2_cellsAreUnlike_64 hl (by decide) rfl (fun ls hl => ?_)
        refine lv_aload_n hx hb dX2_cellsAreUnlike_66 rfl (lv_at hl 3 rfl) ?_
        refine va_get (D := D) (ci := 2) (v := .ref (ad 1)) (C := RX2) (T := TX2) (N := 8) hx hb hts uin_X2_cellsAreUnlike_X2 hown hG.1 hP 0 rfl rfl 0 (by decide) (hts (.fieldLink RX2 10 "TableSplice" "base" "LTableSplice$Table;") (List.mem_of_getElem? (i := 3) rfl)) (fun _ h9 => h9) rfl dX2_cellsAreUnlike_67 ?_
        refine lv_iload_n hx hb dX2_cellsAreUnlike_70 rfl (lv_at hl 4 rfl) ?_
        refine lv_iload_n hx hb dX2_cellsAreUnlike_71 rfl (lv_at hl 5 rfl) ?_
        refine pr_i (va_runVN (As := [.int p1, .int p2]) (rest := []) ⟨hx, hb, hml, hown, hts⟩ (k_X1_hasCell l D cyI cyZ (ad 1) (ad 2) (ad 3) zb p1 p2) ⟨va_cnB 2 hts gX2_cellsAreUnlike_X1_hasCell_n185 rfl rfl rfl (hG.2.1 (RX2, 185, yX1_hasCell, "TableSplice") (List.mem_of_getElem? (i := 17) rfl)) (hts (.initialized RX1) (List.mem_of_getElem? (i := 5) rfl)) (by decide +kernel) ⟨Nat.le_of_ble_eq_true rfl, Nat.le_of_ble_eq_true rfl⟩, hts (.instanceMethod yX1_hasCell) (List.mem_of_getElem? (i := 4) rfl), hts (.selects RX1 yX1_hasCell yX1_hasCell) (List.mem_of_getElem? (i := 6) rfl)⟩ (prV hG (hP.sub (ws' := wT cyI (ad 1) (ad 2) (ad 3) zb) [1, 2, 3] rfl) (ci := 1) rfl rfl rfl) rfl rfl hl.1 rfl (lv_room (Nat.le_of_ble_eq_true rfl)) dX2_cellsAreUnlike_72 ⟨Nat.zero_le _, Nat.zero_le _⟩) hS hP (fun H locs hP hS => ?_)
        refine lv_if_eq (tgt := 91) hx hb dX2_cellsAreUnlike_75 (by decide) (fun c_75 => ?_) (fun c_75 => ?_)
        · refine lv_iconst (v := 1) hx hb dX2_cellsAreUnlike_91 (by decide) ?_
          refine lv_goto (tgt := 96) hx hb dX2_cellsAreUnlike_92 (by decide) ?_
          have ef : f_X2_cellsAreUnlike zb zo zt p1 p2 = 1 := by rw [f_X2_cellsAreUnlike, if_neg c_9, if_neg c_21, if_neg c_50, if_pos c_75]
          exact W.zret (v := 1) (ty := .boolean) hx hb hr rfl (fun t ht hW => ⟨⟨1, (), rfl, ef.symm, trivial⟩, hS.F ht⟩) hS.2.2 dX2_cellsAreUnlike_96
        · refine lv_iload_n hx hb dX2_cellsAreUnlike_78 rfl (lv_at hl 2 rfl) ?_
          refine lv_iload hx hb dX2_cellsAreUnlike_79 (lv_at hl 0 rfl) ?_
          refine lv_icmp_eq (tgt := 95) hx hb dX2_cellsAreUnlike_81 (by decide) (fun c_81 => ?_) (fun c_81 => ?_)
          · refine lv_iconst (v := 0) hx hb dX2_cellsAreUnlike_95 (by decide) ?_
            have ef : f_X2_cellsAreUnlike zb zo zt p1 p2 = 0 := by rw [f_X2_cellsAreUnlike, if_neg c_9, if_neg c_21, if_neg c_50, if_neg c_75, if_pos c_81]
            exact W.zret (v := 0) (ty := .boolean) hx hb hr rfl (fun t ht hW => ⟨⟨0, (), rfl, ef.symm, trivial⟩, hS.F ht⟩) hS.2.2 dX2_cellsAreUnlike_96
          · refine lv_iload hx hb dX2_cellsAreUnlike_84 (lv_at hl 1 rfl) ?_
            refine lv_iload hx hb dX2_cellsAreUnlike_86 (lv_at hl 0 rfl) ?_
            refine lv_icmp_eq (tgt := 95) hx hb dX2_cellsAreUnlike_88 (by decide) (fun c_88 => ?_) (fun c_88 => ?_)
            · refine lv_iconst (v := 0) hx hb dX2_cellsAreUnlike_95 (by decide) ?_
              have ef : f_X2_cellsAreUnlike zb zo zt p1 p2 = 0 := by rw [f_X2_cellsAreUnlike, if_neg c_9, if_neg c_21, if_neg c_50, if_neg c_75, if_neg c_81, if_pos c_88]
              exact W.zret (v := 0) (ty := .boolean) hx hb hr rfl (fun t ht hW => ⟨⟨0, (), rfl, ef.symm, trivial⟩, hS.F ht⟩) hS.2.2 dX2_cellsAreUnlike_96
            · refine lv_iconst (v := 1) hx hb dX2_cellsAreUnlike_91 (by decide) ?_
              refine lv_goto (tgt := 96) hx hb dX2_cellsAreUnlike_92 (by decide) ?_
              have ef : f_X2_cellsAreUnlike zb zo zt p1 p2 = 1 := by rw [f_X2_cellsAreUnlike, if_neg c_9, if_neg c_21, if_neg c_50, if_neg c_75, if_neg c_81, if_neg c_88]
              exact W.zret (v := 1) (ty := .boolean) hx hb hr rfl (fun t ht hW => ⟨⟨1, (), rfl, ef.symm, trivial⟩, hS.F ht⟩) hS.2.2 dX2_cellsAreUnlike_96
      · refine lv_iconst (v := 0) hx hb dX2_cellsAreUnlike_53 (by decide) ?_
        have ef : f_X2_cellsAreUnlike zb zo zt p1 p2 = 0 := by rw [f_X2_cellsAreUnlike, if_neg c_9, if_neg c_21, if_pos c_50]
        exact W.zret (v := 0) (ty := .boolean) hx hb hr rfl (fun t ht hW => ⟨⟨0, (), rfl, ef.symm, trivial⟩, hS.F ht⟩) hS.2.2 dX2_cellsAreUnlike_54
    · refine lv_iconst (v := 0) hx hb dX2_cellsAreUnlike_24 (by decide) ?_
      have ef : f_X2_cellsAreUnlike zb zo zt p1 p2 = 0 := by rw [f_X2_cellsAreUnlike, if_neg c_9, if_pos c_21]
      exact W.zret (v := 0) (ty := .boolean) hx hb hr rfl (fun t ht hW => ⟨⟨0, (), rfl, ef.symm, trivial⟩, hS.F ht⟩) hS.2.2 dX2_cellsAreUnlike_25
def f_X2_refersToNoRow (zm : Tr) (zr : Nat → Int32) (p1 : Int32) (p2 : Int32) : Int32 := if (f_X2_isColumnNumber p2) = 0 then 0 else (if (zr (p2).toNatClampNeg) = 0 then 0 else (if (f_X1_hasCell zm p1 p2) = 0 then 0 else (if (f_X1_cellAt zm p1 p2) = (-1) then 0 else (if (f_X1_hasRow zm (f_X1_cellAt zm p1 p2)) = 0 then 1 else 0))))
theorem uin_X2_refersToNoRow_X2 : ∀ w ∈ wsX20, w ∈ wsX2_refersToNoRow := fun _ h => List.mem_cons_of_mem _ (List.mem_append_left _ (List.mem_append_right _ h))
theorem uin_X2_refersToNoRow_X1 : ∀ w ∈ wsX10, w ∈ wsX2_refersToNoRow := fun _ h => List.mem_cons_of_mem _ (List.mem_append_right _ h)
set_option maxHeartbeats 4000000 in
set_option maxRecDepth 100000 in
theorem k_X2_refersToNoRow (l : Launch) (D : va_G) (cyI cyZ : ClassId) (ad : Nat → Nat) (zb : Tr) (zo : Tr) (zt : Tr) (zm : Tr) (zu : Nat → Int32) (zr : Nat → Int32) (zl : Lr) (zf : Int32) (p1 : Int32) (p2 : Int32) : Met l yX2_refersToNoRow wsX2_refersToNoRow ({ frames := 3, cells := 0, slots := 0, locals := 65 } : Room) (pcP D cyI cyZ [.ref (ad 0), .int p1, .int p2] (wZ cyI cyZ ad zb zo zt zm zu zr zl zf)) (qI (f_X2_refersToNoRow zm zr p1 p2)) 0 0 nA := by
  refine Met.ofW (cc := cX2_refersToNoRow) (maxL := 4) (ret := (some .boolean)) (by decide) rfl ?_
  intro p e s m args below meth c s₁ B hml hv
  obtain ⟨rfl, hP, hG⟩ := hv
  have hx := B.exec
  have hb := B.bytes
  have hr := B.returns
  have hts := atoms_spec (ws := wsX2_refersToNoRow) B.pre
  have hown : s.vm.findClass RX2 = some m.cls := findClass_of_methodNamed B.named
  have hlocks := B.notSynchronized
  have hS : va_S nA s.heap s.heap [] := va_S.rf
  have hl := lv_entry ([.ref (ad 0), .int p1, .int p2]) (n := 4) (Nat.le_of_ble_eq_true rfl)
  rw [lg_entry_eq]
  generalize (lg_sl ([.ref (ad 0), .int p1, .int p2]) ++ List.replicate (4 - (lg_sl ([.ref (ad 0), .int p1, .int p2])).length) Slot.unset).toArray = ls at hl ⊢
  have hl : lv_has ls 4 [(0, .ref (ad 0)), (1, .int p1), (2, .int p2)] := hl
  have hP : va_P D vwCl (wZ cyI cyZ ad zb zo zt zm zu zr zl zf) s.heap := hP
  refine lv_iload_n hx hb dX2_refersToNoRow_0 rfl (lv_at hl 2 rfl) ?_
  refine pr_i (va_runS (As := [.int p2]) (rest := []) ⟨hx, hb, hml, hown, hts⟩ (k_X2_isColumnNumber l D cyI cyZ p2) (va_cwS 1 hts gX2_refersToNoRow_X2_isColumnNumber rfl rfl rfl (by decide +kernel) ⟨Nat.le_of_ble_eq_true rfl, Nat.le_of_ble_eq_true rfl⟩) (prS hG (hP.sub (ws' := []) [] rfl)) rfl rfl hl.1 rfl (lv_room (Nat.le_of_ble_eq_true rfl)) dX2_refersToNoRow_1 ⟨Nat.zero_le _, Nat.zero_le _⟩) hS hP (fun H locs hP hS => ?_)
  refine lv_if_eq (tgt := 28) hx hb dX2_refersToNoRow_4 (by decide) (fun c_4 => ?_) (fun c_4 => ?_)
  · refine lv_iconst (v := 0) hx hb dX2_refersToNoRow_28 (by decide) ?_
    have ef : f_X2_refersToNoRow zm zr p1 p2 = 0 := by rw [f_X2_refersToNoRow, if_pos c_4]
    exact W.zret (v := 0) (ty := .boolean) hx hb hr rfl (fun t ht hW => ⟨⟨0, (), rfl, ef.symm, trivial⟩, hS.F ht⟩) hS.2.2 dX2_refersToNoRow_29
  · refine lv_aload_n hx hb dX2_refersToNoRow_7 rfl (lv_at hl 0 rfl) ?_
    refine va_get (D := D) (ci := 2) (v := .ref (ad 14)) (C := RX2) (T := TX2) (N := 8) hx hb hts uin_X2_refersToNoRow_X2 hown hG.1 hP 0 rfl rfl 5 (by decide) (hts (.fieldLink RX2 29 "TableSplice" "references" "[Z") (List.mem_of_getElem? (i := 1) rfl)) (fun _ h9 => h9) rfl dX2_refersToNoRow_8 ?_
    refine lv_iload_n hx hb dX2_refersToNoRow_11 rfl (lv_at hl 2 rfl) ?_
    refine va_zald hx hb hG.1 hP 14 1 rfl rfl (in_colnum c_4) dX2_refersToNoRow_12 ?_
    refine lv_if_eq (tgt := 28) hx hb dX2_refersToNoRow_13 (by decide) (fun c_13 => ?_) (fun c_13 => ?_)
    · refine lv_iconst (v := 0) hx hb dX2_refersToNoRow_28 (by decide) ?_
      have ef : f_X2_refersToNoRow zm zr p1 p2 = 0 := by rw [f_X2_refersToNoRow, if_neg c_4, if_pos c_13]
      exact W.zret (v := 0) (ty := .boolean) hx hb hr rfl (fun t ht hW => ⟨⟨0, (), rfl, ef.symm, trivial⟩, hS.F ht⟩) hS.2.2 dX2_refersToNoRow_29
    · refine lv_aload_n hx hb dX2_refersToNoRow_16 rfl (lv_at hl 0 rfl) ?_
      refine va_get (D := D) (ci := 2) (v := .ref (ad 10)) (C := RX2) (T := TX2) (N := 8) hx hb hts uin_X2_refersToNoRow_X2 hown hG.1 hP 0 rfl rfl 3 (by decide) (hts (.fieldLink RX2 22 "TableSplice" "merged" "LTableSplice$Table;") (List.mem_of_getElem? (i := 2) rfl)) (fun _ h9 => h9) rfl dX2_refersToNoRow_17 ?_
      refine lv_iload_n hx hb dX2_refersToNoRow_20 rfl (lv_at hl 1 rfl) ?_
      refine lv_iload_n hx hb dX2_refersToNoRow_21 rfl (lv_at hl 2 rfl) ?_
      refine pr_i (va_runVN (As := [.int p1, .int p2]) (rest := []) ⟨hx, hb, hml, hown, hts⟩ (k_X1_hasCell l D cyI cyZ (ad 10) (ad 11) (ad 12) zm p1 p2) ⟨va_cnB 2 hts gX2_refersToNoRow_X1_hasCell_n185 rfl rfl rfl (hG.2.1 (RX2, 185, yX1_hasCell, "TableSplice") (List.mem_of_getElem? (i := 17) rfl)) (hts (.initialized RX1) (List.mem_of_getElem? (i := 8) rfl)) (by decide +kernel) ⟨Nat.le_of_ble_eq_true rfl, Nat.le_of_ble_eq_true rfl⟩, hts (.instanceMethod yX1_hasCell) (List.mem_of_getElem? (i := 7) rfl), hts (.selects RX1 yX1_hasCell yX1_hasCell) (List.mem_of_getElem? (i := 9) rfl)⟩ (prV hG (hP.sub (ws' := wT cyI (ad 10) (ad 11) (ad 12) zm) [10, 11, 12] rfl) (ci := 1) rfl rfl rfl) rfl rfl hl.1 rfl (lv_room (Nat.le_of_ble_eq_true rfl)) dX2_refersToNoRow_22 ⟨Nat.zero_le _, Nat.zero_le _⟩) hS hP (fun H locs hP hS => ?_)
      refine lv_if_ne (tgt := 30) hx hb dX2_refersToNoRow_25 (by decide) (fun c_25 => ?_) (fun c_25 => ?_)
      · refine lv_aload_n hx hb dX2_refersToNoRow_30 rfl (lv_at hl 0 rfl) ?_
        refine va_get (D := D) (ci := 2) (v := .ref (ad 10)) (C := RX2) (T := TX2) (N := 8) hx hb hts uin_X2_refersToNoRow_X2 hown hG.1 hP 0 rfl rfl 3 (by decide) (hts (.fieldLink RX2 22 "TableSplice" "merged" "LTableSplice$Table;") (List.mem_of_getElem? (i := 2) rfl)) (fun _ h9 => h9) rfl dX2_refersToNoRow_31 ?_
        refine lv_iload_n hx hb dX2_refersToNoRow_34 rfl (lv_at hl 1 rfl) ?_
        refine lv_iload_n hx hb dX2_refersToNoRow_35 rfl (lv_at hl 2 rfl) ?_
        refine pr_i (va_runVN (As := [.int p1, .int p2]) (rest := []) ⟨hx, hb, hml, hown, hts⟩ (k_X1_cellAt l D cyI cyZ (ad 10) (ad 11) (ad 12) zm p1 p2) ⟨va_cnB 2 hts gX2_refersToNoRow_X1_cellAt_n113 rfl rfl rfl (hG.2.1 (RX2, 113, yX1_cellAt, "TableSplice") (List.mem_of_getElem? (i := 18) rfl)) (hts (.initialized RX1) (List.mem_of_getElem? (i := 8) rfl)) (by decide +kernel) ⟨Nat.le_of_ble_eq_true rfl, Nat.le_of_ble_eq_true rfl⟩, hts (.instanceMethod yX1_cellAt) (List.mem_of_getElem? (i := 21) rfl), hts (.selects RX1 yX1_cellAt yX1_cellAt) (List.mem_of_getElem? (i := 22) rfl)⟩ (prV hG (hP.sub (ws' := wT cyI (ad 10) (ad 11) (ad 12) zm) [10, 11, 12] rfl) (ci := 1) rfl rfl rfl) rfl rfl hl.1 rfl (lv_room (Nat.le_of_ble_eq_true rfl)) dX2_refersToNoRow_36 ⟨Nat.zero_le _, Nat.zero_le _⟩) hS hP (fun H locs hP hS => ?_)
        refine lv_istore_n (lv' := [(3, .int (f_X1_cellAt zm p1 p2)), (0, .ref (ad 0)), (1, .int p1), (2, .int p2)]) hx hb dX2_refersToNoRow_39 rfl hl (by decide) rfl (fun ls hl => ?_)
        refine lv_iload_n hx hb dX2_refersToNoRow_40 rfl (lv_at hl 0 rfl) ?_
        refine lv_iconst (v := (-1)) hx hb dX2_refersToNoRow_41 (by decide) ?_
        refine lv_icmp_eq (tgt := 60) hx hb dX2_refersToNoRow_42 (by decide) (fun c_42 => ?_) (fun c_42 => ?_)
        · refine lv_iconst (v := 0) hx hb dX2_refersToNoRow_60 (by decide) ?_
          have ef : f_X2_refersToNoRow zm zr p1 p2 = 0 := by rw [f_X2_refersToNoRow, if_neg c_4, if_neg c_13, if_neg c_25, if_pos c_42]
          exact W.zret (v := 0) (ty := .boolean) hx hb hr rfl (fun t ht hW => ⟨⟨0, (), rfl, ef.symm, trivial⟩, hS.F ht⟩) hS.2.2 dX2_refersToNoRow_61
        · refine lv_aload_n hx hb dX2_refersToNoRow_45 rfl (lv_at hl 1 rfl) ?_
          refine va_get (D := D) (ci := 2) (v := .ref (ad 10)) (C := RX2) (T := TX2) (N := 8) hx hb hts uin_X2_refersToNoRow_X2 hown hG.1 hP 0 rfl rfl 3 (by decide) (hts (.fieldLink RX2 22 "TableSplice" "merged" "LTableSplice$Table;") (List.mem_of_getElem? (i := 2) rfl)) (fun _ h9 => h9) rfl dX2_refersToNoRow_46 ?_
          refine lv_iload_n hx hb dX2_refersToNoRow_49 rfl (lv_at hl 0 rfl) ?_
          refine pr_i (va_runVN (As := [.int (f_X1_cellAt zm p1 p2)]) (rest := []) ⟨hx, hb, hml, hown, hts⟩ (k_X1_hasRow l D cyI cyZ (ad 10) (ad 11) (ad 12) zm (f_X1_cellAt zm p1 p2)) ⟨va_cnB 1 hts gX2_refersToNoRow_X1_hasRow_n91 rfl rfl rfl (hG.2.1 (RX2, 91, yX1_hasRow, "TableSplice") (List.mem_of_getElem? (i := 13) rfl)) (hts (.initialized RX1) (List.mem_of_getElem? (i := 8) rfl)) (by decide +kernel) ⟨Nat.le_of_ble_eq_true rfl, Nat.le_of_ble_eq_true rfl⟩, hts (.instanceMethod yX1_hasRow) (List.mem_of_getElem? (i := 12) rfl), hts (.selects RX1 yX1_hasRow yX1_hasRow) (List.mem_of_getElem? (i := 13) rfl)⟩ (prV hG (hP.sub (ws' := wT cyI (ad 10) (ad 11) (ad 12) zm) [10, 11, 12] rfl) (ci := 1) rfl rfl rfl) rfl rfl hl.1 rfl (lv_room (Nat.le_of_ble_eq_true rfl)) dX2_refersToNoRow_50 ⟨Nat.zero_le _, Nat.zero_le _⟩) hS hP (fun H locs hP hS => ?_)
          refine lv_if_ne (tgt := 60) hx hb dX2_refersToNoRow_53 (by decide) (fun c_53 => ?_) (fun c_53 => ?_)
          · refine lv_iconst (v := 0) hx hb dX2_refersToNoRow_60 (by decide) ?_
            have ef : f_X2_refersToNoRow zm zr p1 p2 = 0 := by rw [f_X2_refersToNoRow, if_neg c_4, if_neg c_13, if_neg c_25, if_neg c_42, if_neg c_53]
            exact W.zret (v := 0) (ty := .boolean) hx hb hr rfl (fun t ht hW => ⟨⟨0, (), rfl, ef.symm, trivial⟩, hS.F ht⟩) hS.2.2 dX2_refersToNoRow_61
          · refine lv_iconst (v := 1) hx hb dX2_refersToNoRow_56 (by decide) ?_
            refine lv_goto (tgt := 61) hx hb dX2_refersToNoRow_57 (by decide) ?_
            have ef : f_X2_refersToNoRow zm zr p1 p2 = 1 := by rw [f_X2_refersToNoRow, if_neg c_4, if_neg c_13, if_neg c_25, if_neg c_42, if_pos c_53]
            exact W.zret (v := 1) (ty := .boolean) hx hb hr rfl (fun t ht hW => ⟨⟨1, (), rfl, ef.symm, trivial⟩, hS.F ht⟩) hS.2.2 dX2_refersToNoRow_61
      · refine lv_iconst (v := 0) hx hb dX2_refersToNoRow_28 (by decide) ?_
        have ef : f_X2_refersToNoRow zm zr p1 p2 = 0 := by rw [f_X2_refersToNoRow, if_neg c_4, if_neg c_13, if_pos c_25]
        exact W.zret (v := 0) (ty := .boolean) hx hb hr rfl (fun t ht hW => ⟨⟨0, (), rfl, ef.symm, trivial⟩, hS.F ht⟩) hS.2.2 dX2_refersToNoRow_29
def f_X2_hasNameOfLowerColumn (zm : Tr) (q1 : Nat) : Int32 := if (f_X1_hasColumn zm (nI q1)) = 0 then 0 else (if anyN (fun i => decide (¬ f_X1_hasColumn zm (nI i) = 0) && decide (f_X1_nameAt zm (nI i) = f_X1_nameAt zm (nI q1))) q1 = true then 1 else 0)
theorem uin_X2_hasNameOfLowerColumn_X2 : ∀ w ∈ wsX20, w ∈ wsX2_hasNameOfLowerColumn := fun _ h => List.mem_cons_of_mem _ (List.mem_append_left _ (List.mem_append_right _ h))
theorem uin_X2_hasNameOfLowerColumn_X1 : ∀ w ∈ wsX10, w ∈ wsX2_hasNameOfLowerColumn := fun _ h => List.mem_cons_of_mem _ (List.mem_append_right _ h)
set_option maxHeartbeats 4000000 in
set_option maxRecDepth 100000 in
theorem k_X2_hasNameOfLowerColumn (l : Launch) (D : va_G) (cyI cyZ : ClassId) (ad : Nat → Nat) (zb : Tr) (zo : Tr) (zt : Tr) (zm : Tr) (zu : Nat → Int32) (zr : Nat → Int32) (zl : Lr) (zf : Int32) (q1 : Nat) (hq : q1 < 2 ^ 31) : Met l yX2_hasNameOfLowerColumn wsX2_hasNameOfLowerColumn ({ frames := 2, cells := 0, slots := 0, locals := 42 } : Room) (pcP D cyI cyZ [.ref (ad 0), .int (nI q1)] (wZ cyI cyZ ad zb zo zt zm zu zr zl zf)) (qI (f_X2_hasNameOfLowerColumn zm q1)) 0 0 nA := by
  refine Met.ofW (cc := cX2_hasNameOfLowerColumn) (maxL := 3) (ret := (some .boolean)) (by decide) rfl ?_
  intro p e s m args below meth c s₁ B hml hv
  obtain ⟨rfl, hP, hG⟩ := hv
  have hx := B.exec
  have hb := B.bytes
  have hr := B.returns
  have hts := atoms_spec (ws := wsX2_hasNameOfLowerColumn) B.pre
  have hown : s.vm.findClass RX2 = some m.cls := findClass_of_methodNamed B.named
  have hlocks := B.notSynchronized
  have hS : va_S nA s.heap s.heap [] := va_S.rf
  have hl := lv_entry ([.ref (ad 0), .int (nI q1)]) (n := 3) (Nat.le_of_ble_eq_true rfl)
  rw [lg_entry_eq]
  generalize (lg_sl ([.ref (ad 0), .int (nI q1)]) ++ List.replicate (3 - (lg_sl ([.ref (ad 0), .int (nI q1)])).length) Slot.unset).toArray = ls at hl ⊢
  have hl : lv_has ls 3 [(0, .ref (ad 0)), (1, .int (nI q1))] := hl
  have hP : va_P D vwCl (wZ cyI cyZ ad zb zo zt zm zu zr zl zf) s.heap := hP
  refine lv_aload_n hx hb dX2_hasNameOfLowerColumn_0 rfl (lv_at hl 0 rfl) ?_
  refine va_get (D := D) (ci := 2) (v := .ref (ad 10)) (C := RX2) (T := TX2) (N := 8) hx hb hts uin_X2_hasNameOfLowerColumn_X2 hown hG.1 hP 0 rfl rfl 3 (by decide) (hts (.fieldLink RX2 22 "TableSplice" "merged" "LTableSplice$Table;") (List.mem_of_getElem? (i := 1) rfl)) (fun _ h9 => h9) rfl dX2_hasNameOfLowerColumn_1 ?_
  refine lv_iload_n hx hb dX2_hasNameOfLowerColumn_4 rfl (lv_at hl 1 rfl) ?_
  refine pr_i (va_runVN (As := [.int (nI q1)]) (rest := []) ⟨hx, hb, hml, hown, hts⟩ (k_X1_hasColumn l D cyI cyZ (ad 10) (ad 11) (ad 12) zm (nI q1)) ⟨va_cnB 1 hts gX2_hasNameOfLowerColumn_X1_hasColumn_n55 rfl rfl rfl (hG.2.1 (RX2, 55, yX1_hasColumn, "TableSplice") (List.mem_of_getElem? (i := 6) rfl)) (hts (.initialized RX1) (List.mem_of_getElem? (i := 3) rfl)) (by decide +kernel) ⟨Nat.le_of_ble_eq_true rfl, Nat.le_of_ble_eq_true rfl⟩, hts (.instanceMethod yX1_hasColumn) (List.mem_of_getElem? (i := 2) rfl), hts (.selects RX1 yX1_hasColumn yX1_hasColumn) (List.mem_of_getElem? (i := 4) rfl)⟩ (prV hG (hP.sub (ws' := wT cyI (ad 10) (ad 11) (ad 12) zm) [10, 11, 12] rfl) (ci := 1) rfl rfl rfl) rfl rfl hl.1 rfl (lv_room (Nat.le_of_ble_eq_true rfl)) dX2_hasNameOfLowerColumn_5 ⟨Nat.zero_le _, Nat.zero_le _⟩) hS hP (fun H locs hP hS => ?_)
  refine lv_if_ne (tgt := 13) hx hb dX2_hasNameOfLowerColumn_8 (by decide) (fun c_8 => ?_) (fun c_8 => ?_)
  · refine lv_iconst (v := 0) hx hb dX2_hasNameOfLowerColumn_13 (by decide) ?_
    refine lv_istore_n (lv' := [(2, .int 0), (0, .ref (ad 0)), (1, .int (nI q1))]) hx hb dX2_hasNameOfLowerColumn_14 rfl hl (by decide) rfl (fun ls hl => ?_)
    have lp_a : ∀ (n ia : Nat), ia + n = q1 → (anyN (fun i => decide (¬ f_X1_hasColumn zm (nI i) = 0) && decide (f_X1_nameAt zm (nI i) = f_X1_nameAt zm (nI q1))) ia = false) → ∀ (H : Heap) (locs : List Loc), va_P D vwCl (wZ cyI cyZ ad zb zo zt zm zu zr zl zf) H → va_S nA s.heap H locs → ∀ (ls : Array Slot), lv_has ls 3 [(2, .int (nI ia)), (0, .ref (ad 0)), (1, .int (nI q1))] → W p l e (headSpec wsX2_hasNameOfLowerColumn ({ frames := 2, cells := 0, slots := 0, locals := 42 } : Room)).room s m ([.ref (ad 0), .int (nI q1)] : List Value).toArray below meth c H locs 0 0 (MQ below (qI (f_X2_hasNameOfLowerColumn zm q1)) ([.ref (ad 0), .int (nI q1)] : List Value).toArray s 0 0 nA) (F0 m 15 ls []) := by
      intro n
      induction n with
      | zero =>
        intro ia hi_a  ha_a H locs hP hS ls hl
        obtain rfl : q1 = ia := by omega
        refine lv_iload_n hx hb dX2_hasNameOfLowerColumn_15 rfl (lv_at hl 0 rfl) ?_
        refine lv_iload_n hx hb dX2_hasNameOfLowerColumn_16 rfl (lv_at hl 2 rfl) ?_
        refine lv_icmp_ge (tgt := 58) hx hb dX2_hasNameOfLowerColumn_17 (by decide) (fun c_17 => ?_) (fun c_17 => ?_)
        · have hb_a : ¬ anyN (fun i => decide (¬ f_X1_hasColumn zm (nI i) = 0) && decide (f_X1_nameAt zm (nI i) = f_X1_nameAt zm (nI q1))) q1 = true := fun z => by rw [ha_a] at z; cases z
          refine lv_iconst (v := 0) hx hb dX2_hasNameOfLowerColumn_58 (by decide) ?_
          have ef : f_X2_hasNameOfLowerColumn zm q1 = 0 := by rw [f_X2_hasNameOfLowerColumn, if_neg c_8, if_neg hb_a]
          exact W.zret (v := 0) (ty := .boolean) hx hb hr rfl (fun t ht hW => ⟨⟨0, (), rfl, ef.symm, trivial⟩, hS.F ht⟩) hS.2.2 dX2_hasNameOfLowerColumn_59
        · exact absurd (Int32.le_refl _) c_17
      | succ n ih_a =>
        intro ia hi_a  ha_a H locs hP hS ls hl
        have hj_a : ia < q1 := by omega
        refine lv_iload_n hx hb dX2_hasNameOfLowerColumn_15 rfl (lv_at hl 0 rfl) ?_
        refine lv_iload_n hx hb dX2_hasNameOfLowerColumn_16 rfl (lv_at hl 2 rfl) ?_
        refine lv_icmp_ge (tgt := 58) hx hb dX2_hasNameOfLowerColumn_17 (by decide) (fun c_17 => ?_) (fun c_17 => ?_)
        · exact absurd c_17 (nI_ge hj_a (by omega))
        · refine lv_aload_n hx hb dX2_hasNameOfLowerColumn_20 rfl (lv_at hl 1 rfl) ?_
          refine va_get (D := D) (ci := 2) (v := .ref (ad 10)) (C := RX2) (T := TX2) (N := 8) hx hb hts uin_X2_hasNameOfLowerColumn_X2 hown hG.1 hP 0 rfl rfl 3 (by decide) (hts (.fieldLink RX2 22 "TableSplice" "merged" "LTableSplice$Table;") (List.mem_of_getElem? (i := 1) rfl)) (fun _ h9 => h9) rfl dX2_hasNameOfLowerColumn_21 ?_
          refine lv_iload_n hx hb dX2_hasNameOfLowerColumn_24 rfl (lv_at hl 0 rfl) ?_
          refine pr_i (va_runVN (As := [.int (nI ia)]) (rest := []) ⟨hx, hb, hml, hown, hts⟩ (k_X1_hasColumn l D cyI cyZ (ad 10) (ad 11) (ad 12) zm (nI ia)) ⟨va_cnB 1 hts gX2_hasNameOfLowerColumn_X1_hasColumn_n55 rfl rfl rfl (hG.2.1 (RX2, 55, yX1_hasColumn, "TableSplice") (List.mem_of_getElem? (i := 6) rfl)) (hts (.initialized RX1) (List.mem_of_getElem? (i := 3) rfl)) (by decide +kernel) ⟨Nat.le_of_ble_eq_true rfl, Nat.le_of_ble_eq_true rfl⟩, hts (.instanceMethod yX1_hasColumn) (List.mem_of_getElem? (i := 2) rfl), hts (.selects RX1 yX1_hasColumn yX1_hasColumn) (List.mem_of_getElem? (i := 4) rfl)⟩ (prV hG (hP.sub (ws' := wT cyI (ad 10) (ad 11) (ad 12) zm) [10, 11, 12] rfl) (ci := 1) rfl rfl rfl) rfl rfl hl.1 rfl (lv_room (Nat.le_of_ble_eq_true rfl)) dX2_hasNameOfLowerColumn_25 ⟨Nat.zero_le _, Nat.zero_le _⟩) hS hP (fun H locs hP hS => ?_)
          refine lv_if_eq (tgt := 52) hx hb dX2_hasNameOfLowerColumn_28 (by decide) (fun c_28 => ?_) (fun c_28 => ?_)
          · refine lv_iinc (v := nI (ia + 1)) (lv' := [(2, .int (nI (ia + 1))), (0, .ref (ad 0)), (1, .int (nI q1))]) hx hb dX2_hasNameOfLowerColumn_52 hl (k := 0) rfl (nI_1 _) (by decide) rfl (fun ls hl => ?_)
            refine lv_goto (tgt := 15) hx hb dX2_hasNameOfLowerColumn_55 (by decide) ?_
            exact ih_a (ia + 1) (by omega)  (anyN_s ha_a (by rw [decide_eq_false (fun z => z c_28)]; rfl))  _ _ hP hS ls (lv_sub hl [0, 1, 2] rfl)
          · refine lv_aload_n hx hb dX2_hasNameOfLowerColumn_31 rfl (lv_at hl 1 rfl) ?_
            refine va_get (D := D) (ci := 2) (v := .ref (ad 10)) (C := RX2) (T := TX2) (N := 8) hx hb hts uin_X2_hasNameOfLowerColumn_X2 hown hG.1 hP 0 rfl rfl 3 (by decide) (hts (.fieldLink RX2 22 "TableSplice" "merged" "LTableSplice$Table;") (List.mem_of_getElem? (i := 1) rfl)) (fun _ h9 => h9) rfl dX2_hasNameOfLowerColumn_32 ?_
            refine lv_iload_n hx hb dX2_hasNameOfLowerColumn_35 rfl (lv_at hl 0 rfl) ?_
            refine pr_i (va_runVN (As := [.int (nI ia)]) (rest := []) ⟨hx, hb, hml, hown, hts⟩ (k_X1_nameAt l D cyI cyZ (ad 10) (ad 11) (ad 12) zm (nI ia)) ⟨va_cnB 1 hts gX2_hasNameOfLowerColumn_X1_nameAt_n78 rfl rfl rfl (hG.2.1 (RX2, 78, yX1_nameAt, "TableSplice") (List.mem_of_getElem? (i := 8) rfl)) (hts (.initialized RX1) (List.mem_of_getElem? (i := 3) rfl)) (by decide +kernel) ⟨Nat.le_of_ble_eq_true rfl, Nat.le_of_ble_eq_true rfl⟩, hts (.instanceMethod yX1_nameAt) (List.mem_of_getElem? (i := 7) rfl), hts (.selects RX1 yX1_nameAt yX1_nameAt) (List.mem_of_getElem? (i := 8) rfl)⟩ (prV hG (hP.sub (ws' := wT cyI (ad 10) (ad 11) (ad 12) zm) [10, 11, 12] rfl) (ci := 1) rfl rfl rfl) rfl rfl hl.1 rfl (lv_room (Nat.le_of_ble_eq_true rfl)) dX2_hasNameOfLowerColumn_36 ⟨Nat.zero_le _, Nat.zero_le _⟩) hS hP (fun H locs hP hS => ?_)
            refine lv_aload_n hx hb dX2_hasNameOfLowerColumn_39 rfl (lv_at hl 1 rfl) ?_
            refine va_get (D := D) (ci := 2) (v := .ref (ad 10)) (C := RX2) (T := TX2) (N := 8) hx hb hts uin_X2_hasNameOfLowerColumn_X2 hown hG.1 hP 0 rfl rfl 3 (by decide) (hts (.fieldLink RX2 22 "TableSplice" "merged" "LTableSplice$Table;") (List.mem_of_getElem? (i := 1) rfl)) (fun _ h9 => h9) rfl dX2_hasNameOfLowerColumn_40 ?_
            refine lv_iload_n hx hb dX2_hasNameOfLowerColumn_43 rfl (lv_at hl 2 rfl) ?_
            refine pr_i (va_runVN (As := [.int (nI q1)]) (rest := [.int (f_X1_nameAt zm (nI ia))]) ⟨hx, hb, hml, hown, hts⟩ (k_X1_nameAt l D cyI cyZ (ad 10) (ad 11) (ad 12) zm (nI q1)) ⟨va_cnB 1 hts gX2_hasNameOfLowerColumn_X1_nameAt_n78 rfl rfl rfl (hG.2.1 (RX2, 78, yX1_nameAt, "TableSplice") (List.mem_of_getElem? (i := 8) rfl)) (hts (.initialized RX1) (List.mem_of_getElem? (i := 3) rfl)) (by decide +kernel) ⟨Nat.le_of_ble_eq_true rfl, Nat.le_of_ble_eq_true rfl⟩, hts (.instanceMethod yX1_nameAt) (List.mem_of_getElem? (i := 7) rfl), hts (.selects RX1 yX1_nameAt yX1_nameAt) (List.mem_of_getElem? (i := 8) rfl)⟩ (prV hG (hP.sub (ws' := wT cyI (ad 10) (ad 11) (ad 12) zm) [10, 11, 12] rfl) (ci := 1) rfl rfl rfl) rfl rfl hl.1 rfl (lv_room (Nat.le_of_ble_eq_true rfl)) dX2_hasNameOfLowerColumn_44 ⟨Nat.zero_le _, Nat.zero_le _⟩) hS hP (fun H locs hP hS => ?_)
            refine lv_icmp_ne (tgt := 52) hx hb dX2_hasNameOfLowerColumn_47 (by decide) (fun c_47 => ?_) (fun c_47 => ?_)
            · refine lv_iinc (v := nI (ia + 1)) (lv' := [(2, .int (nI (ia + 1))), (0, .ref (ad 0)), (1, .int (nI q1))]) hx hb dX2_hasNameOfLowerColumn_52 hl (k := 0) rfl (nI_1 _) (by decide) rfl (fun ls hl => ?_)
              refine lv_goto (tgt := 15) hx hb dX2_hasNameOfLowerColumn_55 (by decide) ?_
              exact ih_a (ia + 1) (by omega)  (anyN_s ha_a (by rw [decide_eq_false c_47, Bool.and_false]))  _ _ hP hS ls (lv_sub hl [0, 1, 2] rfl)
            · have hh_a : anyN (fun i => decide (¬ f_X1_hasColumn zm (nI i) = 0) && decide (f_X1_nameAt zm (nI i) = f_X1_nameAt zm (nI q1))) q1 = true := anyN_t (by rw [decide_eq_true c_28, decide_eq_true c_47]; rfl) q1 hj_a
              refine lv_iconst (v := 1) hx hb dX2_hasNameOfLowerColumn_50 (by decide) ?_
              have ef : f_X2_hasNameOfLowerColumn zm q1 = 1 := by rw [f_X2_hasNameOfLowerColumn, if_neg c_8, if_pos hh_a]
              exact W.zret (v := 1) (ty := .boolean) hx hb hr rfl (fun t ht hW => ⟨⟨1, (), rfl, ef.symm, trivial⟩, hS.F ht⟩) hS.2.2 dX2_hasNameOfLowerColumn_51
    exact lp_a q1 0 (by omega)  rfl _ _ hP hS ls (lv_sub hl [0, 1, 2] rfl)
  · refine lv_iconst (v := 0) hx hb dX2_hasNameOfLowerColumn_11 (by decide) ?_
    have ef : f_X2_hasNameOfLowerColumn zm q1 = 0 := by rw [f_X2_hasNameOfLowerColumn, if_pos c_8]
    exact W.zret (v := 0) (ty := .boolean) hx hb hr rfl (fun t ht hW => ⟨⟨0, (), rfl, ef.symm, trivial⟩, hS.F ht⟩) hS.2.2 dX2_hasNameOfLowerColumn_12
