theorem in_reqcol {x : Int32} (h : f_X2_requireColumnNumber_x x = 0) : vp_in x 8 := by
  rw [f_X2_requireColumnNumber_x] at h
  by_cases h1 : f_X2_isColumnNumber x = 0
  · rw [if_pos h1] at h; exact absurd h (by decide)
  · exact in_colnum h1
def f_X2_conflicts (zl : Lr) : Int32 := zl.1
theorem uin_X2_conflicts_X2 : ∀ w ∈ wsX20, w ∈ wsX2_conflicts := fun _ h => List.mem_cons_of_mem _ (List.mem_append_left _ (List.mem_append_right _ h))
theorem uin_X2_conflicts_X0 : ∀ w ∈ wsX00, w ∈ wsX2_conflicts := fun _ h => List.mem_cons_of_mem _ (List.mem_append_right _ h)
set_option maxHeartbeats 4000000 in
set_option maxRecDepth 100000 in
theorem k_X2_conflicts (l : Launch) (D : va_G) (cyI cyZ : ClassId) (ad : Nat → Nat) (zb : Tr) (zo : Tr) (zt : Tr) (zm : Tr) (zu : Nat → Int32) (zr : Nat → Int32) (zl : Lr) (zf : Int32) : Met l yX2_conflicts wsX2_conflicts ({ frames := 0, cells := 0, slots := 0, locals := 0 } : Room) (pcP D cyI cyZ [.ref (ad 0)] (wZ cyI cyZ ad zb zo zt zm zu zr zl zf)) (qI (f_X2_conflicts zl)) 0 0 nA := by
  refine Met.ofW (cc := cX2_conflicts) (maxL := 1) (ret := (some .int)) (by decide) rfl ?_
  intro p e s m args below meth c s₁ B hml hv
  obtain ⟨rfl, hP, hG⟩ := hv
  have hx := B.exec
  have hb := B.bytes
  have hr := B.returns
  have hts := atoms_spec (ws := wsX2_conflicts) B.pre
  have hown : s.vm.findClass RX2 = some m.cls := findClass_of_methodNamed B.named
  have hlocks := B.notSynchronized
  have hS : va_S nA s.heap s.heap [] := va_S.rf
  have hl := lv_entry ([.ref (ad 0)]) (n := 1) (Nat.le_of_ble_eq_true rfl)
  rw [lg_entry_eq]
  generalize (lg_sl ([.ref (ad 0)]) ++ List.replicate (1 - (lg_sl ([.ref (ad 0)])).length) Slot.unset).toArray = ls at hl ⊢
  have hl : lv_has ls 1 [(0, .ref (ad 0))] := hl
  have hP : va_P D vwCl (wZ cyI cyZ ad zb zo zt zm zu zr zl zf) s.heap := hP
  refine lv_aload_n hx hb dX2_conflicts_0 rfl (lv_at hl 0 rfl) ?_
  refine va_get (D := D) (ci := 2) (v := .ref (ad 15)) (C := RX2) (T := TX2) (N := 8) hx hb hts uin_X2_conflicts_X2 hown hG.1 hP 0 rfl rfl 6 (by decide) (hts (.fieldLink RX2 36 "TableSplice" "list" "LTableSplice$ConflictList;") (List.mem_of_getElem? (i := 1) rfl)) (fun _ h9 => h9) rfl dX2_conflicts_1 ?_
  refine va_getN (D := D) (ci := 0) (v := .int zl.1) (C := RX0) (T := TX0) (N := 6) hx hb hts uin_X2_conflicts_X0 hown hG.1 hP 15 rfl rfl 0 (by decide) (va_Nw.use rfl (hG.2.2 ("TableSplice", 166, "TableSplice$ConflictList", "size", "I", "TableSplice") (List.mem_of_getElem? (i := 2) rfl))) (fun _ h9 => h9) rfl dX2_conflicts_4 ?_
  have ef : f_X2_conflicts zl = zl.1 := by rw [f_X2_conflicts]
  exact W.iret (v := zl.1) hx hb hr (fun t ht hW => ⟨⟨zl.1, (), rfl, ef.symm, trivial⟩, hS.F ht⟩) hS.2.2 dX2_conflicts_7
def f_X2_open (zl : Lr) : Int32 := zl.2.1
theorem uin_X2_open_X2 : ∀ w ∈ wsX20, w ∈ wsX2_open := fun _ h => List.mem_cons_of_mem _ (List.mem_append_left _ (List.mem_append_right _ h))
theorem uin_X2_open_X0 : ∀ w ∈ wsX00, w ∈ wsX2_open := fun _ h => List.mem_cons_of_mem _ (List.mem_append_right _ h)
set_option maxHeartbeats 4000000 in
set_option maxRecDepth 100000 in
theorem k_X2_open (l : Launch) (D : va_G) (cyI cyZ : ClassId) (ad : Nat → Nat) (zb : Tr) (zo : Tr) (zt : Tr) (zm : Tr) (zu : Nat → Int32) (zr : Nat → Int32) (zl : Lr) (zf : Int32) : Met l yX2_open wsX2_open ({ frames := 0, cells := 0, slots := 0, locals := 0 } : Room) (pcP D cyI cyZ [.ref (ad 0)] (wZ cyI cyZ ad zb zo zt zm zu zr zl zf)) (qI (f_X2_open zl)) 0 0 nA := by
  refine Met.ofW (cc := cX2_open) (maxL := 1) (ret := (some .int)) (by decide) rfl ?_
  intro p e s m args below meth c s₁ B hml hv
  obtain ⟨rfl, hP, hG⟩ := hv
  have hx := B.exec
  have hb := B.bytes
  have hr := B.returns
  have hts := atoms_spec (ws := wsX2_open) B.pre
  have hown : s.vm.findClass RX2 = some m.cls := findClass_of_methodNamed B.named
  have hlocks := B.notSynchronized
  have hS : va_S nA s.heap s.heap [] := va_S.rf
  have hl := lv_entry ([.ref (ad 0)]) (n := 1) (Nat.le_of_ble_eq_true rfl)
  rw [lg_entry_eq]
  generalize (lg_sl ([.ref (ad 0)]) ++ List.replicate (1 - (lg_sl ([.ref (ad 0)])).length) Slot.unset).toArray = ls at hl ⊢
  have hl : lv_has ls 1 [(0, .ref (ad 0))] := hl
  have hP : va_P D vwCl (wZ cyI cyZ ad zb zo zt zm zu zr zl zf) s.heap := hP
  refine lv_aload_n hx hb dX2_open_0 rfl (lv_at hl 0 rfl) ?_
  refine va_get (D := D) (ci := 2) (v := .ref (ad 15)) (C := RX2) (T := TX2) (N := 8) hx hb hts uin_X2_open_X2 hown hG.1 hP 0 rfl rfl 6 (by decide) (hts (.fieldLink RX2 36 "TableSplice" "list" "LTableSplice$ConflictList;") (List.mem_of_getElem? (i := 1) rfl)) (fun _ h9 => h9) rfl dX2_open_1 ?_
  refine va_getN (D := D) (ci := 0) (v := .int zl.2.1) (C := RX0) (T := TX0) (N := 6) hx hb hts uin_X2_open_X0 hown hG.1 hP 15 rfl rfl 1 (by decide) (va_Nw.use rfl (hG.2.2 ("TableSplice", 171, "TableSplice$ConflictList", "openCount", "I", "TableSplice") (List.mem_of_getElem? (i := 3) rfl))) (fun _ h9 => h9) rfl dX2_open_4 ?_
  have ef : f_X2_open zl = zl.2.1 := by rw [f_X2_open]
  exact W.iret (v := zl.2.1) hx hb hr (fun t ht hW => ⟨⟨zl.2.1, (), rfl, ef.symm, trivial⟩, hS.F ht⟩) hS.2.2 dX2_open_7
def f_X2_columns (zb : Tr) (zo : Tr) (zt : Tr) (zm : Tr) (p1 : Int32) : Int32 := if p1 = 0 then zb.1 else (if p1 = 1 then zo.1 else (if p1 = 2 then zt.1 else (if p1 = 3 then zm.1 else (0))))
theorem uin_X2_columns_X1 : ∀ w ∈ wsX10, w ∈ wsX2_columns := fun _ h => List.mem_cons_of_mem _ (List.mem_append_left _ (List.mem_append_left _ (List.mem_append_right _ h)))
theorem uin_X2_columns_X2 : ∀ w ∈ wsX20, w ∈ wsX2_columns := fun _ h => List.mem_cons_of_mem _ (List.mem_append_left _ (List.mem_append_right _ h))
def f_X2_columns_x (p1 : Int32) : Nat := if p1 = 0 then 0 else (if p1 = 1 then 0 else (if p1 = 2 then 0 else (if p1 = 3 then 0 else 1)))
theorem xin_X2_columns_IO : ∀ w ∈ (vx_atS RX2 224 "java/lang/IndexOutOfBoundsException" ["java/lang/RuntimeException", "java/lang/Exception"]).filter goodWord, w ∈ wsX2_columns := fun _ h => List.mem_cons_of_mem _ (List.mem_append_right _ h)
set_option maxHeartbeats 4000000 in
set_option maxRecDepth 100000 in
theorem k_X2_columns (l : Launch) (D : va_G) (cyI cyZ : ClassId) (ad : Nat → Nat) (zb : Tr) (zo : Tr) (zt : Tr) (zm : Tr) (zu : Nat → Int32) (zr : Nat → Int32) (zl : Lr) (zf : Int32) (p1 : Int32) (hx9 : f_X2_columns_x p1 = 0) : Met l yX2_columns wsX2_columns ({ frames := 1, cells := 0, slots := 0, locals := 21 } : Room) (pcP D cyI cyZ [.ref (ad 0), .int p1] (wZ cyI cyZ ad zb zo zt zm zu zr zl zf)) (qI (f_X2_columns zb zo zt zm p1)) 0 0 nA := by
  refine Met.ofW (cc := cX2_columns) (maxL := 2) (ret := (some .int)) (by decide) rfl ?_
  intro p e s m args below meth c s₁ B hml hv
  obtain ⟨rfl, hP, hG⟩ := hv
  have hx := B.exec
  have hb := B.bytes
  have hr := B.returns
  have hts := atoms_spec (ws := wsX2_columns) B.pre
  have hown : s.vm.findClass RX2 = some m.cls := findClass_of_methodNamed B.named
  have hlocks := B.notSynchronized
  have hS : va_S nA s.heap s.heap [] := va_S.rf
  have hl := lv_entry ([.ref (ad 0), .int p1]) (n := 2) (Nat.le_of_ble_eq_true rfl)
  rw [lg_entry_eq]
  generalize (lg_sl ([.ref (ad 0), .int p1]) ++ List.replicate (2 - (lg_sl ([.ref (ad 0), .int p1])).length) Slot.unset).toArray = ls at hl ⊢
  have hl : lv_has ls 2 [(0, .ref (ad 0)), (1, .int p1)] := hl
  have hP : va_P D vwCl (wZ cyI cyZ ad zb zo zt zm zu zr zl zf) s.heap := hP
  refine lv_aload_n hx hb dX2_columns_0 rfl (lv_at hl 0 rfl) ?_
  refine lv_iload_n hx hb dX2_columns_1 rfl (lv_at hl 1 rfl) ?_
  by_cases c_2_0 : p1 = 0
  · refine pr_r (va_runV (As := [.int p1]) (rest := []) ⟨hx, hb, hml, hown, hts⟩ (k_X2_tableToRead_0 l D cyI cyZ ad zb zo zt zm zu zr zl zf p1 c_2_0) (cwV 1 hts gX2_columns_X2_tableToRead rfl rfl rfl (by decide +kernel) ⟨Nat.le_of_ble_eq_true rfl, Nat.le_of_ble_eq_true rfl⟩) (prV hG hP (ci := 2) rfl rfl rfl) rfl rfl hl.1 rfl (lv_room (Nat.le_of_ble_eq_true rfl)) dX2_columns_2 ⟨Nat.zero_le _, Nat.zero_le _⟩) hS hP (fun H locs hP hS => ?_)
    refine va_getN (D := D) (ci := 1) (v := .int zb.1) (C := RX1) (T := TX1) (N := 4) hx hb hts uin_X2_columns_X1 hown hG.1 hP 1 rfl rfl 0 (by decide) (va_Nw.use rfl (hG.2.2 ("TableSplice", 126, "TableSplice$Table", "columnSet", "I", "TableSplice") (List.mem_of_getElem? (i := 0) rfl))) (fun _ h9 => h9) rfl dX2_columns_5 ?_
    have ef : f_X2_columns zb zo zt zm p1 = zb.1 := by rw [f_X2_columns, if_pos c_2_0]
    exact W.iret (v := zb.1) hx hb hr (fun t ht hW => ⟨⟨zb.1, (), rfl, ef.symm, trivial⟩, hS.F ht⟩) hS.2.2 dX2_columns_8
  · by_cases c_2_1 : p1 = 1
    · refine pr_r (va_runV (As := [.int p1]) (rest := []) ⟨hx, hb, hml, hown, hts⟩ (k_X2_tableToRead_1 l D cyI cyZ ad zb zo zt zm zu zr zl zf p1 c_2_1) (cwV 1 hts gX2_columns_X2_tableToRead rfl rfl rfl (by decide +kernel) ⟨Nat.le_of_ble_eq_true rfl, Nat.le_of_ble_eq_true rfl⟩) (prV hG hP (ci := 2) rfl rfl rfl) rfl rfl hl.1 rfl (lv_room (Nat.le_of_ble_eq_true rfl)) dX2_columns_2 ⟨Nat.zero_le _, Nat.zero_le _⟩) hS hP (fun H locs hP hS => ?_)
      refine va_getN (D := D) (ci := 1) (v := .int zo.1) (C := RX1) (T := TX1) (N := 4) hx hb hts uin_X2_columns_X1 hown hG.1 hP 4 rfl rfl 0 (by decide) (va_Nw.use rfl (hG.2.2 ("TableSplice", 126, "TableSplice$Table", "columnSet", "I", "TableSplice") (List.mem_of_getElem? (i := 0) rfl))) (fun _ h9 => h9) rfl dX2_columns_5 ?_
      have ef : f_X2_columns zb zo zt zm p1 = zo.1 := by rw [f_X2_columns, if_neg c_2_0, if_pos c_2_1]
      exact W.iret (v := zo.1) hx hb hr (fun t ht hW => ⟨⟨zo.1, (), rfl, ef.symm, trivial⟩, hS.F ht⟩) hS.2.2 dX2_columns_8
    · by_cases c_2_2 : p1 = 2
      · refine pr_r (va_runV (As := [.int p1]) (rest := []) ⟨hx, hb, hml, hown, hts⟩ (k_X2_tableToRead_2 l D cyI cyZ ad zb zo zt zm zu zr zl zf p1 c_2_2) (cwV 1 hts gX2_columns_X2_tableToRead rfl rfl rfl (by decide +kernel) ⟨Nat.le_of_ble_eq_true rfl, Nat.le_of_ble_eq_true rfl⟩) (prV hG hP (ci := 2) rfl rfl rfl) rfl rfl hl.1 rfl (lv_room (Nat.le_of_ble_eq_true rfl)) dX2_columns_2 ⟨Nat.zero_le _, Nat.zero_le _⟩) hS hP (fun H locs hP hS => ?_)
        refine va_getN (D := D) (ci := 1) (v := .int zt.1) (C := RX1) (T := TX1) (N := 4) hx hb hts uin_X2_columns_X1 hown hG.1 hP 7 rfl rfl 0 (by decide) (va_Nw.use rfl (hG.2.2 ("TableSplice", 126, "TableSplice$Table", "columnSet", "I", "TableSplice") (List.mem_of_getElem? (i := 0) rfl))) (fun _ h9 => h9) rfl dX2_columns_5 ?_
        have ef : f_X2_columns zb zo zt zm p1 = zt.1 := by rw [f_X2_columns, if_neg c_2_0, if_neg c_2_1, if_pos c_2_2]
        exact W.iret (v := zt.1) hx hb hr (fun t ht hW => ⟨⟨zt.1, (), rfl, ef.symm, trivial⟩, hS.F ht⟩) hS.2.2 dX2_columns_8
      · by_cases c_2_3 : p1 = 3
        · refine pr_r (va_runV (As := [.int p1]) (rest := []) ⟨hx, hb, hml, hown, hts⟩ (k_X2_tableToRead_3 l D cyI cyZ ad zb zo zt zm zu zr zl zf p1 c_2_3) (cwV 1 hts gX2_columns_X2_tableToRead rfl rfl rfl (by decide +kernel) ⟨Nat.le_of_ble_eq_true rfl, Nat.le_of_ble_eq_true rfl⟩) (prV hG hP (ci := 2) rfl rfl rfl) rfl rfl hl.1 rfl (lv_room (Nat.le_of_ble_eq_true rfl)) dX2_columns_2 ⟨Nat.zero_le _, Nat.zero_le _⟩) hS hP (fun H locs hP hS => ?_)
          refine va_getN (D := D) (ci := 1) (v := .int zm.1) (C := RX1) (T := TX1) (N := 4) hx hb hts uin_X2_columns_X1 hown hG.1 hP 10 rfl rfl 0 (by decide) (va_Nw.use rfl (hG.2.2 ("TableSplice", 126, "TableSplice$Table", "columnSet", "I", "TableSplice") (List.mem_of_getElem? (i := 0) rfl))) (fun _ h9 => h9) rfl dX2_columns_5 ?_
          have ef : f_X2_columns zb zo zt zm p1 = zm.1 := by rw [f_X2_columns, if_neg c_2_0, if_neg c_2_1, if_neg c_2_2, if_pos c_2_3]
          exact W.iret (v := zm.1) hx hb hr (fun t ht hW => ⟨⟨zm.1, (), rfl, ef.symm, trivial⟩, hS.F ht⟩) hS.2.2 dX2_columns_8
        · exact absurd hx9 (by rw [f_X2_columns_x, if_neg c_2_0, if_neg c_2_1, if_neg c_2_2, if_neg c_2_3]; decide)
set_option maxHeartbeats 4000000 in
set_option maxRecDepth 100000 in
theorem t_X2_columns (l : Launch) (hlt : l.stackTraces = false) (D : va_G) (cyI cyZ : ClassId) (ad : Nat → Nat) (zb : Tr) (zo : Tr) (zt : Tr) (zm : Tr) (zu : Nat → Int32) (zr : Nat → Int32) (zl : Lr) (zf : Int32) (p1 : Int32) (hx9 : ¬ f_X2_columns_x p1 = 0) : vx_Met l yX2_columns wsX2_columns ({ frames := 7, cells := 1, slots := 6, locals := 121 } : Room) (pcT D cyI cyZ [.ref (ad 0), .int p1] (wZ cyI cyZ ad zb zo zt zm zu zr zl zf)) qFi (xX (f_X2_columns_x p1)) 1 6 nA := by
  refine vx_ofW (cc := cX2_columns) (maxL := 2) (ret := (some .int)) (by decide) rfl ?_
  intro p e s m args below meth c s₁ B hml hnt hv
  obtain ⟨rfl, hP, hG, hz⟩ := hv
  have hx := B.exec
  have hb := B.bytes
  have hr := B.returns
  have hts := atoms_spec (ws := wsX2_columns) B.pre
  have hown : s.vm.findClass RX2 = some m.cls := findClass_of_methodNamed B.named
  have hlocks := B.notSynchronized
  have hS : va_S nA s.heap s.heap [] := va_S.rf
  have hl := lv_entry ([.ref (ad 0), .int p1]) (n := 2) (Nat.le_of_ble_eq_true rfl)
  rw [lg_entry_eq]
  generalize (lg_sl ([.ref (ad 0), .int p1]) ++ List.replicate (2 - (lg_sl ([.ref (ad 0), .int p1])).length) Slot.unset).toArray = ls at hl ⊢
  have hl : lv_has ls 2 [(0, .ref (ad 0)), (1, .int p1)] := hl
  have hP : va_P D vwCl (wZ cyI cyZ ad zb zo zt zm zu zr zl zf) s.heap := hP
  refine lv_aload_n hx hb dX2_columns_0 rfl (lv_at hl 0 rfl) ?_
  refine lv_iload_n hx hb dX2_columns_1 rfl (lv_at hl 1 rfl) ?_
  by_cases c_2_0 : p1 = 0
  · refine pr_r (va_runV (As := [.int p1]) (rest := []) ⟨hx, hb, hml, hown, hts⟩ (k_X2_tableToRead_0 l D cyI cyZ ad zb zo zt zm zu zr zl zf p1 c_2_0) (cwV 1 hts gX2_columns_X2_tableToRead rfl rfl rfl (by decide +kernel) ⟨Nat.le_of_ble_eq_true rfl, Nat.le_of_ble_eq_true rfl⟩) (prV hG hP (ci := 2) rfl rfl rfl) rfl rfl hl.1 rfl (lv_room (Nat.le_of_ble_eq_true rfl)) dX2_columns_2 ⟨Nat.zero_le _, Nat.zero_le _⟩) hS hP (fun H locs hP hS => ?_)
    refine va_getN (D := D) (ci := 1) (v := .int zb.1) (C := RX1) (T := TX1) (N := 4) hx hb hts uin_X2_columns_X1 hown hG.1 hP 1 rfl rfl 0 (by decide) (va_Nw.use rfl (hG.2.2 ("TableSplice", 126, "TableSplice$Table", "columnSet", "I", "TableSplice") (List.mem_of_getElem? (i := 0) rfl))) (fun _ h9 => h9) rfl dX2_columns_5 ?_
    exact absurd (by rw [f_X2_columns_x, if_pos c_2_0]) hx9
  · by_cases c_2_1 : p1 = 1
    · refine pr_r (va_runV (As := [.int p1]) (rest := []) ⟨hx, hb, hml, hown, hts⟩ (k_X2_tableToRead_1 l D cyI cyZ ad zb zo zt zm zu zr zl zf p1 c_2_1) (cwV 1 hts gX2_columns_X2_tableToRead rfl rfl rfl (by decide +kernel) ⟨Nat.le_of_ble_eq_true rfl, Nat.le_of_ble_eq_true rfl⟩) (prV hG hP (ci := 2) rfl rfl rfl) rfl rfl hl.1 rfl (lv_room (Nat.le_of_ble_eq_true rfl)) dX2_columns_2 ⟨Nat.zero_le _, Nat.zero_le _⟩) hS hP (fun H locs hP hS => ?_)
      refine va_getN (D := D) (ci := 1) (v := .int zo.1) (C := RX1) (T := TX1) (N := 4) hx hb hts uin_X2_columns_X1 hown hG.1 hP 4 rfl rfl 0 (by decide) (va_Nw.use rfl (hG.2.2 ("TableSplice", 126, "TableSplice$Table", "columnSet", "I", "TableSplice") (List.mem_of_getElem? (i := 0) rfl))) (fun _ h9 => h9) rfl dX2_columns_5 ?_
      exact absurd (by rw [f_X2_columns_x, if_neg c_2_0, if_pos c_2_1]) hx9
    · by_cases c_2_2 : p1 = 2
      · refine pr_r (va_runV (As := [.int p1]) (rest := []) ⟨hx, hb, hml, hown, hts⟩ (k_X2_tableToRead_2 l D cyI cyZ ad zb zo zt zm zu zr zl zf p1 c_2_2) (cwV 1 hts gX2_columns_X2_tableToRead rfl rfl rfl (by decide +kernel) ⟨Nat.le_of_ble_eq_true rfl, Nat.le_of_ble_eq_true rfl⟩) (prV hG hP (ci := 2) rfl rfl rfl) rfl rfl hl.1 rfl (lv_room (Nat.le_of_ble_eq_true rfl)) dX2_columns_2 ⟨Nat.zero_le _, Nat.zero_le _⟩) hS hP (fun H locs hP hS => ?_)
        refine va_getN (D := D) (ci := 1) (v := .int zt.1) (C := RX1) (T := TX1) (N := 4) hx hb hts uin_X2_columns_X1 hown hG.1 hP 7 rfl rfl 0 (by decide) (va_Nw.use rfl (hG.2.2 ("TableSplice", 126, "TableSplice$Table", "columnSet", "I", "TableSplice") (List.mem_of_getElem? (i := 0) rfl))) (fun _ h9 => h9) rfl dX2_columns_5 ?_
        exact absurd (by rw [f_X2_columns_x, if_neg c_2_0, if_neg c_2_1, if_pos c_2_2]) hx9
      · by_cases c_2_3 : p1 = 3
        · refine pr_r (va_runV (As := [.int p1]) (rest := []) ⟨hx, hb, hml, hown, hts⟩ (k_X2_tableToRead_3 l D cyI cyZ ad zb zo zt zm zu zr zl zf p1 c_2_3) (cwV 1 hts gX2_columns_X2_tableToRead rfl rfl rfl (by decide +kernel) ⟨Nat.le_of_ble_eq_true rfl, Nat.le_of_ble_eq_true rfl⟩) (prV hG hP (ci := 2) rfl rfl rfl) rfl rfl hl.1 rfl (lv_room (Nat.le_of_ble_eq_true rfl)) dX2_columns_2 ⟨Nat.zero_le _, Nat.zero_le _⟩) hS hP (fun H locs hP hS => ?_)
          refine va_getN (D := D) (ci := 1) (v := .int zm.1) (C := RX1) (T := TX1) (N := 4) hx hb hts uin_X2_columns_X1 hown hG.1 hP 10 rfl rfl 0 (by decide) (va_Nw.use rfl (hG.2.2 ("TableSplice", 126, "TableSplice$Table", "columnSet", "I", "TableSplice") (List.mem_of_getElem? (i := 0) rfl))) (fun _ h9 => h9) rfl dX2_columns_5 ?_
          exact absurd (by rw [f_X2_columns_x, if_neg c_2_0, if_neg c_2_1, if_neg c_2_2, if_pos c_2_3]) hx9
        · have ef : f_X2_columns_x p1 = f_X2_tableToRead_x p1 := (by rw [f_X2_columns_x, if_neg c_2_0, if_neg c_2_1, if_neg c_2_2, if_neg c_2_3] : f_X2_columns_x p1 = 1).trans (tr_x c_2_0 c_2_1 c_2_2 c_2_3).symm
          exact vx_callr (vx_runV (As := [.int p1]) (rest := []) ⟨hx, hb, hml, hown, hts⟩ (t_X2_tableToRead l hlt D cyI cyZ ad zb zo zt zm zu zr zl zf p1 (by rw [tr_x c_2_0 c_2_1 c_2_2 c_2_3]; decide)) (cwV 1 hts gX2_columns_X2_tableToRead rfl rfl rfl (by decide +kernel) ⟨Nat.le_of_ble_eq_true rfl, Nat.le_of_ble_eq_true rfl⟩) (ptV hG (hz.kept hS) hP (ci := 2) rfl rfl rfl) rfl rfl hl.1 rfl (lv_room (Nat.le_of_ble_eq_true rfl)) dX2_columns_2 ⟨Nat.le_of_ble_eq_true rfl, Nat.le_of_ble_eq_true rfl⟩) hS (fun _ _ h => h.elim) (fun _ h => h.elim) (fun _ _ h => h.elim) (fun E ce q9 u t H1 locs1 ht _ _ hE _ _ hS1 hce hcv hcl => vx_out (fun x h => (hnt x h).elim) hlocks hce hcv hcl (fun t9 h9 _ => ⟨(), trivial, hE.trans (congrArg xn ef.symm), hS1.F h9⟩) hS1.2.2 (Nat.le_refl _) (Nat.le_refl _)) (fun u ra t H1 locs1 ht hvm h hb9 hz1 hk1 hS1 => h.elim)
def f_X2_rows (zb : Tr) (zo : Tr) (zt : Tr) (zm : Tr) (p1 : Int32) : Int32 := if p1 = 0 then zb.2.1 else (if p1 = 1 then zo.2.1 else (if p1 = 2 then zt.2.1 else (if p1 = 3 then zm.2.1 else (0))))
theorem uin_X2_rows_X1 : ∀ w ∈ wsX10, w ∈ wsX2_rows := fun _ h => List.mem_cons_of_mem _ (List.mem_append_left _ (List.mem_append_left _ (List.mem_append_right _ h)))
theorem uin_X2_rows_X2 : ∀ w ∈ wsX20, w ∈ wsX2_rows := fun _ h => List.mem_cons_of_mem _ (List.mem_append_left _ (List.mem_append_right _ h))
def f_X2_rows_x (p1 : Int32) : Nat := if p1 = 0 then 0 else (if p1 = 1 then 0 else (if p1 = 2 then 0 else (if p1 = 3 then 0 else 1)))
theorem xin_X2_rows_IO : ∀ w ∈ (vx_atS RX2 224 "java/lang/IndexOutOfBoundsException" ["java/lang/RuntimeException", "java/lang/Exception"]).filter goodWord, w ∈ wsX2_rows := fun _ h => List.mem_cons_of_mem _ (List.mem_append_right _ h)
set_option maxHeartbeats 4000000 in
set_option maxRecDepth 100000 in
theorem k_X2_rows (l : Launch) (D : va_G) (cyI cyZ : ClassId) (ad : Nat → Nat) (zb : Tr) (zo : Tr) (zt : Tr) (zm : Tr) (zu : Nat → Int32) (zr : Nat → Int32) (zl : Lr) (zf : Int32) (p1 : Int32) (hx9 : f_X2_rows_x p1 = 0) : Met l yX2_rows wsX2_rows ({ frames := 1, cells := 0, slots := 0, locals := 21 } : Room) (pcP D cyI cyZ [.ref (ad 0), .int p1] (wZ cyI cyZ ad zb zo zt zm zu zr zl zf)) (qI (f_X2_rows zb zo zt zm p1)) 0 0 nA := by
  refine Met.ofW (cc := cX2_rows) (maxL := 2) (ret := (some .int)) (by decide) rfl ?_
  intro p e s m args below meth c s₁ B hml hv
  obtain ⟨rfl, hP, hG⟩ := hv
  have hx := B.exec
  have hb := B.bytes
  have hr := B.returns
  have hts := atoms_spec (ws := wsX2_rows) B.pre
  have hown : s.vm.findClass RX2 = some m.cls := findClass_of_methodNamed B.named
  have hlocks := B.notSynchronized
  have hS : va_S nA s.heap s.heap [] := va_S.rf
  have hl := lv_entry ([.ref (ad 0), .int p1]) (n := 2) (Nat.le_of_ble_eq_true rfl)
  rw [lg_entry_eq]
  generalize (lg_sl ([.ref (ad 0), .int p1]) ++ List.replicate (2 - (lg_sl ([.ref (ad 0), .int p1])).length) Slot.unset).toArray = ls at hl ⊢
  have hl : lv_has ls 2 [(0, .ref (ad 0)), (1, .int p1)] := hl
  have hP : va_P D vwCl (wZ cyI cyZ ad zb zo zt zm zu zr zl zf) s.heap := hP
  refine lv_aload_n hx hb dX2_rows_0 rfl (lv_at hl 0 rfl) ?_
  refine lv_iload_n hx hb dX2_rows_1 rfl (lv_at hl 1 rfl) ?_
  by_cases c_2_0 : p1 = 0
  · refine pr_r (va_runV (As := [.int p1]) (rest := []) ⟨hx, hb, hml, hown, hts⟩ (k_X2_tableToRead_0 l D cyI cyZ ad zb zo zt zm zu zr zl zf p1 c_2_0) (cwV 1 hts gX2_rows_X2_tableToRead rfl rfl rfl (by decide +kernel) ⟨Nat.le_of_ble_eq_true rfl, Nat.le_of_ble_eq_true rfl⟩) (prV hG hP (ci := 2) rfl rfl rfl) rfl rfl hl.1 rfl (lv_room (Nat.le_of_ble_eq_true rfl)) dX2_rows_2 ⟨Nat.zero_le _, Nat.zero_le _⟩) hS hP (fun H locs hP hS => ?_)
    refine va_getN (D := D) (ci := 1) (v := .int zb.2.1) (C := RX1) (T := TX1) (N := 4) hx hb hts uin_X2_rows_X1 hown hG.1 hP 1 rfl rfl 1 (by decide) (va_Nw.use rfl (hG.2.2 ("TableSplice", 130, "TableSplice$Table", "rowSet", "I", "TableSplice") (List.mem_of_getElem? (i := 1) rfl))) (fun _ h9 => h9) rfl dX2_rows_5 ?_
    have ef : f_X2_rows zb zo zt zm p1 = zb.2.1 := by rw [f_X2_rows, if_pos c_2_0]
    exact W.iret (v := zb.2.1) hx hb hr (fun t ht hW => ⟨⟨zb.2.1, (), rfl, ef.symm, trivial⟩, hS.F ht⟩) hS.2.2 dX2_rows_8
  · by_cases c_2_1 : p1 = 1
    · refine pr_r (va_runV (As := [.int p1]) (rest := []) ⟨hx, hb, hml, hown, hts⟩ (k_X2_tableToRead_1 l D cyI cyZ ad zb zo zt zm zu zr zl zf p1 c_2_1) (cwV 1 hts gX2_rows_X2_tableToRead rfl rfl rfl (by decide +kernel) ⟨Nat.le_of_ble_eq_true rfl, Nat.le_of_ble_eq_true rfl⟩) (prV hG hP (ci := 2) rfl rfl rfl) rfl rfl hl.1 rfl (lv_room (Nat.le_of_ble_eq_true rfl)) dX2_rows_2 ⟨Nat.zero_le _, Nat.zero_le _⟩) hS hP (fun H locs hP hS => ?_)
      refine va_getN (D := D) (ci := 1) (v := .int zo.2.1) (C := RX1) (T := TX1) (N := 4) hx hb hts uin_X2_rows_X1 hown hG.1 hP 4 rfl rfl 1 (by decide) (va_Nw.use rfl (hG.2.2 ("TableSplice", 130, "TableSplice$Table", "rowSet", "I", "TableSplice") (List.mem_of_getElem? (i := 1) rfl))) (fun _ h9 => h9) rfl dX2_rows_5 ?_
      have ef : f_X2_rows zb zo zt zm p1 = zo.2.1 := by rw [f_X2_rows, if_neg c_2_0, if_pos c_2_1]
      exact W.iret (v := zo.2.1) hx hb hr (fun t ht hW => ⟨⟨zo.2.1, (), rfl, ef.symm, trivial⟩, hS.F ht⟩) hS.2.2 dX2_rows_8
    · by_cases c_2_2 : p1 = 2
      · refine pr_r (va_runV (As := [.int p1]) (rest := []) ⟨hx, hb, hml, hown, hts⟩ (k_X2_tableToRead_2 l D cyI cyZ ad zb zo zt zm zu zr zl zf p1 c_2_2) (cwV 1 hts gX2_rows_X2_tableToRead rfl rfl rfl (by decide +kernel) ⟨Nat.le_of_ble_eq_true rfl, Nat.le_of_ble_eq_true rfl⟩) (prV hG hP (ci := 2) rfl rfl rfl) rfl rfl hl.1 rfl (lv_room (Nat.le_of_ble_eq_true rfl)) dX2_rows_2 ⟨Nat.zero_le _, Nat.zero_le _⟩) hS hP (fun H locs hP hS => ?_)
        refine va_getN (D := D) (ci := 1) (v := .int zt.2.1) (C := RX1) (T := TX1) (N := 4) hx hb hts uin_X2_rows_X1 hown hG.1 hP 7 rfl rfl 1 (by decide) (va_Nw.use rfl (hG.2.2 ("TableSplice", 130, "TableSplice$Table", "rowSet", "I", "TableSplice") (List.mem_of_getElem? (i := 1) rfl))) (fun _ h9 => h9) rfl dX2_rows_5 ?_
        have ef : f_X2_rows zb zo zt zm p1 = zt.2.1 := by rw [f_X2_rows, if_neg c_2_0, if_neg c_2_1, if_pos c_2_2]
        exact W.iret (v := zt.2.1) hx hb hr (fun t ht hW => ⟨⟨zt.2.1, (), rfl, ef.symm, trivial⟩, hS.F ht⟩) hS.2.2 dX2_rows_8
      · by_cases c_2_3 : p1 = 3
        · refine pr_r (va_runV (As := [.int p1]) (rest := []) ⟨hx, hb, hml, hown, hts⟩ (k_X2_tableToRead_3 l D cyI cyZ ad zb zo zt zm zu zr zl zf p1 c_2_3) (cwV 1 hts gX2_rows_X2_tableToRead rfl rfl rfl (by decide +kernel) ⟨Nat.le_of_ble_eq_true rfl, Nat.le_of_ble_eq_true rfl⟩) (prV hG hP (ci := 2) rfl rfl rfl) rfl rfl hl.1 rfl (lv_room (Nat.le_of_ble_eq_true rfl)) dX2_rows_2 ⟨Nat.zero_le _, Nat.zero_le _⟩) hS hP (fun H locs hP hS => ?_)
          refine va_getN (D := D) (ci := 1) (v := .int zm.2.1) (C := RX1) (T := TX1) (N := 4) hx hb hts uin_X2_rows_X1 hown hG.1 hP 10 rfl rfl 1 (by decide) (va_Nw.use rfl (hG.2.2 ("TableSplice", 130, "TableSplice$Table", "rowSet", "I", "TableSplice") (List.mem_of_getElem? (i := 1) rfl))) (fun _ h9 => h9) rfl dX2_rows_5 ?_
          have ef : f_X2_rows zb zo zt zm p1 = zm.2.1 := by rw [f_X2_rows, if_neg c_2_0, if_neg c_2_1, if_neg c_2_2, if_pos c_2_3]
          exact W.iret (v := zm.2.1) hx hb hr (fun t ht hW => ⟨⟨zm.2.1, (), rfl, ef.symm, trivial⟩, hS.F ht⟩) hS.2.2 dX2_rows_8
        · exact absurd hx9 (by rw [f_X2_rows_x, if_neg c_2_0, if_neg c_2_1, if_neg c_2_2, if_neg c_2_3]; decide)
set_option maxHeartbeats 4000000 in
set_option maxRecDepth 100000 in
theorem t_X2_rows (l : Launch) (hlt : l.stackTraces = false) (D : va_G) (cyI cyZ : ClassId) (ad : Nat → Nat) (zb : Tr) (zo : Tr) (zt : Tr) (zm : Tr) (zu : Nat → Int32) (zr : Nat → Int32) (zl : Lr) (zf : Int32) (p1 : Int32) (hx9 : ¬ f_X2_rows_x p1 = 0) : vx_Met l yX2_rows wsX2_rows ({ frames := 7, cells := 1, slots := 6, locals := 121 } : Room) (pcT D cyI cyZ [.ref (ad 0), .int p1] (wZ cyI cyZ ad zb zo zt zm zu zr zl zf)) qFi (xX (f_X2_rows_x p1)) 1 6 nA := by
  refine vx_ofW (cc := cX2_rows) (maxL := 2) (ret := (some .int)) (by decide) rfl ?_
  intro p e s m args below meth c s₁ B hml hnt hv
  obtain ⟨rfl, hP, hG, hz⟩ := hv
  have hx := B.exec
  have hb := B.bytes
  have hr := B.returns
  have hts := atoms_spec (ws := wsX2_rows) B.pre
  have hown : s.vm.findClass RX2 = some m.cls := findClass_of_methodNamed B.named
  have hlocks := B.notSynchronized
  have hS : va_S nA s.heap s.heap [] := va_S.rf
  have hl := lv_entry ([.ref (ad 0), .int p1]) (n := 2) (Nat.le_of_ble_eq_true rfl)
  rw [lg_entry_eq]
  generalize (lg_sl ([.ref (ad 0), .int p1]) ++ List.replicate (2 - (lg_sl ([.ref (ad 0), .int p1])).length) Slot.unset).toArray = ls at hl ⊢
  have hl : lv_has ls 2 [(0, .ref (ad 0)), (1, .int p1)] := hl
  have hP : va_P D vwCl (wZ cyI cyZ ad zb zo zt zm zu zr zl zf) s.heap := hP
  refine lv_aload_n hx hb dX2_rows_0 rfl (lv_at hl 0 rfl) ?_
  refine lv_iload_n hx hb dX2_rows_1 rfl (lv_at hl 1 rfl) ?_
  by_cases c_2_0 : p1 = 0
  · refine pr_r (va_runV (As := [.int p1]) (rest := []) ⟨hx, hb, hml, hown, hts⟩ (k_X2_tableToRead_0 l D cyI cyZ ad zb zo zt zm zu zr zl zf p1 c_2_0) (cwV 1 hts gX2_rows_X2_tableToRead rfl rfl rfl (by decide +kernel) ⟨Nat.le_of_ble_eq_true rfl, Nat.le_of_ble_eq_true rfl⟩) (prV hG hP (ci := 2) rfl rfl rfl) rfl rfl hl.1 rfl (lv_room (Nat.le_of_ble_eq_true rfl)) dX2_rows_2 ⟨Nat.zero_le _, Nat.zero_le _⟩) hS hP (fun H locs hP hS => ?_)
    refine va_getN (D := D) (ci := 1) (v := .int zb.2.1) (C := RX1) (T := TX1) (N := 4) hx hb hts uin_X2_rows_X1 hown hG.1 hP 1 rfl rfl 1 (by decide) (va_Nw.use rfl (hG.2.2 ("TableSplice", 130, "TableSplice$Table", "rowSet", "I", "TableSplice") (List.mem_of_getElem? (i := 1) rfl))) (fun _ h9 => h9) rfl dX2_rows_5 ?_
    exact absurd (by rw [f_X2_rows_x, if_pos c_2_0]) hx9
  · by_cases c_2_1 : p1 = 1
    · refine pr_r (va_runV (As := [.int p1]) (rest := []) ⟨hx, hb, hml, hown, hts⟩ (k_X2_tableToRead_1 l D cyI cyZ ad zb zo zt zm zu zr zl zf p1 c_2_1) (cwV 1 hts gX2_rows_X2_tableToRead rfl rfl rfl (by decide +kernel) ⟨Nat.le_of_ble_eq_true rfl, Nat.le_of_ble_eq_true rfl⟩) (prV hG hP (ci := 2) rfl rfl rfl) rfl rfl hl.1 rfl (lv_room (Nat.le_of_ble_eq_true rfl)) dX2_rows_2 ⟨Nat.zero_le _, Nat.zero_le _⟩) hS hP (fun H locs hP hS => ?_)
      refine va_getN (D := D) (ci := 1) (v := .int zo.2.1) (C := RX1) (T := TX1) (N := 4) hx hb hts uin_X2_rows_X1 hown hG.1 hP 4 rfl rfl 1 (by decide) (va_Nw.use rfl (hG.2.2 ("TableSplice", 130, "TableSplice$Table", "rowSet", "I", "TableSplice") (List.mem_of_getElem? (i := 1) rfl))) (fun _ h9 => h9) rfl dX2_rows_5 ?_
      exact absurd (by rw [f_X2_rows_x, if_neg c_2_0, if_pos c_2_1]) hx9
    · by_cases c_2_2 : p1 = 2
      · refine pr_r (va_runV (As := [.int p1]) (rest := []) ⟨hx, hb, hml, hown, hts⟩ (k_X2_tableToRead_2 l D cyI cyZ ad zb zo zt zm zu zr zl zf p1 c_2_2) (cwV 1 hts gX2_rows_X2_tableToRead rfl rfl rfl (by decide +kernel) ⟨Nat.le_of_ble_eq_true rfl, Nat.le_of_ble_eq_true rfl⟩) (prV hG hP (ci := 2) rfl rfl rfl) rfl rfl hl.1 rfl (lv_room (Nat.le_of_ble_eq_true rfl)) dX2_rows_2 ⟨Nat.zero_le _, Nat.zero_le _⟩) hS hP (fun H locs hP hS => ?_)
        refine va_getN (D := D) (ci := 1) (v := .int zt.2.1) (C := RX1) (T := TX1) (N := 4) hx hb hts uin_X2_rows_X1 hown hG.1 hP 7 rfl rfl 1 (by decide) (va_Nw.use rfl (hG.2.2 ("TableSplice", 130, "TableSplice$Table", "rowSet", "I", "TableSplice") (List.mem_of_getElem? (i := 1) rfl))) (fun _ h9 => h9) rfl dX2_rows_5 ?_
        exact absurd (by rw [f_X2_rows_x, if_neg c_2_0, if_neg c_2_1, if_pos c_2_2]) hx9
      · by_cases c_2_3 : p1 = 3
        · refine pr_r (va_runV (As := [.int p1]) (rest := []) ⟨hx, hb, hml, hown, hts⟩ (k_X2_tableToRead_3 l D cyI cyZ ad zb zo zt zm zu zr zl zf p1 c_2_3) (cwV 1 hts gX2_rows_X2_tableToRead rfl rfl rfl (by decide +kernel) ⟨Nat.le_of_ble_eq_true rfl, Nat.le_of_ble_eq_true rfl⟩) (prV hG hP (ci := 2) rfl rfl rfl) rfl rfl hl.1 rfl (lv_room (Nat.le_of_ble_eq_true rfl)) dX2_rows_2 ⟨Nat.zero_le _, Nat.zero_le _⟩) hS hP (fun H locs hP hS => ?_)
          refine va_getN (D := D) (ci := 1) (v := .int zm.2.1) (C := RX1) (T := TX1) (N := 4) hx hb hts uin_X2_rows_X1 hown hG.1 hP 10 rfl rfl 1 (by decide) (va_Nw.use rfl (hG.2.2 ("TableSplice", 130, "TableSplice$Table", "rowSet", "I", "TableSplice") (List.mem_of_getElem? (i := 1) rfl))) (fun _ h9 => h9) rfl dX2_rows_5 ?_
          exact absurd (by rw [f_X2_rows_x, if_neg c_2_0, if_neg c_2_1, if_neg c_2_2, if_pos c_2_3]) hx9
        · have ef : f_X2_rows_x p1 = f_X2_tableToRead_x p1 := (by rw [f_X2_rows_x, if_neg c_2_0, if_neg c_2_1, if_neg c_2_2, if_neg c_2_3] : f_X2_rows_x p1 = 1).trans (tr_x c_2_0 c_2_1 c_2_2 c_2_3).symm
          exact vx_callr (vx_runV (As := [.int p1]) (rest := []) ⟨hx, hb, hml, hown, hts⟩ (t_X2_tableToRead l hlt D cyI cyZ ad zb zo zt zm zu zr zl zf p1 (by rw [tr_x c_2_0 c_2_1 c_2_2 c_2_3]; decide)) (cwV 1 hts gX2_rows_X2_tableToRead rfl rfl rfl (by decide +kernel) ⟨Nat.le_of_ble_eq_true rfl, Nat.le_of_ble_eq_true rfl⟩) (ptV hG (hz.kept hS) hP (ci := 2) rfl rfl rfl) rfl rfl hl.1 rfl (lv_room (Nat.le_of_ble_eq_true rfl)) dX2_rows_2 ⟨Nat.le_of_ble_eq_true rfl, Nat.le_of_ble_eq_true rfl⟩) hS (fun _ _ h => h.elim) (fun _ h => h.elim) (fun _ _ h => h.elim) (fun E ce q9 u t H1 locs1 ht _ _ hE _ _ hS1 hce hcv hcl => vx_out (fun x h => (hnt x h).elim) hlocks hce hcv hcl (fun t9 h9 _ => ⟨(), trivial, hE.trans (congrArg xn ef.symm), hS1.F h9⟩) hS1.2.2 (Nat.le_refl _) (Nat.le_refl _)) (fun u ra t H1 locs1 ht hvm h hb9 hz1 hk1 hS1 => h.elim)
def f_X2_name (zb : Tr) (zo : Tr) (zt : Tr) (zm : Tr) (p1 : Int32) (p2 : Int32) : Int32 := if p1 = 0 then (if (f_X2_requireColumnOf_x zb p2) = 0 then f_X1_nameAt zb p2 else (0)) else (if p1 = 1 then (if (f_X2_requireColumnOf_x zo p2) = 0 then f_X1_nameAt zo p2 else (0)) else (if p1 = 2 then (if (f_X2_requireColumnOf_x zt p2) = 0 then f_X1_nameAt zt p2 else (0)) else (if p1 = 3 then (if (f_X2_requireColumnOf_x zm p2) = 0 then f_X1_nameAt zm p2 else (0)) else (0))))
theorem uin_X2_name_X2 : ∀ w ∈ wsX20, w ∈ wsX2_name := fun _ h => List.mem_cons_of_mem _ (List.mem_append_left _ (List.mem_append_left _ (List.mem_append_right _ h)))
theorem uin_X2_name_X1 : ∀ w ∈ wsX10, w ∈ wsX2_name := fun _ h => List.mem_cons_of_mem _ (List.mem_append_left _ (List.mem_append_right _ h))
def f_X2_name_x (zb : Tr) (zo : Tr) (zt : Tr) (zm : Tr) (p1 : Int32) (p2 : Int32) : Nat := if p1 = 0 then (if (f_X2_requireColumnOf_x zb p2) = 0 then 0 else (f_X2_requireColumnOf_x zb p2)) else (if p1 = 1 then (if (f_X2_requireColumnOf_x zo p2) = 0 then 0 else (f_X2_requireColumnOf_x zo p2)) else (if p1 = 2 then (if (f_X2_requireColumnOf_x zt p2) = 0 then 0 else (f_X2_requireColumnOf_x zt p2)) else (if p1 = 3 then (if (f_X2_requireColumnOf_x zm p2) = 0 then 0 else (f_X2_requireColumnOf_x zm p2)) else 1)))
theorem xin_X2_name_IO : ∀ w ∈ (vx_atS RX2 224 "java/lang/IndexOutOfBoundsException" ["java/lang/RuntimeException", "java/lang/Exception"]).filter goodWord, w ∈ wsX2_name := fun _ h => List.mem_cons_of_mem _ (List.mem_append_right _ h)
set_option maxHeartbeats 4000000 in
set_option maxRecDepth 100000 in
theorem k_X2_name (l : Launch) (D : va_G) (cyI cyZ : ClassId) (ad : Nat → Nat) (zb : Tr) (zo : Tr) (zt : Tr) (zm : Tr) (zu : Nat → Int32) (zr : Nat → Int32) (zl : Lr) (zf : Int32) (p1 : Int32) (p2 : Int32) (hx9 : f_X2_name_x zb zo zt zm p1 p2 = 0) : Met l yX2_name wsX2_name ({ frames := 2, cells := 0, slots := 0, locals := 42 } : Room) (pcP D cyI cyZ [.ref (ad 0), .int p1, .int p2] (wZ cyI cyZ ad zb zo zt zm zu zr zl zf)) (qI (f_X2_name zb zo zt zm p1 p2)) 0 0 nA := by
  refine Met.ofW (cc := cX2_name) (maxL := 4) (ret := (some .int)) (by decide) rfl ?_
  intro p e s m args below meth c s₁ B hml hv
  obtain ⟨rfl, hP, hG⟩ := hv
  have hx := B.exec
  have hb := B.bytes
  have hr := B.returns
  have hts := atoms_spec (ws := wsX2_name) B.pre
  have hown : s.vm.findClass RX2 = some m.cls := findClass_of_methodNamed B.named
  have hlocks := B.notSynchronized
  have hS : va_S nA s.heap s.heap [] := va_S.rf
  have hl := lv_entry ([.ref (ad 0), .int p1, .int p2]) (n := 4) (Nat.le_of_ble_eq_true rfl)
  rw [lg_entry_eq]
  generalize (lg_sl ([.ref (ad 0), .int p1, .int p2]) ++ List.replicate (4 - (lg_sl ([.ref (ad 0), .int p1, .int p2])).length) Slot.unset).toArray = ls at hl ⊢
  have hl : lv_has ls 4 [(0, .ref (ad 0)), (1, .int p1), (2, .int p2)] := hl
  have hP : va_P D vwCl (wZ cyI cyZ ad zb zo zt zm zu zr zl zf) s.heap := hP
  refine lv_aload_n hx hb dX2_name_0 rfl (lv_at hl 0 rfl) ?_
  refine lv_iload_n hx hb dX2_name_1 rfl (lv_at hl 1 rfl) ?_
  by_cases c_2_0 : p1 = 0
  · refine pr_r (va_runV (As := [.int p1]) (rest := []) ⟨hx, hb, hml, hown, hts⟩ (k_X2_tableToRead_0 l D cyI cyZ ad zb zo zt zm zu zr zl zf p1 c_2_0) (cwV 1 hts gX2_name_X2_tableToRead rfl rfl rfl (by decide +kernel) ⟨Nat.le_of_ble_eq_true rfl, Nat.le_of_ble_eq_true rfl⟩) (prV hG hP (ci := 2) rfl rfl rfl) rfl rfl hl.1 rfl (lv_room (Nat.le_of_ble_eq_true rfl)) dX2_name_2 ⟨Nat.zero_le _, Nat.zero_le _⟩) hS hP (fun H locs hP hS => ?_)
    refine lv_astore_n (lv' := [(3, .ref (ad 1)), (0, .ref (ad 0)), (1, .int p1), (2, .int p2)]) hx hb dX2_name_5 rfl hl (by decide) rfl (fun ls hl => ?_)
    refine lv_aload_n hx hb dX2_name_6 rfl (lv_at hl 0 rfl) ?_
    refine lv_iload_n hx hb dX2_name_7 rfl (lv_at hl 3 rfl) ?_
    by_cases c_8 : (f_X2_requireColumnOf_x zb p2) = 0
    · refine pr_v (va_runS (As := [.ref (ad 1), .int p2]) (rest := []) ⟨hx, hb, hml, hown, hts⟩ (k_X2_requireColumnOf l D cyI cyZ (ad 1) (ad 2) (ad 3) zb p2 c_8) (va_cwS 2 hts gX2_name_X2_requireColumnOf rfl rfl rfl (by decide +kernel) ⟨Nat.le_of_ble_eq_true rfl, Nat.le_of_ble_eq_true rfl⟩) (prS hG (hP.sub (ws' := wT cyI (ad 1) (ad 2) (ad 3) zb) [1, 2, 3] rfl)) rfl rfl hl.1 rfl (lv_room (Nat.le_of_ble_eq_true rfl)) dX2_name_8 ⟨Nat.zero_le _, Nat.zero_le _⟩) hS hP (fun H locs hP hS => ?_)
      refine lv_aload_n hx hb dX2_name_11 rfl (lv_at hl 0 rfl) ?_
      refine lv_iload_n hx hb dX2_name_12 rfl (lv_at hl 3 rfl) ?_
      refine pr_i (va_runVN (As := [.int p2]) (rest := []) ⟨hx, hb, hml, hown, hts⟩ (k_X1_nameAt l D cyI cyZ (ad 1) (ad 2) (ad 3) zb p2) ⟨va_cnB 1 hts gX2_name_X1_nameAt_n78 rfl rfl rfl (hG.2.1 (RX2, 78, yX1_nameAt, "TableSplice") (List.mem_of_getElem? (i := 8) rfl)) (hts (.initialized RX1) (List.mem_of_getElem? (i := 16) rfl)) (by decide +kernel) ⟨Nat.le_of_ble_eq_true rfl, Nat.le_of_ble_eq_true rfl⟩, hts (.instanceMethod yX1_nameAt) (List.mem_of_getElem? (i := 20) rfl), hts (.selects RX1 yX1_nameAt yX1_nameAt) (List.mem_of_getElem? (i := 21) rfl)⟩ (prV hG (hP.sub (ws' := wT cyI (ad 1) (ad 2) (ad 3) zb) [1, 2, 3] rfl) (ci := 1) rfl rfl rfl) rfl rfl hl.1 rfl (lv_room (Nat.le_of_ble_eq_true rfl)) dX2_name_13 ⟨Nat.zero_le _, Nat.zero_le _⟩) hS hP (fun H locs hP hS => ?_)
      have ef : f_X2_name zb zo zt zm p1 p2 = f_X1_nameAt zb p2 := by rw [f_X2_name, if_pos c_2_0, if_pos c_8]
      exact W.iret (v := f_X1_nameAt zb p2) hx hb hr (fun t ht hW => ⟨⟨f_X1_nameAt zb p2, (), rfl, ef.symm, trivial⟩, hS.F ht⟩) hS.2.2 dX2_name_16
    · exact absurd hx9 (by rw [f_X2_name_x, if_pos c_2_0, if_neg c_8]; exact c_8)
  · by_cases c_2_1 : p1 = 1
    · refine pr_r (va_runV (As := [.int p1]) (rest := []) ⟨hx, hb, hml, hown, hts⟩ (k_X2_tableToRead_1 l D cyI cyZ ad zb zo zt zm zu zr zl zf p1 c_2_1) (cwV 1 hts gX2_name_X2_tableToRead rfl rfl rfl (by decide +kernel) ⟨Nat.le_of_ble_eq_true rfl, Nat.le_of_ble_eq_true rfl⟩) (prV hG hP (ci := 2) rfl rfl rfl) rfl rfl hl.1 rfl (lv_room (Nat.le_of_ble_eq_true rfl)) dX2_name_2 ⟨Nat.zero_le _, Nat.zero_le _⟩) hS hP (fun H locs hP hS => ?_)
      refine lv_astore_n (lv' := [(3, .ref (ad 4)), (0, .ref (ad 0)), (1, .int p1), (2, .int p2)]) hx hb dX2_name_5 rfl hl (by decide) rfl (fun ls hl => ?_)
      refine lv_aload_n hx hb dX2_name_6 rfl (lv_at hl 0 rfl) ?_
      refine lv_iload_n hx hb dX2_name_7 rfl (lv_at hl 3 rfl) ?_
      by_cases c_8 : (f_X2_requireColumnOf_x zo p2) = 0
      · refine pr_v (va_runS (As := [.ref (ad 4), .int p2]) (rest := []) ⟨hx, hb, hml, hown, hts⟩ (k_X2_requireColumnOf l D cyI cyZ (ad 4) (ad 5) (ad 6) zo p2 c_8) (va_cwS 2 hts gX2_name_X2_requireColumnOf rfl rfl rfl (by decide +kernel) ⟨Nat.le_of_ble_eq_true rfl, Nat.le_of_ble_eq_true rfl⟩) (prS hG (hP.sub (ws' := wT cyI (ad 4) (ad 5) (ad 6) zo) [4, 5, 6] rfl)) rfl rfl hl.1 rfl (lv_room (Nat.le_of_ble_eq_true rfl)) dX2_name_8 ⟨Nat.zero_le _, Nat.zero_le _⟩) hS hP (fun H locs hP hS => ?_)
        refine lv_aload_n hx hb dX2_name_11 rfl (lv_at hl 0 rfl) ?_
        refine lv_iload_n hx hb dX2_name_12 rfl (lv_at hl 3 rfl) ?_
        refine pr_i (va_runVN (As := [.int p2]) (rest := []) ⟨hx, hb, hml, hown, hts⟩ (k_X1_nameAt l D cyI cyZ (ad 4) (ad 5) (ad 6) zo p2) ⟨va_cnB 1 hts gX2_name_X1_nameAt_n78 rfl rfl rfl (hG.2.1 (RX2, 78, yX1_nameAt, "TableSplice") (List.mem_of_getElem? (i := 8) rfl)) (hts (.initialized RX1) (List.mem_of_getElem? (i := 16) rfl)) (by decide +kernel) ⟨Nat.le_of_ble_eq_true rfl, Nat.le_of_ble_eq_true rfl⟩, hts (.instanceMethod yX1_nameAt) (List.mem_of_getElem? (i := 20) rfl), hts (.selects RX1 yX1_nameAt yX1_nameAt) (List.mem_of_getElem? (i := 21) rfl)⟩ (prV hG (hP.sub (ws' := wT cyI (ad 4) (ad 5) (ad 6) zo) [4, 5, 6] rfl) (ci := 1) rfl rfl rfl) rfl rfl hl.1 rfl (lv_room (Nat.le_of_ble_eq_true rfl)) dX2_name_13 ⟨Nat.zero_le _, Nat.zero_le _⟩) hS hP (fun H locs hP hS => ?_)
        have ef : f_X2_name zb zo zt zm p1 p2 = f_X1_nameAt zo p2 := by rw [f_X2_name, if_neg c_2_0, if_pos c_2_1, if_pos c_8]
        exact W.iret (v := f_X1_nameAt zo p2) hx hb hr (fun t ht hW => ⟨⟨f_X1_nameAt zo p2, (), rfl, ef.symm, trivial⟩, hS.F ht⟩) hS.2.2 dX2_name_16
      · exact absurd hx9 (by rw [f_X2_name_x, if_neg c_2_0, if_pos c_2_1, if_neg c_8]; exact c_8)
    · by_cases c_2_2 : p1 = 2
      · refine pr_r (va_runV (As := [.int p1]) (rest := []) ⟨hx, hb, hml, hown, hts⟩ (k_X2_tableToRead_2 l D cyI cyZ ad zb zo zt zm zu zr zl zf p1 c_2_2) (cwV 1 hts gX2_name_X2_tableToRead rfl rfl rfl (by decide +kernel) ⟨Nat.le_of_ble_eq_true rfl, Nat.le_of_ble_eq_true rfl⟩) (prV hG hP (ci := 2) rfl rfl rfl) rfl rfl hl.1 rfl (lv_room (Nat.le_of_ble_eq_true rfl)) dX2_name_2 ⟨Nat.zero_le _, Nat.zero_le _⟩) hS hP (fun H locs hP hS => ?_)
        refine lv_astore_n (lv' := [(3, .ref (ad 7)), (0, .ref (ad 0)), (1, .int p1), (2, .int p2)]) hx hb dX2_name_5 rfl hl (by decide) rfl (fun ls hl => ?_)
        refine lv_aload_n hx hb dX2_name_6 rfl (lv_at hl 0 rfl) ?_
        refine lv_iload_n hx hb dX2_name_7 rfl (lv_at hl 3 rfl) ?_
        by_cases c_8 : (f_X2_requireColumnOf_x zt p2) = 0
        · refine pr_v (va_runS (As := [.ref (ad 7), .int p2]) (rest := []) ⟨hx, hb, hml, hown, hts⟩ (k_X2_requireColumnOf l D cyI cyZ (ad 7) (ad 8) (ad 9) zt p2 c_8) (va_cwS 2 hts gX2_name_X2_requireColumnOf rfl rfl rfl (by decide +kernel) ⟨Nat.le_of_ble_eq_true rfl, Nat.le_of_ble_eq_true rfl⟩) (prS hG (hP.sub (ws' := wT cyI (ad 7) (ad 8) (ad 9) zt) [7, 8, 9] rfl)) rfl rfl hl.1 rfl (lv_room (Nat.le_of_ble_eq_true rfl)) dX2_name_8 ⟨Nat.zero_le _, Nat.zero_le _⟩) hS hP (fun H locs hP hS => ?_)
          refine lv_aload_n hx hb dX2_name_11 rfl (lv_at hl 0 rfl) ?_
          refine lv_iload_n hx hb dX2_name_12 rfl (lv_at hl 3 rfl) ?_
          refine pr_i (va_runVN (As := [.int p2]) (rest := []) ⟨hx, hb, hml, hown, hts⟩ (k_X1_nameAt l D cyI cyZ (ad 7) (ad 8) (ad 9) zt p2) ⟨va_cnB 1 hts gX2_name_X1_nameAt_n78 rfl rfl rfl (hG.2.1 (RX2, 78, yX1_nameAt, "TableSplice") (List.mem_of_getElem? (i := 8) rfl)) (hts (.initialized RX1) (List.mem_of_getElem? (i := 16) rfl)) (by decide +kernel) ⟨Nat.le_of_ble_eq_true rfl, Nat.le_of_ble_eq_true rfl⟩, hts (.instanceMethod yX1_nameAt) (List.mem_of_getElem? (i := 20) rfl), hts (.selects RX1 yX1_nameAt yX1_nameAt) (List.mem_of_getElem? (i := 21) rfl)⟩ (prV hG (hP.sub (ws' := wT cyI (ad 7) (ad 8) (ad 9) zt) [7, 8, 9] rfl) (ci := 1) rfl rfl rfl) rfl rfl hl.1 rfl (lv_room (Nat.le_of_ble_eq_true rfl)) dX2_name_13 ⟨Nat.zero_le _, Nat.zero_le _⟩) hS hP (fun H locs hP hS => ?_)
          have ef : f_X2_name zb zo zt zm p1 p2 = f_X1_nameAt zt p2 := by rw [f_X2_name, if_neg c_2_0, if_neg c_2_1, if_pos c_2_2, if_pos c_8]
          exact W.iret (v := f_X1_nameAt zt p2) hx hb hr (fun t ht hW => ⟨⟨f_X1_nameAt zt p2, (), rfl, ef.symm, trivial⟩, hS.F ht⟩) hS.2.2 dX2_name_16
        · exact absurd hx9 (by rw [f_X2_name_x, if_neg c_2_0, if_neg c_2_1, if_pos c_2_2, if_neg c_8]; exact c_8)
      · by_cases c_2_3 : p1 = 3
        · refine pr_r (va_runV (As := [.int p1]) (rest := []) ⟨hx, hb, hml, hown, hts⟩ (k_X2_tableToRead_3 l D cyI cyZ ad zb zo zt zm zu zr zl zf p1 c_2_3) (cwV 1 hts gX2_name_X2_tableToRead rfl rfl rfl (by decide +kernel) ⟨Nat.le_of_ble_eq_true rfl, Nat.le_of_ble_eq_true rfl⟩) (prV hG hP (ci := 2) rfl rfl rfl) rfl rfl hl.1 rfl (lv_room (Nat.le_of_ble_eq_true rfl)) dX2_name_2 ⟨Nat.zero_le _, Nat.zero_le _⟩) hS hP (fun H locs hP hS => ?_)
          refine lv_astore_n (lv' := [(3, .ref (ad 10)), (0, .ref (ad 0)), (1, .int p1), (2, .int p2)]) hx hb dX2_name_5 rfl hl (by decide) rfl (fun ls hl => ?_)
          refine lv_aload_n hx hb dX2_name_6 rfl (lv_at hl 0 rfl) ?_
          refine lv_iload_n hx hb dX2_name_7 rfl (lv_at hl 3 rfl) ?_
          by_cases c_8 : (f_X2_requireColumnOf_x zm p2) = 0
          · refine pr_v (va_runS (As := [.ref (ad 10), .int p2]) (rest := []) ⟨hx, hb, hml, hown, hts⟩ (k_X2_requireColumnOf l D cyI cyZ (ad 10) (ad 11) (ad 12) zm p2 c_8) (va_cwS 2 hts gX2_name_X2_requireColumnOf rfl rfl rfl (by decide +kernel) ⟨Nat.le_of_ble_eq_true rfl, Nat.le_of_ble_eq_true rfl⟩) (prS hG (hP.sub (ws' := wT cyI (ad 10) (ad 11) (ad 12) zm) [10, 11, 12] rfl)) rfl rfl hl.1 rfl (lv_room (Nat.le_of_ble_eq_true rfl)) dX2_name_8 ⟨Nat.zero_le _, Nat.zero_le _⟩) hS hP (fun H locs hP hS => ?_)
            refine lv_aload_n hx hb dX2_name_11 rfl (lv_at hl 0 rfl) ?_
            refine lv_iload_n hx hb dX2_name_12 rfl (lv_at hl 3 rfl) ?_
            refine pr_i (va_runVN (As := [.int p2]) (rest := []) ⟨hx, hb, hml, hown, hts⟩ (k_X1_nameAt l D cyI cyZ (ad 10) (ad 11) (ad 12) zm p2) ⟨va_cnB 1 hts gX2_name_X1_nameAt_n78 rfl rfl rfl (hG.2.1 (RX2, 78, yX1_nameAt, "TableSplice") (List.mem_of_getElem? (i := 8) rfl)) (hts (.initialized RX1) (List.mem_of_getElem? (i := 16) rfl)) (by decide +kernel) ⟨Nat.le_of_ble_eq_true rfl, Nat.le_of_ble_eq_true rfl⟩, hts (.instanceMethod yX1_nameAt) (List.mem_of_getElem? (i := 20) rfl), hts (.selects RX1 yX1_nameAt yX1_nameAt) (List.mem_of_getElem? (i := 21) rfl)⟩ (prV hG (hP.sub (ws' := wT cyI (ad 10) (ad 11) (ad 12) zm) [10, 11, 12] rfl) (ci := 1) rfl rfl rfl) rfl rfl hl.1 rfl (lv_room (Nat.le_of_ble_eq_true rfl)) dX2_name_13 ⟨Nat.zero_le _, Nat.zero_le _⟩) hS hP (fun H locs hP hS => ?_)
            have ef : f_X2_name zb zo zt zm p1 p2 = f_X1_nameAt zm p2 := by rw [f_X2_name, if_neg c_2_0, if_neg c_2_1, if_neg c_2_2, if_pos c_2_3, if_pos c_8]
            exact W.iret (v := f_X1_nameAt zm p2) hx hb hr (fun t ht hW => ⟨⟨f_X1_nameAt zm p2, (), rfl, ef.symm, trivial⟩, hS.F ht⟩) hS.2.2 dX2_name_16
          · exact absurd hx9 (by rw [f_X2_name_x, if_neg c_2_0, if_neg c_2_1, if_neg c_2_2, if_pos c_2_3, if_neg c_8]; exact c_8)
        · exact absurd hx9 (by rw [f_X2_name_x, if_neg c_2_0, if_neg c_2_1, if_neg c_2_2, if_neg c_2_3]; decide)
set_option maxHeartbeats 4000000 in
set_option maxRecDepth 100000 in
theorem t_X2_name (l : Launch) (hlt : l.stackTraces = false) (D : va_G) (cyI cyZ : ClassId) (ad : Nat → Nat) (zb : Tr) (zo : Tr) (zt : Tr) (zm : Tr) (zu : Nat → Int32) (zr : Nat → Int32) (zl : Lr) (zf : Int32) (p1 : Int32) (p2 : Int32) (hx9 : ¬ f_X2_name_x zb zo zt zm p1 p2 = 0) : vx_Met l yX2_name wsX2_name ({ frames := 7, cells := 1, slots := 6, locals := 121 } : Room) (pcT D cyI cyZ [.ref (ad 0), .int p1, .int p2] (wZ cyI cyZ ad zb zo zt zm zu zr zl zf)) qFi (xX (f_X2_name_x zb zo zt zm p1 p2)) 1 6 nA := by
  refine vx_ofW (cc := cX2_name) (maxL := 4) (ret := (some .int)) (by decide) rfl ?_
  intro p e s m args below meth c s₁ B hml hnt hv
  obtain ⟨rfl, hP, hG, hz⟩ := hv
  have hx := B.exec
  have hb := B.bytes
  have hr := B.returns
  have hts := atoms_spec (ws := wsX2_name) B.pre
  have hown : s.vm.findClass RX2 = some m.cls := findClass_of_methodNamed B.named
  have hlocks := B.notSynchronized
  have hS : va_S nA s.heap s.heap [] := va_S.rf
  have hl := lv_entry ([.ref (ad 0), .int p1, .int p2]) (n := 4) (Nat.le_of_ble_eq_true rfl)
  rw [lg_entry_eq]
  generalize (lg_sl ([.ref (ad 0), .int p1, .int p2]) ++ List.replicate (4 - (lg_sl ([.ref (ad 0), .int p1, .int p2])).length) Slot.unset).toArray = ls at hl ⊢
  have hl : lv_has ls 4 [(0, .ref (ad 0)), (1, .int p1), (2, .int p2)] := hl
  have hP : va_P D vwCl (wZ cyI cyZ ad zb zo zt zm zu zr zl zf) s.heap := hP
  refine lv_aload_n hx hb dX2_name_0 rfl (lv_at hl 0 rfl) ?_
  refine lv_iload_n hx hb dX2_name_1 rfl (lv_at hl 1 rfl) ?_
  by_cases c_2_0 : p1 = 0
  · refine pr_r (va_runV (As := [.int p1]) (rest := []) ⟨hx, hb, hml, hown, hts⟩ (k_X2_tableToRead_0 l D cyI cyZ ad zb zo zt zm zu zr zl zf p1 c_2_0) (cwV 1 hts gX2_name_X2_tableToRead rfl rfl rfl (by decide +kernel) ⟨Nat.le_of_ble_eq_true rfl, Nat.le_of_ble_eq_true rfl⟩) (prV hG hP (ci := 2) rfl rfl rfl) rfl rfl hl.1 rfl (lv_room (Nat.le_of_ble_eq_true rfl)) dX2_name_2 ⟨Nat.zero_le _, Nat.zero_le _⟩) hS hP (fun H locs hP hS => ?_)
    refine lv_astore_n (lv' := [(3, .ref (ad 1)), (0, .ref (ad 0)), (1, .int p1), (2, .int p2)]) hx hb dX2_name_5 rfl hl (by decide) rfl (fun ls hl => ?_)
    refine lv_aload_n hx hb dX2_name_6 rfl (lv_at hl 0 rfl) ?_
    refine lv_iload_n hx hb dX2_name_7 rfl (lv_at hl 3 rfl) ?_
    by_cases c_8 : (f_X2_requireColumnOf_x zb p2) = 0
    · refine pr_v (va_runS (As := [.ref (ad 1), .int p2]) (rest := []) ⟨hx, hb, hml, hown, hts⟩ (k_X2_requireColumnOf l D cyI cyZ (ad 1) (ad 2) (ad 3) zb p2 c_8) (va_cwS 2 hts gX2_name_X2_requireColumnOf rfl rfl rfl (by decide +kernel) ⟨Nat.le_of_ble_eq_true rfl, Nat.le_of_ble_eq_true rfl⟩) (prS hG (hP.sub (ws' := wT cyI (ad 1) (ad 2) (ad 3) zb) [1, 2, 3] rfl)) rfl rfl hl.1 rfl (lv_room (Nat.le_of_ble_eq_true rfl)) dX2_name_8 ⟨Nat.zero_le _, Nat.zero_le _⟩) hS hP (fun H locs hP hS => ?_)
      refine lv_aload_n hx hb dX2_name_11 rfl (lv_at hl 0 rfl) ?_
      refine lv_iload_n hx hb dX2_name_12 rfl (lv_at hl 3 rfl) ?_
      refine pr_i (va_runVN (As := [.int p2]) (rest := []) ⟨hx, hb, hml, hown, hts⟩ (k_X1_nameAt l D cyI cyZ (ad 1) (ad 2) (ad 3) zb p2) ⟨va_cnB 1 hts gX2_name_X1_nameAt_n78 rfl rfl rfl (hG.2.1 (RX2, 78, yX1_nameAt, "TableSplice") (List.mem_of_getElem? (i := 8) rfl)) (hts (.initialized RX1) (List.mem_of_getElem? (i := 16) rfl)) (by decide +kernel) ⟨Nat.le_of_ble_eq_true rfl, Nat.le_of_ble_eq_true rfl⟩, hts (.instanceMethod yX1_nameAt) (List.mem_of_getElem? (i := 20) rfl), hts (.selects RX1 yX1_nameAt yX1_nameAt) (List.mem_of_getElem? (i := 21) rfl)⟩ (prV hG (hP.sub (ws' := wT cyI (ad 1) (ad 2) (ad 3) zb) [1, 2, 3] rfl) (ci := 1) rfl rfl rfl) rfl rfl hl.1 rfl (lv_room (Nat.le_of_ble_eq_true rfl)) dX2_name_13 ⟨Nat.zero_le _, Nat.zero_le _⟩) hS hP (fun H locs hP hS => ?_)
      exact absurd (by rw [f_X2_name_x, if_pos c_2_0, if_pos c_8]) hx9
    · have ef : f_X2_name_x zb zo zt zm p1 p2 = f_X2_requireColumnOf_x zb p2 := by rw [f_X2_name_x, if_pos c_2_0, if_neg c_8]
      exact vx_callv (vx_runS (As := [.ref (ad 1), .int p2]) (rest := []) ⟨hx, hb, hml, hown, hts⟩ (t_X2_requireColumnOf l hlt D cyI cyZ (ad 1) (ad 2) (ad 3) zb p2 c_8) (va_cwS 2 hts gX2_name_X2_requireColumnOf rfl rfl rfl (by decide +kernel) ⟨Nat.le_of_ble_eq_true rfl, Nat.le_of_ble_eq_true rfl⟩) (ptS hG (hz.kept hS) (hP.sub (ws' := wT cyI (ad 1) (ad 2) (ad 3) zb) [1, 2, 3] rfl)) rfl rfl hl.1 rfl (lv_room (Nat.le_of_ble_eq_true rfl)) dX2_name_8 ⟨Nat.le_of_ble_eq_true rfl, Nat.le_of_ble_eq_true rfl⟩) hS (fun _ _ h => h.elim) (fun _ h => h.elim) (fun _ _ h => h.elim) (fun E ce q9 u t H1 locs1 ht _ _ hE _ _ hS1 hce hcv hcl => vx_out (fun x h => (hnt x h).elim) hlocks hce hcv hcl (fun t9 h9 _ => ⟨(), trivial, hE.trans (congrArg xn ef.symm), hS1.F h9⟩) hS1.2.2 (Nat.le_refl _) (Nat.le_refl _)) (fun u t H1 locs1 ht hvm h hb9 hz1 hk1 hS1 => h.elim)
  · by_cases c_2_1 : p1 = 1
    · refine pr_r (va_runV (As := [.int p1]) (rest := []) ⟨hx, hb, hml, hown, hts⟩ (k_X2_tableToRead_1 l D cyI cyZ ad zb zo zt zm zu zr zl zf p1 c_2_1) (cwV 1 hts gX2_name_X2_tableToRead rfl rfl rfl (by decide +kernel) ⟨Nat.le_of_ble_eq_true rfl, Nat.le_of_ble_eq_true rfl⟩) (prV hG hP (ci := 2) rfl rfl rfl) rfl rfl hl.1 rfl (lv_room (Nat.le_of_ble_eq_true rfl)) dX2_name_2 ⟨Nat.zero_le _, Nat.zero_le _⟩) hS hP (fun H locs hP hS => ?_)
      refine lv_astore_n (lv' := [(3, .ref (ad 4)), (0, .ref (ad 0)), (1, .int p1), (2, .int p2)]) hx hb dX2_name_5 rfl hl (by decide) rfl (fun ls hl => ?_)
      refine lv_aload_n hx hb dX2_name_6 rfl (lv_at hl 0 rfl) ?_
      refine lv_iload_n hx hb dX2_name_7 rfl (lv_at hl 3 rfl) ?_
      by_cases c_8 : (f_X2_requireColumnOf_x zo p2) = 0
      · refine pr_v (va_runS (As := [.ref (ad 4), .int p2]) (rest := []) ⟨hx, hb, hml, hown, hts⟩ (k_X2_requireColumnOf l D cyI cyZ (ad 4) (ad 5) (ad 6) zo p2 c_8) (va_cwS 2 hts gX2_name_X2_requireColumnOf rfl rfl rfl (by decide +kernel) ⟨Nat.le_of_ble_eq_true rfl, Nat.le_of_ble_eq_true rfl⟩) (prS hG (hP.sub (ws' := wT cyI (ad 4) (ad 5) (ad 6) zo) [4, 5, 6] rfl)) rfl rfl hl.1 rfl (lv_room (Nat.le_of_ble_eq_true rfl)) dX2_name_8 ⟨Nat.zero_le _, Nat.zero_le _⟩) hS hP (fun H locs hP hS => ?_)
        refine lv_aload_n hx hb dX2_name_11 rfl (lv_at hl 0 rfl) ?_
        refine lv_iload_n hx hb dX2_name_12 rfl (lv_at hl 3 rfl) ?_
        refine pr_i (va_runVN (As := [.int p2]) (rest := []) ⟨hx, hb, hml, hown, hts⟩ (k_X1_nameAt l D cyI cyZ (ad 4) (ad 5) (ad 6) zo p2) ⟨va_cnB 1 hts gX2_name_X1_nameAt_n78 rfl rfl rfl (hG.2.1 (RX2, 78, yX1_nameAt, "TableSplice") (List.mem_of_getElem? (i := 8) rfl)) (hts (.initialized RX1) (List.mem_of_getElem? (i := 16) rfl)) (by decide +kernel) ⟨Nat.le_of_ble_eq_true rfl, Nat.le_of_ble_eq_true rfl⟩, hts (.instanceMethod yX1_nameAt) (List.mem_of_getElem? (i := 20) rfl), hts (.selects RX1 yX1_nameAt yX1_nameAt) (List.mem_of_getElem? (i := 21) rfl)⟩ (prV hG (hP.sub (ws' := wT cyI (ad 4) (ad 5) (ad 6) zo) [4, 5, 6] rfl) (ci := 1) rfl rfl rfl) rfl rfl hl.1 rfl (lv_room (Nat.le_of_ble_eq_true rfl)) dX2_name_13 ⟨Nat.zero_le _, Nat.zero_le _⟩) hS hP (fun H locs hP hS => ?_)
        exact absurd (by rw [f_X2_name_x, if_neg c_2_0, if_pos c_2_1, if_pos c_8]) hx9
      · have ef : f_X2_name_x zb zo zt zm p1 p2 = f_X2_requireColumnOf_x zo p2 := by rw [f_X2_name_x, if_neg c_2_0, if_pos c_2_1, if_neg c_8]
        exact vx_callv (vx_runS (As := [.ref (ad 4), .int p2]) (rest := []) ⟨hx, hb, hml, hown, hts⟩ (t_X2_requireColumnOf l hlt D cyI cyZ (ad 4) (ad 5) (ad 6) zo p2 c_8) (va_cwS 2 hts gX2_name_X2_requireColumnOf rfl rfl rfl (by decide +kernel) ⟨Nat.le_of_ble_eq_true rfl, Nat.le_of_ble_eq_true rfl⟩) (ptS hG (hz.kept hS) (hP.sub (ws' := wT cyI (ad 4) (ad 5) (ad 6) zo) [4, 5, 6] rfl)) rfl rfl hl.1 rfl (lv_room (Nat.le_of_ble_eq_true rfl)) dX2_name_8 ⟨Nat.le_of_ble_eq_true rfl, Nat.le_of_ble_eq_true rfl⟩) hS (fun _ _ h => h.elim) (fun _ h => h.elim) (fun _ _ h => h.elim) (fun E ce q9 u t H1 locs1 ht _ _ hE _ _ hS1 hce hcv hcl => vx_out (fun x h => (hnt x h).elim) hlocks hce hcv hcl (fun t9 h9 _ => ⟨(), trivial, hE.trans (congrArg xn ef.symm), hS1.F h9⟩) hS1.2.2 (Nat.le_refl _) (Nat.le_refl _)) (fun u t H1 locs1 ht hvm h hb9 hz1 hk1 hS1 => h.elim)
    · by_cases c_2_2 : p1 = 2
      · refine pr_r (va_runV (As := [.int p1]) (rest := []) ⟨hx, hb, hml, hown, hts⟩ (k_X2_tableToRead_2 l D cyI cyZ ad zb zo zt zm zu zr zl zf p1 c_2_2) (cwV 1 hts gX2_name_X2_tableToRead rfl rfl rfl (by decide +kernel) ⟨Nat.le_of_ble_eq_true rfl, Nat.le_of_ble_eq_true rfl⟩) (prV hG hP (ci := 2) rfl rfl rfl) rfl rfl hl.1 rfl (lv_room (Nat.le_of_ble_eq_true rfl)) dX2_name_2 ⟨Nat.zero_le _, Nat.zero_le _⟩) hS hP (fun H locs hP hS => ?_)
        refine lv_astore_n (lv' := [(3, .ref (ad 7)), (0, .ref (ad 0)), (1, .int p1), (2, .int p2)]) hx hb dX2_name_5 rfl hl (by decide) rfl (fun ls hl => ?_)
        refine lv_aload_n hx hb dX2_name_6 rfl (lv_at hl 0 rfl) ?_
        refine lv_iload_n hx hb dX2_name_7 rfl (lv_at hl 3 rfl) ?_
        by_cases c_8 : (f_X2_requireColumnOf_x zt p2) = 0
        · refine pr_v (va_runS (As := [.ref (ad 7), .int p2]) (rest := []) ⟨hx, hb, hml, hown, hts⟩ (k_X2_requireColumnOf l D cyI cyZ (ad 7) (ad 8) (ad 9) zt p2 c_8) (va_cwS 2 hts gX2_name_X2_requireColumnOf rfl rfl rfl (by decide +kernel) ⟨Nat.le_of_ble_eq_true rfl, Nat.le_of_ble_eq_true rfl⟩) (prS hG (hP.sub (ws' := wT cyI (ad 7) (ad 8) (ad 9) zt) [7, 8, 9] rfl)) rfl rfl hl.1 rfl (lv_room (Nat.le_of_ble_eq_true rfl)) dX2_name_8 ⟨Nat.zero_le _, Nat.zero_le _⟩) hS hP (fun H locs hP hS => ?_)
          refine lv_aload_n hx hb dX2_name_11 rfl (lv_at hl 0 rfl) ?_
          refine lv_iload_n hx hb dX2_name_12 rfl (lv_at hl 3 rfl) ?_
          refine pr_i (va_runVN (As := [.int p2]) (rest := []) ⟨hx, hb, hml, hown, hts⟩ (k_X1_nameAt l D cyI cyZ (ad 7) (ad 8) (ad 9) zt p2) ⟨va_cnB 1 hts gX2_name_X1_nameAt_n78 rfl rfl rfl (hG.2.1 (RX2, 78, yX1_nameAt, "TableSplice") (List.mem_of_getElem? (i := 8) rfl)) (hts (.initialized RX1) (List.mem_of_getElem? (i := 16) rfl)) (by decide +kernel) ⟨Nat.le_of_ble_eq_true rfl, Nat.le_of_ble_eq_true rfl⟩, hts (.instanceMethod yX1_nameAt) (List.mem_of_getElem? (i := 20) rfl), hts (.selects RX1 yX1_nameAt yX1_nameAt) (List.mem_of_getElem? (i := 21) rfl)⟩ (prV hG (hP.sub (ws' := wT cyI (ad 7) (ad 8) (ad 9) zt) [7, 8, 9] rfl) (ci := 1) rfl rfl rfl) rfl rfl hl.1 rfl (lv_room (Nat.le_of_ble_eq_true rfl)) dX2_name_13 ⟨Nat.zero_le _, Nat.zero_le _⟩) hS hP (fun H locs hP hS => ?_)
          exact absurd (by rw [f_X2_name_x, if_neg c_2_0, if_neg c_2_1, if_pos c_2_2, if_pos c_8]) hx9
        · have ef : f_X2_name_x zb zo zt zm p1 p2 = f_X2_requireColumnOf_x zt p2 := by rw [f_X2_name_x, if_neg c_2_0, if_neg c_2_1, if_pos c_2_2, if_neg c_8]
          exact vx_callv (vx_runS (As := [.ref (ad 7), .int p2]) (rest := []) ⟨hx, hb, hml, hown, hts⟩ (t_X2_requireColumnOf l hlt D cyI cyZ (ad 7) (ad 8) (ad 9) zt p2 c_8) (va_cwS 2 hts gX2_name_X2_requireColumnOf rfl rfl rfl (by decide +kernel) ⟨Nat.le_of_ble_eq_true rfl, Nat.le_of_ble_eq_true rfl⟩) (ptS hG (hz.kept hS) (hP.sub (ws' := wT cyI (ad 7) (ad 8) (ad 9) zt) [7, 8, 9] rfl)) rfl rfl hl.1 rfl (lv_room (Nat.le_of_ble_eq_true rfl)) dX2_name_8 ⟨Nat.le_of_ble_eq_true rfl, Nat.le_of_ble_eq_true rfl⟩) hS (fun _ _ h => h.elim) (fun _ h => h.elim) (fun _ _ h => h.elim) (fun E ce q9 u t H1 locs1 ht _ _ hE _ _ hS1 hce hcv hcl => vx_out (fun x h => (hnt x h).elim) hlocks hce hcv hcl (fun t9 h9 _ => ⟨(), trivial, hE.trans (congrArg xn ef.symm), hS1.F h9⟩) hS1.2.2 (Nat.le_refl _) (Nat.le_refl _)) (fun u t H1 locs1 ht hvm h hb9 hz1 hk1 hS1 => h.elim)
      · by_cases c_2_3 : p1 = 3
        · refine pr_r (va_runV (As := [.int p1]) (rest := []) ⟨hx, hb, hml, hown, hts⟩ (k_X2_tableToRead_3 l D cyI cyZ ad zb zo zt zm zu zr zl zf p1 c_2_3) (cwV 1 hts gX2_name_X2_tableToRead rfl rfl rfl (by decide +kernel) ⟨Nat.le_of_ble_eq_true rfl, Nat.le_of_ble_eq_true rfl⟩) (prV hG hP (ci := 2) rfl rfl rfl) rfl rfl hl.1 rfl (lv_room (Nat.le_of_ble_eq_true rfl)) dX2_name_2 ⟨Nat.zero_le _, Nat.zero_le _⟩) hS hP (fun H locs hP hS => ?_)
          refine lv_astore_n (lv' := [(3, .ref (ad 10)), (0, .ref (ad 0)), (1, .int p1), (2, .int p2)]) hx hb dX2_name_5 rfl hl (by decide) rfl (fun ls hl => ?_)
          refine lv_aload_n hx hb dX2_name_6 rfl (lv_at hl 0 rfl) ?_
          refine lv_iload_n hx hb dX2_name_7 rfl (lv_at hl 3 rfl) ?_
          by_cases c_8 : (f_X2_requireColumnOf_x zm p2) = 0
          · refine pr_v (va_runS (As := [.ref (ad 10), .int p2]) (rest := []) ⟨hx, hb, hml, hown, hts⟩ (k_X2_requireColumnOf l D cyI cyZ (ad 10) (ad 11) (ad 12) zm p2 c_8) (va_cwS 2 hts gX2_name_X2_requireColumnOf rfl rfl rfl (by decide +kernel) ⟨Nat.le_of_ble_eq_true rfl, Nat.le_of_ble_eq_true rfl⟩) (prS hG (hP.sub (ws' := wT cyI (ad 10) (ad 11) (ad 12) zm) [10, 11, 12] rfl)) rfl rfl hl.1 rfl (lv_room (Nat.le_of_ble_eq_true rfl)) dX2_name_8 ⟨Nat.zero_le _, Nat.zero_le _⟩) hS hP (fun H locs hP hS => ?_)
            refine lv_aload_n hx hb dX2_name_11 rfl (lv_at hl 0 rfl) ?_
            refine lv_iload_n hx hb dX2_name_12 rfl (lv_at hl 3 rfl) ?_
            refine pr_i (va_runVN (As := [.int p2]) (rest := []) ⟨hx, hb, hml, hown, hts⟩ (k_X1_nameAt l D cyI cyZ (ad 10) (ad 11) (ad 12) zm p2) ⟨va_cnB 1 hts gX2_name_X1_nameAt_n78 rfl rfl rfl (hG.2.1 (RX2, 78, yX1_nameAt, "TableSplice") (List.mem_of_getElem? (i := 8) rfl)) (hts (.initialized RX1) (List.mem_of_getElem? (i := 16) rfl)) (by decide +kernel) ⟨Nat.le_of_ble_eq_true rfl, Nat.le_of_ble_eq_true rfl⟩, hts (.instanceMethod yX1_nameAt) (List.mem_of_getElem? (i := 20) rfl), hts (.selects RX1 yX1_nameAt yX1_nameAt) (List.mem_of_getElem? (i := 21) rfl)⟩ (prV hG (hP.sub (ws' := wT cyI (ad 10) (ad 11) (ad 12) zm) [10, 11, 12] rfl) (ci := 1) rfl rfl rfl) rfl rfl hl.1 rfl (lv_room (Nat.le_of_ble_eq_true rfl)) dX2_name_13 ⟨Nat.zero_le _, Nat.zero_le _⟩) hS hP (fun H locs hP hS => ?_)
            exact absurd (by rw [f_X2_name_x, if_neg c_2_0, if_neg c_2_1, if_neg c_2_2, if_pos c_2_3, if_pos c_8]) hx9
          · have ef : f_X2_name_x zb zo zt zm p1 p2 = f_X2_requireColumnOf_x zm p2 := by rw [f_X2_name_x, if_neg c_2_0, if_neg c_2_1, if_neg c_2_2, if_pos c_2_3, if_neg c_8]
            exact vx_callv (vx_runS (As := [.ref (ad 10), .int p2]) (rest := []) ⟨hx, hb, hml, hown, hts⟩ (t_X2_requireColumnOf l hlt D cyI cyZ (ad 10) (ad 11) (ad 12) zm p2 c_8) (va_cwS 2 hts gX2_name_X2_requireColumnOf rfl rfl rfl (by decide +kernel) ⟨Nat.le_of_ble_eq_true rfl, Nat.le_of_ble_eq_true rfl⟩) (ptS hG (hz.kept hS) (hP.sub (ws' := wT cyI (ad 10) (ad 11) (ad 12) zm) [10, 11, 12] rfl)) rfl rfl hl.1 rfl (lv_room (Nat.le_of_ble_eq_true rfl)) dX2_name_8 ⟨Nat.le_of_ble_eq_true rfl, Nat.le_of_ble_eq_true rfl⟩) hS (fun _ _ h => h.elim) (fun _ h => h.elim) (fun _ _ h => h.elim) (fun E ce q9 u t H1 locs1 ht _ _ hE _ _ hS1 hce hcv hcl => vx_out (fun x h => (hnt x h).elim) hlocks hce hcv hcl (fun t9 h9 _ => ⟨(), trivial, hE.trans (congrArg xn ef.symm), hS1.F h9⟩) hS1.2.2 (Nat.le_refl _) (Nat.le_refl _)) (fun u t H1 locs1 ht hvm h hb9 hz1 hk1 hS1 => h.elim)
        · have ef : f_X2_name_x zb zo zt zm p1 p2 = f_X2_tableToRead_x p1 := (by rw [f_X2_name_x, if_neg c_2_0, if_neg c_2_1, if_neg c_2_2, if_neg c_2_3] : f_X2_name_x zb zo zt zm p1 p2 = 1).trans (tr_x c_2_0 c_2_1 c_2_2 c_2_3).symm
          exact vx_callr (vx_runV (As := [.int p1]) (rest := []) ⟨hx, hb, hml, hown, hts⟩ (t_X2_tableToRead l hlt D cyI cyZ ad zb zo zt zm zu zr zl zf p1 (by rw [tr_x c_2_0 c_2_1 c_2_2 c_2_3]; decide)) (cwV 1 hts gX2_name_X2_tableToRead rfl rfl rfl (by decide +kernel) ⟨Nat.le_of_ble_eq_true rfl, Nat.le_of_ble_eq_true rfl⟩) (ptV hG (hz.kept hS) hP (ci := 2) rfl rfl rfl) rfl rfl hl.1 rfl (lv_room (Nat.le_of_ble_eq_true rfl)) dX2_name_2 ⟨Nat.le_of_ble_eq_true rfl, Nat.le_of_ble_eq_true rfl⟩) hS (fun _ _ h => h.elim) (fun _ h => h.elim) (fun _ _ h => h.elim) (fun E ce q9 u t H1 locs1 ht _ _ hE _ _ hS1 hce hcv hcl => vx_out (fun x h => (hnt x h).elim) hlocks hce hcv hcl (fun t9 h9 _ => ⟨(), trivial, hE.trans (congrArg xn ef.symm), hS1.F h9⟩) hS1.2.2 (Nat.le_refl _) (Nat.le_refl _)) (fun u ra t H1 locs1 ht hvm h hb9 hz1 hk1 hS1 => h.elim)
def f_X2_get (zb : Tr) (zo : Tr) (zt : Tr) (zm : Tr) (p1 : Int32) (p2 : Int32) (p3 : Int32) : Int32 := if p1 = 0 then (if (f_X2_requireRowOf_x zb p2) = 0 then (if (f_X2_requireColumnOf_x zb p3) = 0 then f_X1_cellAt zb p2 p3 else (0)) else (0)) else (if p1 = 1 then (if (f_X2_requireRowOf_x zo p2) = 0 then (if (f_X2_requireColumnOf_x zo p3) = 0 then f_X1_cellAt zo p2 p3 else (0)) else (0)) else (if p1 = 2 then (if (f_X2_requireRowOf_x zt p2) = 0 then (if (f_X2_requireColumnOf_x zt p3) = 0 then f_X1_cellAt zt p2 p3 else (0)) else (0)) else (if p1 = 3 then (if (f_X2_requireRowOf_x zm p2) = 0 then (if (f_X2_requireColumnOf_x zm p3) = 0 then f_X1_cellAt zm p2 p3 else (0)) else (0)) else (0))))
theorem uin_X2_get_X2 : ∀ w ∈ wsX20, w ∈ wsX2_get := fun _ h => List.mem_cons_of_mem _ (List.mem_append_left _ (List.mem_append_left _ (List.mem_append_right _ h)))
theorem uin_X2_get_X1 : ∀ w ∈ wsX10, w ∈ wsX2_get := fun _ h => List.mem_cons_of_mem _ (List.mem_append_left _ (List.mem_append_right _ h))
def f_X2_get_x (zb : Tr) (zo : Tr) (zt : Tr) (zm : Tr) (p1 : Int32) (p2 : Int32) (p3 : Int32) : Nat := if p1 = 0 then (if (f_X2_requireRowOf_x zb p2) = 0 then (if (f_X2_requireColumnOf_x zb p3) = 0 then 0 else (f_X2_requireColumnOf_x zb p3)) else (f_X2_requireRowOf_x zb p2)) else (if p1 = 1 then (if (f_X2_requireRowOf_x zo p2) = 0 then (if (f_X2_requireColumnOf_x zo p3) = 0 then 0 else (f_X2_requireColumnOf_x zo p3)) else (f_X2_requireRowOf_x zo p2)) else (if p1 = 2 then (if (f_X2_requireRowOf_x zt p2) = 0 then (if (f_X2_requireColumnOf_x zt p3) = 0 then 0 else (f_X2_requireColumnOf_x zt p3)) else (f_X2_requireRowOf_x zt p2)) else (if p1 = 3 then (if (f_X2_requireRowOf_x zm p2) = 0 then (if (f_X2_requireColumnOf_x zm p3) = 0 then 0 else (f_X2_requireColumnOf_x zm p3)) else (f_X2_requireRowOf_x zm p2)) else 1)))
theorem xin_X2_get_IO : ∀ w ∈ (vx_atS RX2 224 "java/lang/IndexOutOfBoundsException" ["java/lang/RuntimeException", "java/lang/Exception"]).filter goodWord, w ∈ wsX2_get := fun _ h => List.mem_cons_of_mem _ (List.mem_append_right _ h)
set_option maxHeartbeats 4000000 in
set_option maxRecDepth 100000 in
theorem k_X2_get (l : Launch) (D : va_G) (cyI cyZ : ClassId) (ad : Nat → Nat) (zb : Tr) (zo : Tr) (zt : Tr) (zm : Tr) (zu : Nat → Int32) (zr : Nat → Int32) (zl : Lr) (zf : Int32) (p1 : Int32) (p2 : Int32) (p3 : Int32) (hx9 : f_X2_get_x zb zo zt zm p1 p2 p3 = 0) : Met l yX2_get wsX2_get ({ frames := 3, cells := 0, slots := 0, locals := 65 } : Room) (pcP D cyI cyZ [.ref (ad 0), .int p1, .int p2, .int p3] (wZ cyI cyZ ad zb zo zt zm zu zr zl zf)) (qI (f_X2_get zb zo zt zm p1 p2 p3)) 0 0 nA := by
  refine Met.ofW (cc := cX2_get) (maxL := 5) (ret := (some .int)) (by decide) rfl ?_
  intro p e s m args below meth c s₁ B hml hv
  obtain ⟨rfl, hP, hG⟩ := hv
  have hx := B.exec
  have hb := B.bytes
  have hr := B.returns
  have hts := atoms_spec (ws := wsX2_get) B.pre
  have hown : s.vm.findClass RX2 = some m.cls := findClass_of_methodNamed B.named
  have hlocks := B.notSynchronized
  have hS : va_S nA s.heap s.heap [] := va_S.rf
  have hl := lv_entry ([.ref (ad 0), .int p1, .int p2, .int p3]) (n := 5) (Nat.le_of_ble_eq_true rfl)
  rw [lg_entry_eq]
  generalize (lg_sl ([.ref (ad 0), .int p1, .int p2, .int p3]) ++ List.replicate (5 - (lg_sl ([.ref (ad 0), .int p1, .int p2, .int p3])).length) Slot.unset).toArray = ls at hl ⊢
  have hl : lv_has ls 5 [(0, .ref (ad 0)), (1, .int p1), (2, .int p2), (3, .int p3)] := hl
  have hP : va_P D vwCl (wZ cyI cyZ ad zb zo zt zm zu zr zl zf) s.heap := hP
  refine lv_aload_n hx hb dX2_get_0 rfl (lv_at hl 0 rfl) ?_
  refine lv_iload_n hx hb dX2_get_1 rfl (lv_at hl 1 rfl) ?_
  by_cases c_2_0 : p1 = 0
  · refine pr_r (va_runV (As := [.int p1]) (rest := []) ⟨hx, hb, hml, hown, hts⟩ (k_X2_tableToRead_0 l D cyI cyZ ad zb zo zt zm zu zr zl zf p1 c_2_0) (cwV 1 hts gX2_get_X2_tableToRead rfl rfl rfl (by decide +kernel) ⟨Nat.le_of_ble_eq_true rfl, Nat.le_of_ble_eq_true rfl⟩) (prV hG hP (ci := 2) rfl rfl rfl) rfl rfl hl.1 rfl (lv_room (Nat.le_of_ble_eq_true rfl)) dX2_get_2 ⟨Nat.zero_le _, Nat.zero_le _⟩) hS hP (fun H locs hP hS => ?_)
    refine lv_astore (lv' := [(4, .ref (ad 1)), (0, .ref (ad 0)), (1, .int p1), (2, .int p2), (3, .int p3)]) hx hb dX2_get_5 hl (by decide) rfl (fun ls hl => ?_)
    refine lv_aload hx hb dX2_get_7 (lv_at hl 0 rfl) ?_
    refine lv_iload_n hx hb dX2_get_9 rfl (lv_at hl 3 rfl) ?_
    by_cases c_10 : (f_X2_requireRowOf_x zb p2) = 0
    · refine pr_v (va_runS (As := [.ref (ad 1), .int p2]) (rest := []) ⟨hx, hb, hml, hown, hts⟩ (k_X2_requireRowOf l D cyI cyZ (ad 1) (ad 2) (ad 3) zb p2 c_10) (va_cwS 2 hts gX2_get_X2_requireRowOf rfl rfl rfl (by decide +kernel) ⟨Nat.le_of_ble_eq_true rfl, Nat.le_of_ble_eq_true rfl⟩) (prS hG (hP.sub (ws' := wT cyI (ad 1) (ad 2) (ad 3) zb) [1, 2, 3] rfl)) rfl rfl hl.1 rfl (lv_room (Nat.le_of_ble_eq_true rfl)) dX2_get_10 ⟨Nat.zero_le _, Nat.zero_le _⟩) hS hP (fun H locs hP hS => ?_)
      refine lv_aload hx hb dX2_get_13 (lv_at hl 0 rfl) ?_
      refine lv_iload_n hx hb dX2_get_15 rfl (lv_at hl 4 rfl) ?_
      by_cases c_16 : (f_X2_requireColumnOf_x zb p3) = 0
      · refine pr_v (va_runS (As := [.ref (ad 1), .int p3]) (rest := []) ⟨hx, hb, hml, hown, hts⟩ (k_X2_requireColumnOf l D cyI cyZ (ad 1) (ad 2) (ad 3) zb p3 c_16) (va_cwS 2 hts gX2_get_X2_requireColumnOf rfl rfl rfl (by decide +kernel) ⟨Nat.le_of_ble_eq_true rfl, Nat.le_of_ble_eq_true rfl⟩) (prS hG (hP.sub (ws' := wT cyI (ad 1) (ad 2) (ad 3) zb) [1, 2, 3] rfl)) rfl rfl hl.1 rfl (lv_room (Nat.le_of_ble_eq_true rfl)) dX2_get_16 ⟨Nat.zero_le _, Nat.zero_le _⟩) hS hP (fun H locs hP hS => ?_)
        refine lv_aload hx hb dX2_get_19 (lv_at hl 0 rfl) ?_
        refine lv_iload_n hx hb dX2_get_21 rfl (lv_at hl 3 rfl) ?_
        refine lv_iload_n hx hb dX2_get_22 rfl (lv_at hl 4 rfl) ?_
        refine pr_i (va_runVN (As := [.int p2, .int p3]) (rest := []) ⟨hx, hb, hml, hown, hts⟩ (k_X1_cellAt l D cyI cyZ (ad 1) (ad 2) (ad 3) zb p2 p3) ⟨va_cnB 2 hts gX2_get_X1_cellAt_n113 rfl rfl rfl (hG.2.1 (RX2, 113, yX1_cellAt, "TableSplice") (List.mem_of_getElem? (i := 18) rfl)) (hts (.initialized RX1) (List.mem_of_getElem? (i := 16) rfl)) (by decide +kernel) ⟨Nat.le_of_ble_eq_true rfl, Nat.le_of_ble_eq_true rfl⟩, hts (.instanceMethod yX1_cellAt) (List.mem_of_getElem? (i := 27) rfl), hts (.selects RX1 yX1_cellAt yX1_cellAt) (List.mem_of_getElem? (i := 28) rfl)⟩ (prV hG (hP.sub (ws' := wT cyI (ad 1) (ad 2) (ad 3) zb) [1, 2, 3] rfl) (ci := 1) rfl rfl rfl) rfl rfl hl.1 rfl (lv_room (Nat.le_of_ble_eq_true rfl)) dX2_get_23 ⟨Nat.zero_le _, Nat.zero_le _⟩) hS hP (fun H locs hP hS => ?_)
        have ef : f_X2_get zb zo zt zm p1 p2 p3 = f_X1_cellAt zb p2 p3 := by rw [f_X2_get, if_pos c_2_0, if_pos c_10, if_pos c_16]
        exact W.iret (v := f_X1_cellAt zb p2 p3) hx hb hr (fun t ht hW => ⟨⟨f_X1_cellAt zb p2 p3, (), rfl, ef.symm, trivial⟩, hS.F ht⟩) hS.2.2 dX2_get_26
      · exact absurd hx9 (by rw [f_X2_get_x, if_pos c_2_0, if_pos c_10, if_neg c_16]; exact c_16)
    · exact absurd hx9 (by rw [f_X2_get_x, if_pos c_2_0, if_neg c_10]; exact c_10)
  · by_cases c_2_1 : p1 = 1
    · refine pr_r (va_runV (As := [.int p1]) (rest := []) ⟨hx, hb, hml, hown, hts⟩ (k_X2_tableToRead_1 l D cyI cyZ ad zb zo zt zm zu zr zl zf p1 c_2_1) (cwV 1 hts gX2_get_X2_tableToRead rfl rfl rfl (by decide +kernel) ⟨Nat.le_of_ble_eq_true rfl, Nat.le_of_ble_eq_true rfl⟩) (prV hG hP (ci := 2) rfl rfl rfl) rfl rfl hl.1 rfl (lv_room (Nat.le_of_ble_eq_true rfl)) dX2_get_2 ⟨Nat.zero_le _, Nat.zero_le _⟩) hS hP (fun H locs hP hS => ?_)
      refine lv_astore (lv' := [(4, .ref (ad 4)), (0, .ref (ad 0)), (1, .int p1), (2, .int p2), (3, .int p3)]) hx hb dX2_get_5 hl (by decide) rfl (fun ls hl => ?_)
      refine lv_aload hx hb dX2_get_7 (lv_at hl 0 rfl) ?_
      refine lv_iload_n hx hb dX2_get_9 rfl (lv_at hl 3 rfl) ?_
      by_cases c_10 : (f_X2_requireRowOf_x zo p2) = 0
      · refine pr_v (va_runS (As := [.ref (ad 4), .int p2]) (rest := []) ⟨hx, hb, hml, hown, hts⟩ (k_X2_requireRowOf l D cyI cyZ (ad 4) (ad 5) (ad 6) zo p2 c_10) (va_cwS 2 hts gX2_get_X2_requireRowOf rfl rfl rfl (by decide +kernel) ⟨Nat.le_of_ble_eq_true rfl, Nat.le_of_ble_eq_true rfl⟩) (prS hG (hP.sub (ws' := wT cyI (ad 4) (ad 5) (ad 6) zo) [4, 5, 6] rfl)) rfl rfl hl.1 rfl (lv_room (Nat.le_of_ble_eq_true rfl)) dX2_get_10 ⟨Nat.zero_le _, Nat.zero_le _⟩) hS hP (fun H locs hP hS => ?_)
        refine lv_aload hx hb dX2_get_13 (lv_at hl 0 rfl) ?_
        refine lv_iload_n hx hb dX2_get_15 rfl (lv_at hl 4 rfl) ?_
        by_cases c_16 : (f_X2_requireColumnOf_x zo p3) = 0
        · refine pr_v (va_runS (As := [.ref (ad 4), .int p3]) (rest := []) ⟨hx, hb, hml, hown, hts⟩ (k_X2_requireColumnOf l D cyI cyZ (ad 4) (ad 5) (ad 6) zo p3 c_16) (va_cwS 2 hts gX2_get_X2_requireColumnOf rfl rfl rfl (by decide +kernel) ⟨Nat.le_of_ble_eq_true rfl, Nat.le_of_ble_eq_true rfl⟩) (prS hG (hP.sub (ws' := wT cyI (ad 4) (ad 5) (ad 6) zo) [4, 5, 6] rfl)) rfl rfl hl.1 rfl (lv_room (Nat.le_of_ble_eq_true rfl)) dX2_get_16 ⟨Nat.zero_le _, Nat.zero_le _⟩) hS hP (fun H locs hP hS => ?_)
          refine lv_aload hx hb dX2_get_19 (lv_at hl 0 rfl) ?_
          refine lv_iload_n hx hb dX2_get_21 rfl (lv_at hl 3 rfl) ?_
          refine lv_iload_n hx hb dX2_get_22 rfl (lv_at hl 4 rfl) ?_
          refine pr_i (va_runVN (As := [.int p2, .int p3]) (rest := []) ⟨hx, hb, hml, hown, hts⟩ (k_X1_cellAt l D cyI cyZ (ad 4) (ad 5) (ad 6) zo p2 p3) ⟨va_cnB 2 hts gX2_get_X1_cellAt_n113 rfl rfl rfl (hG.2.1 (RX2, 113, yX1_cellAt, "TableSplice") (List.mem_of_getElem? (i := 18) rfl)) (hts (.initialized RX1) (List.mem_of_getElem? (i := 16) rfl)) (by decide +kernel) ⟨Nat.le_of_ble_eq_true rfl, Nat.le_of_ble_eq_true rfl⟩, hts (.instanceMethod yX1_cellAt) (List.mem_of_getElem? (i := 27) rfl), hts (.selects RX1 yX1_cellAt yX1_cellAt) (List.mem_of_getElem? (i := 28) rfl)⟩ (prV hG (hP.sub (ws' := wT cyI (ad 4) (ad 5) (ad 6) zo) [4, 5, 6] rfl) (ci := 1) rfl rfl rfl) rfl rfl hl.1 rfl (lv_room (Nat.le_of_ble_eq_true rfl)) dX2_get_23 ⟨Nat.zero_le _, Nat.zero_le _⟩) hS hP (fun H locs hP hS => ?_)
          have ef : f_X2_get zb zo zt zm p1 p2 p3 = f_X1_cellAt zo p2 p3 := by rw [f_X2_get, if_neg c_2_0, if_pos c_2_1, if_pos c_10, if_pos c_16]
          exact W.iret (v := f_X1_cellAt zo p2 p3) hx hb hr (fun t ht hW => ⟨⟨f_X1_cellAt zo p2 p3, (), rfl, ef.symm, trivial⟩, hS.F ht⟩) hS.2.2 dX2_get_26
        · exact absurd hx9 (by rw [f_X2_get_x, if_neg c_2_0, if_pos c_2_1, if_pos c_10, if_neg c_16]; exact c_16)
      · exact absurd hx9 (by rw [f_X2_get_x, if_neg c_2_0, if_pos c_2_1, if_neg c_10]; exact c_10)
    · by_cases c_2_2 : p1 = 2
      · refine pr_r (va_runV (As := [.int p1]) (rest := []) ⟨hx, hb, hml, hown, hts⟩ (k_X2_tableToRead_2 l D cyI cyZ ad zb zo zt zm zu zr zl zf p1 c_2_2) (cwV 1 hts gX2_get_X2_tableToRead rfl rfl rfl (by decide +kernel) ⟨Nat.le_of_ble_eq_true rfl, Nat.le_of_ble_eq_true rfl⟩) (prV hG hP (ci := 2) rfl rfl rfl) rfl rfl hl.1 rfl (lv_room (Nat.le_of_ble_eq_true rfl)) dX2_get_2 ⟨Nat.zero_le _, Nat.zero_le _⟩) hS hP (fun H locs hP hS => ?_)
        refine lv_astore (lv' := [(4, .ref (ad 7)), (0, .ref (ad 0)), (1, .int p1), (2, .int p2), (3, .int p3)]) hx hb dX2_get_5 hl (by decide) rfl (fun ls hl => ?_)
        refine lv_aload hx hb dX2_get_7 (lv_at hl 0 rfl) ?_
        refine lv_iload_n hx hb dX2_get_9 rfl (lv_at hl 3 rfl) ?_
        by_cases c_10 : (f_X2_requireRowOf_x zt p2) = 0
        · refine pr_v (va_runS (As := [.ref (ad 7), .int p2]) (rest := []) ⟨hx, hb, hml, hown, hts⟩ (k_X2_requireRowOf l D cyI cyZ (ad 7) (ad 8) (ad 9) zt p2 c_10) (va_cwS 2 hts gX2_get_X2_requireRowOf rfl rfl rfl (by decide +kernel) ⟨Nat.le_of_ble_eq_true rfl, Nat.le_of_ble_eq_true rfl⟩) (prS hG (hP.sub (ws' := wT cyI (ad 7) (ad 8) (ad 9) zt) [7, 8, 9] rfl)) rfl rfl hl.1 rfl (lv_room (Nat.le_of_ble_eq_true rfl)) dX2_get_10 ⟨Nat.zero_le _, Nat.zero_le _⟩) hS hP (fun H locs hP hS => ?_)
          refine lv_aload hx hb dX2_get_13 (lv_at hl 0 rfl) ?_
          refine lv_iload_n hx hb dX2_get_15 rfl (lv_at hl 4 rfl) ?_
          by_cases c_16 : (f_X2_requireColumnOf_x zt p3) = 0
          · refine pr_v (va_runS (As := [.ref (ad 7), .int p3]) (rest := []) ⟨hx, hb, hml, hown, hts⟩ (k_X2_requireColumnOf l D cyI cyZ (ad 7) (ad 8) (ad 9) zt p3 c_16) (va_cwS 2 hts gX2_get_X2_requireColumnOf rfl rfl rfl (by decide +kernel) ⟨Nat.le_of_ble_eq_true rfl, Nat.le_of_ble_eq_true rfl⟩) (prS hG (hP.sub (ws' := wT cyI (ad 7) (ad 8) (ad 9) zt) [7, 8, 9] rfl)) rfl rfl hl.1 rfl (lv_room (Nat.le_of_ble_eq_true rfl)) dX2_get_16 ⟨Nat.zero_le _, Nat.zero_le _⟩) hS hP (fun H locs hP hS => ?_)
            refine lv_aload hx hb dX2_get_19 (lv_at hl 0 rfl) ?_
            refine lv_iload_n hx hb dX2_get_21 rfl (lv_at hl 3 rfl) ?_
            refine lv_iload_n hx hb dX2_get_22 rfl (lv_at hl 4 rfl) ?_
            refine pr_i (va_runVN (As := [.int p2, .int p3]) (rest := []) ⟨hx, hb, hml, hown, hts⟩ (k_X1_cellAt l D cyI cyZ (ad 7) (ad 8) (ad 9) zt p2 p3) ⟨va_cnB 2 hts gX2_get_X1_cellAt_n113 rfl rfl rfl (hG.2.1 (RX2, 113, yX1_cellAt, "TableSplice") (List.mem_of_getElem? (i := 18) rfl)) (hts (.initialized RX1) (List.mem_of_getElem? (i := 16) rfl)) (by decide +kernel) ⟨Nat.le_of_ble_eq_true rfl, Nat.le_of_ble_eq_true rfl⟩, hts (.instanceMethod yX1_cellAt) (List.mem_of_getElem? (i := 27) rfl), hts (.selects RX1 yX1_cellAt yX1_cellAt) (List.mem_of_getElem? (i := 28) rfl)⟩ (prV hG (hP.sub (ws' := wT cyI (ad 7) (ad 8) (ad 9) zt) [7, 8, 9] rfl) (ci := 1) rfl rfl rfl) rfl rfl hl.1 rfl (lv_room (Nat.le_of_ble_eq_true rfl)) dX2_get_23 ⟨Nat.zero_le _, Nat.zero_le _⟩) hS hP (fun H locs hP hS => ?_)
            have ef : f_X2_get zb zo zt zm p1 p2 p3 = f_X1_cellAt zt p2 p3 := by rw [f_X2_get, if_neg c_2_0, if_neg c_2_1, if_pos c_2_2, if_pos c_10, if_pos c_16]
            exact W.iret (v := f_X1_cellAt zt p2 p3) hx hb hr (fun t ht hW => ⟨⟨f_X1_cellAt zt p2 p3, (), rfl, ef.symm, trivial⟩, hS.F ht⟩) hS.2.2 dX2_get_26
          · exact absurd hx9 (by rw [f_X2_get_x, if_neg c_2_0, if_neg c_2_1, if_pos c_2_2, if_pos c_10, if_neg c_16]; exact c_16)
        · exact absurd hx9 (by rw [f_X2_get_x, if_neg c_2_0, if_neg c_2_1, if_pos c_2_2, if_neg c_10]; exact c_10)
      · by_cases c_2_3 : p1 = 3
        · refine pr_r (va_runV (As := [.int p1]) (rest := []) ⟨hx, hb, hml, hown, hts⟩ (k_X2_tableToRead_3 l D cyI cyZ ad zb zo zt zm zu zr zl zf p1 c_2_3) (cwV 1 hts gX2_get_X2_tableToRead rfl rfl rfl (by decide +kernel) ⟨Nat.le_of_ble_eq_true rfl, Nat.le_of_ble_eq_true rfl⟩) (prV hG hP (ci := 2) rfl rfl rfl) rfl rfl hl.1 rfl (lv_room (Nat.le_of_ble_eq_true rfl)) dX2_get_2 ⟨Nat.zero_le _, Nat.zero_le _⟩) hS hP (fun H locs hP hS => ?_)
          refine lv_astore (lv' := [(4, .ref (ad 10)), (0, .ref (ad 0)), (1, .int p1), (2, .int p2), (3, .int p3)]) hx hb dX2_get_5 hl (by decide) rfl (fun ls hl => ?_)
          refine lv_aload hx hb dX2_get_7 (lv_at hl 0 rfl) ?_
          refine lv_iload_n hx hb dX2_get_9 rfl (lv_at hl 3 rfl) ?_
          by_cases c_10 : (f_X2_requireRowOf_x zm p2) = 0
          · refine pr_v (va_runS (As := [.ref (ad 10), .int p2]) (rest := []) ⟨hx, hb, hml, hown, hts⟩ (k_X2_requireRowOf l D cyI cyZ (ad 10) (ad 11) (ad 12) zm p2 c_10) (va_cwS 2 hts gX2_get_X2_requireRowOf rfl rfl rfl (by decide +kernel) ⟨Nat.le_of_ble_eq_true rfl, Nat.le_of_ble_eq_true rfl⟩) (prS hG (hP.sub (ws' := wT cyI (ad 10) (ad 11) (ad 12) zm) [10, 11, 12] rfl)) rfl rfl hl.1 rfl (lv_room (Nat.le_of_ble_eq_true rfl)) dX2_get_10 ⟨Nat.zero_le _, Nat.zero_le _⟩) hS hP (fun H locs hP hS => ?_)
            refine lv_aload hx hb dX2_get_13 (lv_at hl 0 rfl) ?_
            refine lv_iload_n hx hb dX2_get_15 rfl (lv_at hl 4 rfl) ?_
            by_cases c_16 : (f_X2_requireColumnOf_x zm p3) = 0
            · refine pr_v (va_runS (As := [.ref (ad 10), .int p3]) (rest := []) ⟨hx, hb, hml, hown, hts⟩ (k_X2_requireColumnOf l D cyI cyZ (ad 10) (ad 11) (ad 12) zm p3 c_16) (va_cwS 2 hts gX2_get_X2_requireColumnOf rfl rfl rfl (by decide +kernel) ⟨Nat.le_of_ble_eq_true rfl, Nat.le_of_ble_eq_true rfl⟩) (prS hG (hP.sub (ws' := wT cyI (ad 10) (ad 11) (ad 12) zm) [10, 11, 12] rfl)) rfl rfl hl.1 rfl (lv_room (Nat.le_of_ble_eq_true rfl)) dX2_get_16 ⟨Nat.zero_le _, Nat.zero_le _⟩) hS hP (fun H locs hP hS => ?_)
              refine lv_aload hx hb dX2_get_19 (lv_at hl 0 rfl) ?_
              refine lv_iload_n hx hb dX2_get_21 rfl (lv_at hl 3 rfl) ?_
              refine lv_iload_n hx hb dX2_get_22 rfl (lv_at hl 4 rfl) ?_
              refine pr_i (va_runVN (As := [.int p2, .int p3]) (rest := []) ⟨hx, hb, hml, hown, hts⟩ (k_X1_cellAt l D cyI cyZ (ad 10) (ad 11) (ad 12) zm p2 p3) ⟨va_cnB 2 hts gX2_get_X1_cellAt_n113 rfl rfl rfl (hG.2.1 (RX2, 113, yX1_cellAt, "TableSplice") (List.mem_of_getElem? (i := 18) rfl)) (hts (.initialized RX1) (List.mem_of_getElem? (i := 16) rfl)) (by decide +kernel) ⟨Nat.le_of_ble_eq_true rfl, Nat.le_of_ble_eq_true rfl⟩, hts (.instanceMethod yX1_cellAt) (List.mem_of_getElem? (i := 27) rfl), hts (.selects RX1 yX1_cellAt yX1_cellAt) (List.mem_of_getElem? (i := 28) rfl)⟩ (prV hG (hP.sub (ws' := wT cyI (ad 10) (ad 11) (ad 12) zm) [10, 11, 12] rfl) (ci := 1) rfl rfl rfl) rfl rfl hl.1 rfl (lv_room (Nat.le_of_ble_eq_true rfl)) dX2_get_23 ⟨Nat.zero_le _, Nat.zero_le _⟩) hS hP (fun H locs hP hS => ?_)
              have ef : f_X2_get zb zo zt zm p1 p2 p3 = f_X1_cellAt zm p2 p3 := by rw [f_X2_get, if_neg c_2_0, if_neg c_2_1, if_neg c_2_2, if_pos c_2_3, if_pos c_10, if_pos c_16]
              exact W.iret (v := f_X1_cellAt zm p2 p3) hx hb hr (fun t ht hW => ⟨⟨f_X1_cellAt zm p2 p3, (), rfl, ef.symm, trivial⟩, hS.F ht⟩) hS.2.2 dX2_get_26
            · exact absurd hx9 (by rw [f_X2_get_x, if_neg c_2_0, if_neg c_2_1, if_neg c_2_2, if_pos c_2_3, if_pos c_10, if_neg c_16]; exact c_16)
          · exact absurd hx9 (by rw [f_X2_get_x, if_neg c_2_0, if_neg c_2_1, if_neg c_2_2, if_pos c_2_3, if_neg c_10]; exact c_10)
        · exact absurd hx9 (by rw [f_X2_get_x, if_neg c_2_0, if_neg c_2_1, if_neg c_2_2, if_neg c_2_3]; decide)
set_option maxHeartbeats 4000000 in
set_option maxRecDepth 100000 in
theorem t_X2_get (l : Launch) (hlt : l.stackTraces = false) (D : va_G) (cyI cyZ : ClassId) (ad : Nat → Nat) (zb : Tr) (zo : Tr) (zt : Tr) (zm : Tr) (zu : Nat → Int32) (zr : Nat → Int32) (zl : Lr) (zf : Int32) (p1 : Int32) (p2 : Int32) (p3 : Int32) (hx9 : ¬ f_X2_get_x zb zo zt zm p1 p2 p3 = 0) : vx_Met l yX2_get wsX2_get ({ frames := 7, cells := 1, slots := 6, locals := 121 } : Room) (pcT D cyI cyZ [.ref (ad 0), .int p1, .int p2, .int p3] (wZ cyI cyZ ad zb zo zt zm zu zr zl zf)) qFi (xX (f_X2_get_x zb zo zt zm p1 p2 p3)) 1 6 nA := by
  refine vx_ofW (cc := cX2_get) (maxL := 5) (ret := (some .int)) (by decide) rfl ?_
  intro p e s m args below meth c s₁ B hml hnt hv
  obtain ⟨rfl, hP, hG, hz⟩ := hv
  have hx := B.exec
  have hb := B.bytes
  have hr := B.returns
  have hts := atoms_spec (ws := wsX2_get) B.pre
  have hown : s.vm.findClass RX2 = some m.cls := findClass_of_methodNamed B.named
  have hlocks := B.notSynchronized
  have hS : va_S nA s.heap s.heap [] := va_S.rf
  have hl := lv_entry ([.ref (ad 0), .int p1, .int p2, .int p3]) (n := 5) (Nat.le_of_ble_eq_true rfl)
  rw [lg_entry_eq]
  generalize (lg_sl ([.ref (ad 0), .int p1, .int p2, .int p3]) ++ List.replicate (5 - (lg_sl ([.ref (ad 0), .int p1, .int p2, .int p3])).length) Slot.unset).toArray = ls at hl ⊢
  have hl : lv_has ls 5 [(0, .ref (ad 0)), (1, .int p1), (2, .int p2), (3, .int p3)] := hl
  have hP : va_P D vwCl (wZ cyI cyZ ad zb zo zt zm zu zr zl zf) s.heap := hP
  refine lv_aload_n hx hb dX2_get_0 rfl (lv_at hl 0 rfl) ?_
  refine lv_iload_n hx hb dX2_get_1 rfl (lv_at hl 1 rfl) ?_
  by_cases c_2_0 : p1 = 0
  · refine pr_r (va_runV (As := [.int p1]) (rest := []) ⟨hx, hb, hml, hown, hts⟩ (k_X2_tableToRead_0 l D cyI cyZ ad zb zo zt zm zu zr zl zf p1 c_2_0) (cwV 1 hts gX2_get_X2_tableToRead rfl rfl rfl (by decide +kernel) ⟨Nat.le_of_ble_eq_true rfl, Nat.le_of_ble_eq_true rfl⟩) (prV hG hP (ci := 2) rfl rfl rfl) rfl rfl hl.1 rfl (lv_room (Nat.le_of_ble_eq_true rfl)) dX2_get_2 ⟨Nat.zero_le _, Nat.zero_le _⟩) hS hP (fun H locs hP hS => ?_)
    refine lv_astore (lv' := [(4, .ref (ad 1)), (0, .ref (ad 0)), (1, .int p1), (2, .int p2), (3, .int p3)]) hx hb dX2_get_5 hl (by decide) rfl (fun ls hl => ?_)
    refine lv_aload hx hb dX2_get_7 (lv_at hl 0 rfl) ?_
    refine lv_iload_n hx hb dX2_get_9 rfl (lv_at hl 3 rfl) ?_
    by_cases c_10 : (f_X2_requireRowOf_x zb p2) = 0
    · refine pr_v (va_runS (As := [.ref (ad 1), .int p2]) (rest := []) ⟨hx, hb, hml, hown, hts⟩ (k_X2_requireRowOf l D cyI cyZ (ad 1) (ad 2) (ad 3) zb p2 c_10) (va_cwS 2 hts gX2_get_X2_requireRowOf rfl rfl rfl (by decide +kernel) ⟨Nat.le_of_ble_eq_true rfl, Nat.le_of_ble_eq_true rfl⟩) (prS hG (hP.sub (ws' := wT cyI (ad 1) (ad 2) (ad 3) zb) [1, 2, 3] rfl)) rfl rfl hl.1 rfl (lv_room (Nat.le_of_ble_eq_true rfl)) dX2_get_10 ⟨Nat.zero_le _, Nat.zero_le _⟩) hS hP (fun H locs hP hS => ?_)
      refine lv_aload hx hb dX2_get_13 (lv_at hl 0 rfl) ?_
      refine lv_iload_n hx hb dX2_get_15 rfl (lv_at hl 4 rfl) ?_
      by_cases c_16 : (f_X2_requireColumnOf_x zb p3) = 0
      · refine pr_v (va_runS (As := [.ref (ad 1), .int p3]) (rest := []) ⟨hx, hb, hml, hown, hts⟩ (k_X2_requireColumnOf l D cyI cyZ (ad 1) (ad 2) (ad 3) zb p3 c_16) (va_cwS 2 hts gX2_get_X2_requireColumnOf rfl rfl rfl (by decide +kernel) ⟨Nat.le_of_ble_eq_true rfl, Nat.le_of_ble_eq_true rfl⟩) (prS hG (hP.sub (ws' := wT cyI (ad 1) (ad 2) (ad 3) zb) [1, 2, 3] rfl)) rfl rfl hl.1 rfl (lv_room (Nat.le_of_ble_eq_true rfl)) dX2_get_16 ⟨Nat.zero_le _, Nat.zero_le _⟩) hS hP (fun H locs hP hS => ?_)
        refine lv_aload hx hb dX2_get_19 (lv_at hl 0 rfl) ?_
        refine lv_iload_n hx hb dX2_get_21 rfl (lv_at hl 3 rfl) ?_
        refine lv_iload_n hx hb dX2_get_22 rfl (lv_at hl 4 rfl) ?_
        refine pr_i (va_runVN (As := [.int p2, .int p3]) (rest := []) ⟨hx, hb, hml, hown, hts⟩ (k_X1_cellAt l D cyI cyZ (ad 1) (ad 2) (ad 3) zb p2 p3) ⟨va_cnB 2 hts gX2_get_X1_cellAt_n113 rfl rfl rfl (hG.2.1 (RX2, 113, yX1_cellAt, "TableSplice") (List.mem_of_getElem? (i := 18) rfl)) (hts (.initialized RX1) (List.mem_of_getElem? (i := 16) rfl)) (by decide +kernel) ⟨Nat.le_of_ble_eq_true rfl, Nat.le_of_ble_eq_true rfl⟩, hts (.instanceMethod yX1_cellAt) (List.mem_of_getElem? (i := 27) rfl), hts (.selects RX1 yX1_cellAt yX1_cellAt) (List.mem_of_getElem? (i := 28) rfl)⟩ (prV hG (hP.sub (ws' := wT cyI (ad 1) (ad 2) (ad 3) zb) [1, 2, 3] rfl) (ci := 1) rfl rfl rfl) rfl rfl hl.1 rfl (lv_room (Nat.le_of_ble_eq_true rfl)) dX2_get_23 ⟨Nat.zero_le _, Nat.zero_le _⟩) hS hP (fun H locs hP hS => ?_)
        exact absurd (by rw [f_X2_get_x, if_pos c_2_0, if_pos c_10, if_pos c_16]) hx9
      · have ef : f_X2_get_x zb zo zt zm p1 p2 p3 = f_X2_requireColumnOf_x zb p3 := by rw [f_X2_get_x, if_pos c_2_0, if_pos c_10, if_neg c_16]
        exact vx_callv (vx_runS (As := [.ref (ad 1), .int p3]) (rest := []) ⟨hx, hb, hml, hown, hts⟩ (t_X2_requireColumnOf l hlt D cyI cyZ (ad 1) (ad 2) (ad 3) zb p3 c_16) (va_cwS 2 hts gX2_get_X2_requireColumnOf rfl rfl rfl (by decide +kernel) ⟨Nat.le_of_ble_eq_true rfl, Nat.le_of_ble_eq_true rfl⟩) (ptS hG (hz.kept hS) (hP.sub (ws' := wT cyI (ad 1) (ad 2) (ad 3) zb) [1, 2, 3] rfl)) rfl rfl hl.1 rfl (lv_room (Nat.le_of_ble_eq_true rfl)) dX2_get_16 ⟨Nat.le_of_ble_eq_true rfl, Nat.le_of_ble_eq_true rfl⟩) hS (fun _ _ h => h.elim) (fun _ h => h.elim) (fun _ _ h => h.elim) (fun E ce q9 u t H1 locs1 ht _ _ hE _ _ hS1 hce hcv hcl => vx_out (fun x h => (hnt x h).elim) hlocks hce hcv hcl (fun t9 h9 _ => ⟨(), trivial, hE.trans (congrArg xn ef.symm), hS1.F h9⟩) hS1.2.2 (Nat.le_refl _) (Nat.le_refl _)) (fun u t H1 locs1 ht hvm h hb9 hz1 hk1 hS1 => h.elim)
    · have ef : f_X2_get_x zb zo zt zm p1 p2 p3 = f_X2_requireRowOf_x zb p2 := by rw [f_X2_get_x, if_pos c_2_0, if_neg c_10]
      exact vx_callv (vx_runS (As := [.ref (ad 1), .int p2]) (rest := []) ⟨hx, hb, hml, hown, hts⟩ (t_X2_requireRowOf l hlt D cyI cyZ (ad 1) (ad 2) (ad 3) zb p2 c_10) (va_cwS 2 hts gX2_get_X2_requireRowOf rfl rfl rfl (by decide +kernel) ⟨Nat.le_of_ble_eq_true rfl, Nat.le_of_ble_eq_true rfl⟩) (ptS hG (hz.kept hS) (hP.sub (ws' := wT cyI (ad 1) (ad 2) (ad 3) zb) [1, 2, 3] rfl)) rfl rfl hl.1 rfl (lv_room (Nat.le_of_ble_eq_true rfl)) dX2_get_10 ⟨Nat.le_of_ble_eq_true rfl, Nat.le_of_ble_eq_true rfl⟩) hS (fun _ _ h => h.elim) (fun _ h => h.elim) (fun _ _ h => h.elim) (fun E ce q9 u t H1 locs1 ht _ _ hE _ _ hS1 hce hcv hcl => vx_out (fun x h => (hnt x h).elim) hlocks hce hcv hcl (fun t9 h9 _ => ⟨(), trivial, hE.trans (congrArg xn ef.symm), hS1.F h9⟩) hS1.2.2 (Nat.le_refl _) (Nat.le_refl _)) (fun u t H1 locs1 ht hvm h hb9 hz1 hk1 hS1 => h.elim)
  · by_cases c_2_1 : p1 = 1
    · refine pr_r (va_runV (As := [.int p1]) (rest := []) ⟨hx, hb, hml, hown, hts⟩ (k_X2_tableToRead_1 l D cyI cyZ ad zb zo zt zm zu zr zl zf p1 c_2_1) (cwV 1 hts gX2_get_X2_tableToRead rfl rfl rfl (by decide +kernel) ⟨Nat.le_of_ble_eq_true rfl, Nat.le_of_ble_eq_true rfl⟩) (prV hG hP (ci := 2) rfl rfl rfl) rfl rfl hl.1 rfl (lv_room (Nat.le_of_ble_eq_true rfl)) dX2_get_2 ⟨Nat.zero_le _, Nat.zero_le _⟩) hS hP (fun H locs hP hS => ?_)
      refine lv_astore (lv' := [(4, .ref (ad 4)), (0, .ref (ad 0)), (1, .int p1), (2, .int p2), (3, .int p3)]) hx hb dX2_get_5 hl (by decide) rfl (fun ls hl => ?_)
      refine lv_aload hx hb dX2_get_7 (lv_at hl 0 rfl) ?_
      refine lv_iload_n hx hb dX2_get_9 rfl (lv_at hl 3 rfl) ?_
      by_cases c_10 : (f_X2_requireRowOf_x zo p2) = 0
      · refine pr_v (va_runS (As := [.ref (ad 4), .int p2]) (rest := []) ⟨hx, hb, hml, hown, hts⟩ (k_X2_requireRowOf l D cyI cyZ (ad 4) (ad 5) (ad 6) zo p2 c_10) (va_cwS 2 hts gX2_get_X2_requireRowOf rfl rfl rfl (by decide +kernel) ⟨Nat.le_of_ble_eq_true rfl, Nat.le_of_ble_eq_true rfl⟩) (prS hG (hP.sub (ws' := wT cyI (ad 4) (ad 5) (ad 6) zo) [4, 5, 6] rfl)) rfl rfl hl.1 rfl (lv_room (Nat.le_of_ble_eq_true rfl)) dX2_get_10 ⟨Nat.zero_le _, Nat.zero_le _⟩) hS hP (fun H locs hP hS => ?_)
        refine lv_aload hx hb dX2_get_13 (lv_at hl 0 rfl) ?_
        refine lv_iload_n hx hb dX2_get_15 rfl (lv_at hl 4 rfl) ?_
        by_cases c_16 : (f_X2_requireColumnOf_x zo p3) = 0
        · refine pr_v (va_runS (As := [.ref (ad 4), .int p3]) (rest := []) ⟨hx, hb, hml, hown, hts⟩ (k_X2_requireColumnOf l D cyI cyZ (ad 4) (ad 5) (ad 6) zo p3 c_16) (va_cwS 2 hts gX2_get_X2_requireColumnOf rfl rfl rfl (by decide +kernel) ⟨Nat.le_of_ble_eq_true rfl, Nat.le_of_ble_eq_true rfl⟩) (prS hG (hP.sub (ws' := wT cyI (ad 4) (ad 5) (ad 6) zo) [4, 5, 6] rfl)) rfl rfl hl.1 rfl (lv_room (Nat.le_of_ble_eq_true rfl)) dX2_get_16 ⟨Nat.zero_le _, Nat.zero_le _⟩) hS hP (fun H locs hP hS => ?_)
          refine lv_aload hx hb dX2_get_19 (lv_at hl 0 rfl) ?_
          refine lv_iload_n hx hb dX2_get_21 rfl (lv_at hl 3 rfl) ?_
          refine lv_iload_n hx hb dX2_get_22 rfl (lv_at hl 4 rfl) ?_
          refine pr_i (va_runVN (As := [.int p2, .int p3]) (rest := []) ⟨hx, hb, hml, hown, hts⟩ (k_X1_cellAt l D cyI cyZ (ad 4) (ad 5) (ad 6) zo p2 p3) ⟨va_cnB 2 hts gX2_get_X1_cellAt_n113 rfl rfl rfl (hG.2.1 (RX2, 113, yX1_cellAt, "TableSplice") (List.mem_of_getElem? (i := 18) rfl)) (hts (.initialized RX1) (List.mem_of_getElem? (i := 16) rfl)) (by decide +kernel) ⟨Nat.le_of_ble_eq_true rfl, Nat.le_of_ble_eq_true rfl⟩, hts (.instanceMethod yX1_cellAt) (List.mem_of_getElem? (i := 27) rfl), hts (.selects RX1 yX1_cellAt yX1_cellAt) (List.mem_of_getElem? (i := 28) rfl)⟩ (prV hG (hP.sub (ws' := wT cyI (ad 4) (ad 5) (ad 6) zo) [4, 5, 6] rfl) (ci := 1) rfl rfl rfl) rfl rfl hl.1 rfl (lv_room (Nat.le_of_ble_eq_true rfl)) dX2_get_23 ⟨Nat.zero_le _, Nat.zero_le _⟩) hS hP (fun H locs hP hS => ?_)
          exact absurd (by rw [f_X2_get_x, if_neg c_2_0, if_pos c_2_1, if_pos c_10, if_pos c_16]) hx9
        · have ef : f_X2_get_x zb zo zt zm p1 p2 p3 = f_X2_requireColumnOf_x zo p3 := by rw [f_X2_get_x, if_neg c_2_0, if_pos c_2_1, if_pos c_10, if_neg c_16]
          exact vx_callv (vx_runS (As := [.ref (ad 4), .int p3]) (rest := []) ⟨hx, hb, hml, hown, hts⟩ (t_X2_requireColumnOf l hlt D cyI cyZ (ad 4) (ad 5) (ad 6) zo p3 c_16) (va_cwS 2 hts gX2_get_X2_requireColumnOf rfl rfl rfl (by decide +kernel) ⟨Nat.le_of_ble_eq_true rfl, Nat.le_of_ble_eq_true rfl⟩) (ptS hG (hz.kept hS) (hP.sub (ws' := wT cyI (ad 4) (ad 5) (ad 6) zo) [4, 5, 6] rfl)) rfl rfl hl.1 rfl (lv_room (Nat.le_of_ble_eq_true rfl)) dX2_get_16 ⟨Nat.le_of_ble_eq_true rfl, Nat.le_of_ble_eq_true rfl⟩) hS (fun _ _ h => h.elim) (fun _ h => h.elim) (fun _ _ h => h.elim) (fun E ce q9 u t H1 locs1 ht _ _ hE _ _ hS1 hce hcv hcl => vx_out (fun x h => (hnt x h).elim) hlocks hce hcv hcl (fun t9 h9 _ => ⟨(), trivial, hE.trans (congrArg xn ef.symm), hS1.F h9⟩) hS1.2.2 (Nat.le_refl _) (Nat.le_refl _)) (fun u t H1 locs1 ht hvm h hb9 hz1 hk1 hS1 => h.elim)
      · have ef : f_X2_get_x zb zo zt zm p1 p2 p3 = f_X2_requireRowOf_x zo p2 := by rw [f_X2_get_x, if_neg c_2_0, if_pos c_2_1, if_neg c_10]
        exact vx_callv (vx_runS (As := [.ref (ad 4), .int p2]) (rest := []) ⟨hx, hb, hml, hown, hts⟩ (t_X2_requireRowOf l hlt D cyI cyZ (ad 4) (ad 5) (ad 6) zo p2 c_10) (va_cwS 2 hts gX2_get_X2_requireRowOf rfl rfl rfl (by decide +kernel) ⟨Nat.le_of_ble_eq_true rfl, Nat.le_of_ble_eq_true rfl⟩) (ptS hG (hz.kept hS) (hP.sub (ws' := wT cyI (ad 4) (ad 5) (ad 6) zo) [4, 5, 6] rfl)) rfl rfl hl.1 rfl (lv_room (Nat.le_of_ble_eq_true rfl)) dX2_get_10 ⟨Nat.le_of_ble_eq_true rfl, Nat.le_of_ble_eq_true rfl⟩) hS (fun _ _ h => h.elim) (fun _ h => h.elim) (fun _ _ h => h.elim) (fun E ce q9 u t H1 locs1 ht _ _ hE _ _ hS1 hce hcv hcl => vx_out (fun x h => (hnt x h).elim) hlocks hce hcv hcl (fun t9 h9 _ => ⟨(), trivial, hE.trans (congrArg xn ef.symm), hS1.F h9⟩) hS1.2.2 (Nat.le_refl _) (Nat.le_refl _)) (fun u t H1 locs1 ht hvm h hb9 hz1 hk1 hS1 => h.elim)
    · by_cases c_2_2 : p1 = 2
      · refine pr_r (va_runV (As := [.int p1]) (rest := []) ⟨hx, hb, hml, hown, hts⟩ (k_X2_tableToRead_2 l D cyI cyZ ad zb zo zt zm zu zr zl zf p1 c_2_2) (cwV 1 hts gX2_get_X2_tableToRead rfl rfl rfl (by decide +kernel) ⟨Nat.le_of_ble_eq_true rfl, Nat.le_of_ble_eq_true rfl⟩) (prV hG hP (ci := 2) rfl rfl rfl) rfl rfl hl.1 rfl (lv_room (Nat.le_of_ble_eq_true rfl)) dX2_get_2 ⟨Nat.zero_le _, Nat.zero_le _⟩) hS hP (fun H locs hP hS => ?_)
        refine lv_astore (lv' := [(4, .ref (ad 7)), (0, .ref (ad 0)), (1, .int p1), (2, .int p2), (3, .int p3)]) hx hb dX2_get_5 hl (by decide) rfl (fun ls hl => ?_)
        refine lv_aload hx hb dX2_get_7 (lv_at hl 0 rfl) ?_
        refine lv_iload_n hx hb dX2_get_9 rfl (lv_at hl 3 rfl) ?_
        by_cases c_10 : (f_X2_requireRowOf_x zt p2) = 0
        · refine pr_v (va_runS (As := [.ref (ad 7), .int p2]) (rest := []) ⟨hx, hb, hml, hown, hts⟩ (k_X2_requireRowOf l D cyI cyZ (ad 7) (ad 8) (ad 9) zt p2 c_10) (va_cwS 2 hts gX2_get_X2_requireRowOf rfl rfl rfl (by decide +kernel) ⟨Nat.le_of_ble_eq_true rfl, Nat.le_of_ble_eq_true rfl⟩) (prS hG (hP.sub (ws' := wT cyI (ad 7) (ad 8) (ad 9) zt) [7, 8, 9] rfl)) rfl rfl hl.1 rfl (lv_room (Nat.le_of_ble_eq_true rfl)) dX2_get_10 ⟨Nat.zero_le _, Nat.zero_le _⟩) hS hP (fun H locs hP hS => ?_)
          refine lv_aload hx hb dX2_get_13 (lv_at hl 0 rfl) ?_
          refine lv_iload_n hx hb dX2_get_15 rfl (lv_at hl 4 rfl) ?_
          by_cases c_16 : (f_X2_requireColumnOf_x zt p3) = 0
          · refine pr_v (va_runS (As := [.ref (ad 7), .int p3]) (rest := []) ⟨hx, hb, hml, hown, hts⟩ (k_X2_requireColumnOf l D cyI cyZ (ad 7) (ad 8) (ad 9) zt p3 c_16) (va_cwS 2 hts gX2_get_X2_requireColumnOf rfl rfl rfl (by decide +kernel) ⟨Nat.le_of_ble_eq_true rfl, Nat.le_of_ble_eq_true rfl⟩) (prS hG (hP.sub (ws' := wT cyI (ad 7) (ad 8) (ad 9) zt) [7, 8, 9] rfl)) rfl rfl hl.1 rfl (lv_room (Nat.le_of_ble_eq_true rfl)) dX2_get_16 ⟨Nat.zero_le _, Nat.zero_le _⟩) hS hP (fun H locs hP hS => ?_)
            refine lv_aload hx hb dX2_get_19 (lv_at hl 0 rfl) ?_
            refine lv_iload_n hx hb dX2_get_21 rfl (lv_at hl 3 rfl) ?_
            refine lv_iload_n hx hb dX2_get_22 rfl (lv_at hl 4 rfl) ?_
            refine pr_i (va_runVN (As := [.int p2, .int p3]) (rest := []) ⟨hx, hb, hml, hown, hts⟩ (k_X1_cellAt l D cyI cyZ (ad 7) (ad 8) (ad 9) zt p2 p3) ⟨va_cnB 2 hts gX2_get_X1_cellAt_n113 rfl rfl rfl (hG.2.1 (RX2, 113, yX1_cellAt, "TableSplice") (List.mem_of_getElem? (i := 18) rfl)) (hts (.initialized RX1) (List.mem_of_getElem? (i := 16) rfl)) (by decide +kernel) ⟨Nat.le_of_ble_eq_true rfl, Nat.le_of_ble_eq_true rfl⟩, hts (.instanceMethod yX1_cellAt) (List.mem_of_getElem? (i := 27) rfl), hts (.selects RX1 yX1_cellAt yX1_cellAt) (List.mem_of_getElem? (i := 28) rfl)⟩ (prV hG (hP.sub (ws' := wT cyI (ad 7) (ad 8) (ad 9) zt) [7, 8, 9] rfl) (ci := 1) rfl rfl rfl) rfl rfl hl.1 rfl (lv_room (Nat.le_of_ble_eq_true rfl)) dX2_get_23 ⟨Nat.zero_le _, Nat.zero_le _⟩) hS hP (fun H locs hP hS => ?_)
            exact absurd (by rw [f_X2_get_x, if_neg c_2_0, if_neg c_2_1, if_pos c_2_2, if_pos c_10, if_pos c_16]) hx9
          · have ef : f_X2_get_x zb zo zt zm p1 p2 p3 = f_X2_requireColumnOf_x zt p3 := by rw [f_X2_get_x, if_neg c_2_0, if_neg c_2_1, if_pos c_2_2, if_pos c_10, if_neg c_16]
            exact vx_callv (vx_runS (As := [.ref (ad 7), .int p3]) (rest := []) ⟨hx, hb, hml, hown, hts⟩ (t_X2_requireColumnOf l hlt D cyI cyZ (ad 7) (ad 8) (ad 9) zt p3 c_16) (va_cwS 2 hts gX2_get_X2_requireColumnOf rfl rfl rfl (by decide +kernel) ⟨Nat.le_of_ble_eq_true rfl, Nat.le_of_ble_eq_true rfl⟩) (ptS hG (hz.kept hS) (hP.sub (ws' := wT cyI (ad 7) (ad 8) (ad 9) zt) [7, 8, 9] rfl)) rfl rfl hl.1 rfl (lv_room (Nat.le_of_ble_eq_true rfl)) dX2_get_16 ⟨Nat.le_of_ble_eq_true rfl, Nat.le_of_ble_eq_true rfl⟩) hS (fun _ _ h => h.elim) (fun _ h => h.elim) (fun _ _ h => h.elim) (fun E ce q9 u t H1 locs1 ht _ _ hE _ _ hS1 hce hcv hcl => vx_out (fun x h => (hnt x h).elim) hlocks hce hcv hcl (fun t9 h9 _ => ⟨(), trivial, hE.trans (congrArg xn ef.symm), hS1.F h9⟩) hS1.2.2 (Nat.le_refl _) (Nat.le_refl _)) (fun u t H1 locs1 ht hvm h hb9 hz1 hk1 hS1 => h.elim)
        · have ef : f_X2_get_x zb zo zt zm p1 p2 p3 = f_X2_requireRowOf_x zt p2 := by rw [f_X2_get_x, if_neg c_2_0, if_neg c_2_1, if_pos c_2_2, if_neg c_10]
          exact vx_callv (vx_runS (As := [.ref (ad 7), .int p2]) (rest := []) ⟨hx, hb, hml, hown, hts⟩ (t_X2_requireRowOf l hlt D cyI cyZ (ad 7) (ad 8) (ad 9) zt p2 c_10) (va_cwS 2 hts gX2_get_X2_requireRowOf rfl rfl rfl (by decide +kernel) ⟨Nat.le_of_ble_eq_true rfl, Nat.le_of_ble_eq_true rfl⟩) (ptS hG (hz.kept hS) (hP.sub (ws' := wT cyI (ad 7) (ad 8) (ad 9) zt) [7, 8, 9] rfl)) rfl rfl hl.1 rfl (lv_room (Nat.le_of_ble_eq_true rfl)) dX2_get_10 ⟨Nat.le_of_ble_eq_true rfl, Nat.le_of_ble_eq_true rfl⟩) hS (fun _ _ h => h.elim) (fun _ h => h.elim) (fun _ _ h => h.elim) (fun E ce q9 u t H1 locs1 ht _ _ hE _ _ hS1 hce hcv hcl => vx_out (fun x h => (hnt x h).elim) hlocks hce hcv hcl (fun t9 h9 _ => ⟨(), trivial, hE.trans (congrArg xn ef.symm), hS1.F h9⟩) hS1.2.2 (Nat.le_refl _) (Nat.le_refl _)) (fun u t H1 locs1 ht hvm h hb9 hz1 hk1 hS1 => h.elim)
      · by_cases c_2_3 : p1 = 3
        · refine pr_r (va_runV (As := [.int p1]) (rest := []) ⟨hx, hb, hml, hown, hts⟩ (k_X2_tableToRead_3 l D cyI cyZ ad zb zo zt zm zu zr zl zf p1 c_2_3) (cwV 1 hts gX2_get_X2_tableToRead rfl rfl rfl (by decide +kernel) ⟨Nat.le_of_ble_eq_true rfl, Nat.le_of_ble_eq_true rfl⟩) (prV hG hP (ci := 2) rfl rfl rfl) rfl rfl hl.1 rfl (lv_room (Nat.le_of_ble_eq_true rfl)) dX2_get_2 ⟨Nat.zero_le _, Nat.zero_le _⟩) hS hP (fun H locs hP hS => ?_)
          refine lv_astore (lv' := [(4, .ref (ad 10)), (0, .ref (ad 0)), (1, .int p1), (2, .int p2), (3, .int p3)]) hx hb dX2_get_5 hl (by decide) rfl (fun ls hl => ?_)
          refine lv_aload hx hb dX2_get_7 (lv_at hl 0 rfl) ?_
          refine lv_iload_n hx hb dX2_get_9 rfl (lv_at hl 3 rfl) ?_
          by_cases c_10 : (f_X2_requireRowOf_x zm p2) = 0
          · refine pr_v (va_runS (As := [.ref (ad 10), .int p2]) (rest := []) ⟨hx, hb, hml, hown, hts⟩ (k_X2_requireRowOf l D cyI cyZ (ad 10) (ad 11) (ad 12) zm p2 c_10) (va_cwS 2 hts gX2_get_X2_requireRowOf rfl rfl rfl (by decide +kernel) ⟨Nat.le_of_ble_eq_true rfl, Nat.le_of_ble_eq_true rfl⟩) (prS hG (hP.sub (ws' := wT cyI (ad 10) (ad 11) (ad 12) zm) [10, 11, 12] rfl)) rfl rfl hl.1 rfl (lv_room (Nat.le_of_ble_eq_true rfl)) dX2_get_10 ⟨Nat.zero_le _, Nat.zero_le _⟩) hS hP (fun H locs hP hS => ?_)
            refine lv_aload hx hb dX2_get_13 (lv_at hl 0 rfl) ?_
            refine lv_iload_n hx hb dX2_get_15 rfl (lv_at hl 4 rfl) ?_
            by_cases c_16 : (f_X2_requireColumnOf_x zm p3) = 0
            · refine pr_v (va_runS (As := [.ref (ad 10), .int p3]) (rest := []) ⟨hx, hb, hml, hown, hts⟩ (k_X2_requireColumnOf l D cyI cyZ (ad 10) (ad 11) (ad 12) zm p3 c_16) (va_cwS 2 hts gX2_get_X2_requireColumnOf rfl rfl rfl (by decide +kernel) ⟨Nat.le_of_ble_eq_true rfl, Nat.le_of_ble_eq_true rfl⟩) (prS hG (hP.sub (ws' := wT cyI (ad 10) (ad 11) (ad 12) zm) [10, 11, 12] rfl)) rfl rfl hl.1 rfl (lv_room (Nat.le_of_ble_eq_true rfl)) dX2_get_16 ⟨Nat.zero_le _, Nat.zero_le _⟩) hS hP (fun H locs hP hS => ?_)
              refine lv_aload hx hb dX2_get_19 (lv_at hl 0 rfl) ?_
              refine lv_iload_n hx hb dX2_get_21 rfl (lv_at hl 3 rfl) ?_
              refine lv_iload_n hx hb dX2_get_22 rfl (lv_at hl 4 rfl) ?_
              refine pr_i (va_runVN (As := [.int p2, .int p3]) (rest := []) ⟨hx, hb, hml, hown, hts⟩ (k_X1_cellAt l D cyI cyZ (ad 10) (ad 11) (ad 12) zm p2 p3) ⟨va_cnB 2 hts gX2_get_X1_cellAt_n113 rfl rfl rfl (hG.2.1 (RX2, 113, yX1_cellAt, "TableSplice") (List.mem_of_getElem? (i := 18) rfl)) (hts (.initialized RX1) (List.mem_of_getElem? (i := 16) rfl)) (by decide +kernel) ⟨Nat.le_of_ble_eq_true rfl, Nat.le_of_ble_eq_true rfl⟩, hts (.instanceMethod yX1_cellAt) (List.mem_of_getElem? (i := 27) rfl), hts (.selects RX1 yX1_cellAt yX1_cellAt) (List.mem_of_getElem? (i := 28) rfl)⟩ (prV hG (hP.sub (ws' := wT cyI (ad 10) (ad 11) (ad 12) zm) [10, 11, 12] rfl) (ci := 1) rfl rfl rfl) rfl rfl hl.1 rfl (lv_room (Nat.le_of_ble_eq_true rfl)) dX2_get_23 ⟨Nat.zero_le _, Nat.zero_le _⟩) hS hP (fun H locs hP hS => ?_)
              exact absurd (by rw [f_X2_get_x, if_neg c_2_0, if_neg c_2_1, if_neg c_2_2, if_pos c_2_3, if_pos c_10, if_pos c_16]) hx9
            · have ef : f_X2_get_x zb zo zt zm p1 p2 p3 = f_X2_requireColumnOf_x zm p3 := by rw [f_X2_get_x, if_neg c_2_0, if_neg c_2_1, if_neg c_2_2, if_pos c_2_3, if_pos c_10, if_neg c_16]
              exact vx_callv (vx_runS (As := [.ref (ad 10), .int p3]) (rest := []) ⟨hx, hb, hml, hown, hts⟩ (t_X2_requireColumnOf l hlt D cyI cyZ (ad 10) (ad 11) (ad 12) zm p3 c_16) (va_cwS 2 hts gX2_get_X2_requireColumnOf rfl rfl rfl (by decide +kernel) ⟨Nat.le_of_ble_eq_true rfl, Nat.le_of_ble_eq_true rfl⟩) (ptS hG (hz.kept hS) (hP.sub (ws' := wT cyI (ad 10) (ad 11) (ad 12) zm) [10, 11, 12] rfl)) rfl rfl hl.1 rfl (lv_room (Nat.le_of_ble_eq_true rfl)) dX2_get_16 ⟨Nat.le_of_ble_eq_true rfl, Nat.le_of_ble_eq_true rfl⟩) hS (fun _ _ h => h.elim) (fun _ h => h.elim) (fun _ _ h => h.elim) (fun E ce q9 u t H1 locs1 ht _ _ hE _ _ hS1 hce hcv hcl => vx_out (fun x h => (hnt x h).elim) hlocks hce hcv hcl (fun t9 h9 _ => ⟨(), trivial, hE.trans (congrArg xn ef.symm), hS1.F h9⟩) hS1.2.2 (Nat.le_refl _) (Nat.le_refl _)) (fun u t H1 locs1 ht hvm h hb9 hz1 hk1 hS1 => h.elim)
          · have ef : f_X2_get_x zb zo zt zm p1 p2 p3 = f_X2_requireRowOf_x zm p2 := by rw [f_X2_get_x, if_neg c_2_0, if_neg c_2_1, if_neg c_2_2, if_pos c_2_3, if_neg c_10]
            exact vx_callv (vx_runS (As := [.ref (ad 10), .int p2]) (rest := []) ⟨hx, hb, hml, hown, hts⟩ (t_X2_requireRowOf l hlt D cyI cyZ (ad 10) (ad 11) (ad 12) zm p2 c_10) (va_cwS 2 hts gX2_get_X2_requireRowOf rfl rfl rfl (by decide +kernel) ⟨Nat.le_of_ble_eq_true rfl, Nat.le_of_ble_eq_true rfl⟩) (ptS hG (hz.kept hS) (hP.sub (ws' := wT cyI (ad 10) (ad 11) (ad 12) zm) [10, 11, 12] rfl)) rfl rfl hl.1 rfl (lv_room (Nat.le_of_ble_eq_true rfl)) dX2_get_10 ⟨Nat.le_of_ble_eq_true rfl, Nat.le_of_ble_eq_true rfl⟩) hS (fun _ _ h => h.elim) (fun _ h => h.elim) (fun _ _ h => h.elim) (fun E ce q9 u t H1 locs1 ht _ _ hE _ _ hS1 hce hcv hcl => vx_out (fun x h => (hnt x h).elim) hlocks hce hcv hcl (fun t9 h9 _ => ⟨(), trivial, hE.trans (congrArg xn ef.symm), hS1.F h9⟩) hS1.2.2 (Nat.le_refl _) (Nat.le_refl _)) (fun u t H1 locs1 ht hvm h hb9 hz1 hk1 hS1 => h.elim)
        · have ef : f_X2_get_x zb zo zt zm p1 p2 p3 = f_X2_tableToRead_x p1 := (by rw [f_X2_get_x, if_neg c_2_0, if_neg c_2_1, if_neg c_2_2, if_neg c_2_3] : f_X2_get_x zb zo zt zm p1 p2 p3 = 1).trans (tr_x c_2_0 c_2_1 c_2_2 c_2_3).symm
          exact vx_callr (vx_runV (As := [.int p1]) (rest := []) ⟨hx, hb, hml, hown, hts⟩ (t_X2_tableToRead l hlt D cyI cyZ ad zb zo zt zm zu zr zl zf p1 (by rw [tr_x c_2_0 c_2_1 c_2_2 c_2_3]; decide)) (cwV 1 hts gX2_get_X2_tableToRead rfl rfl rfl (by decide +kernel) ⟨Nat.le_of_ble_eq_true rfl, Nat.le_of_ble_eq_true rfl⟩) (ptV hG (hz.kept hS) hP (ci := 2) rfl rfl rfl) rfl rfl hl.1 rfl (lv_room (Nat.le_of_ble_eq_true rfl)) dX2_get_2 ⟨Nat.le_of_ble_eq_true rfl, Nat.le_of_ble_eq_true rfl⟩) hS (fun _ _ h => h.elim) (fun _ h => h.elim) (fun _ _ h => h.elim) (fun E ce q9 u t H1 locs1 ht _ _ hE _ _ hS1 hce hcv hcl => vx_out (fun x h => (hnt x h).elim) hlocks hce hcv hcl (fun t9 h9 _ => ⟨(), trivial, hE.trans (congrArg xn ef.symm), hS1.F h9⟩) hS1.2.2 (Nat.le_refl _) (Nat.le_refl _)) (fun u ra t H1 locs1 ht hvm h hb9 hz1 hk1 hS1 => h.elim)
def f_X2_changes (zb : Tr) (zo : Tr) (zt : Tr) (p1 : Int32) : Int32 := if p1 = 1 then f_X1_countChangesFrom zo zb else (if p1 = 2 then f_X1_countChangesFrom zt zb else (0))
theorem uin_X2_changes_X2 : ∀ w ∈ wsX20, w ∈ wsX2_changes := fun _ h => List.mem_cons_of_mem _ (List.mem_append_left _ (List.mem_append_left _ (List.mem_append_right _ h)))
theorem uin_X2_changes_X1 : ∀ w ∈ wsX10, w ∈ wsX2_changes := fun _ h => List.mem_cons_of_mem _ (List.mem_append_left _ (List.mem_append_right _ h))
def f_X2_changes_x (p1 : Int32) : Nat := if p1 = 1 then 0 else (if p1 = 2 then 0 else 1)
theorem xin_X2_changes_IO : ∀ w ∈ (vx_atS RX2 224 "java/lang/IndexOutOfBoundsException" ["java/lang/RuntimeException", "java/lang/Exception"]).filter goodWord, w ∈ wsX2_changes := fun _ h => List.mem_cons_of_mem _ (List.mem_append_right _ h)
set_option maxHeartbeats 4000000 in
set_option maxRecDepth 100000 in
theorem k_X2_changes (l : Launch) (D : va_G) (cyI cyZ : ClassId) (ad : Nat → Nat) (zb : Tr) (zo : Tr) (zt : Tr) (zm : Tr) (zu : Nat → Int32) (zr : Nat → Int32) (zl : Lr) (zf : Int32) (p1 : Int32) (hx9 : f_X2_changes_x p1 = 0) : Met l yX2_changes wsX2_changes ({ frames := 5, cells := 0, slots := 0, locals := 114 } : Room) (pcP D cyI cyZ [.ref (ad 0), .int p1] (wZ cyI cyZ ad zb zo zt zm zu zr zl zf)) (qI (f_X2_changes zb zo zt p1)) 0 0 nA := by
  refine Met.ofW (cc := cX2_changes) (maxL := 2) (ret := (some .int)) (by decide) rfl ?_
  intro p e s m args below meth c s₁ B hml hv
  obtain ⟨rfl, hP, hG⟩ := hv
  have hx := B.exec
  have hb := B.bytes
  have hr := B.returns
  have hts := atoms_spec (ws := wsX2_changes) B.pre
  have hown : s.vm.findClass RX2 = some m.cls := findClass_of_methodNamed B.named
  have hlocks := B.notSynchronized
  have hS : va_S nA s.heap s.heap [] := va_S.rf
  have hl := lv_entry ([.ref (ad 0), .int p1]) (n := 2) (Nat.le_of_ble_eq_true rfl)
  rw [lg_entry_eq]
  generalize (lg_sl ([.ref (ad 0), .int p1]) ++ List.replicate (2 - (lg_sl ([.ref (ad 0), .int p1])).length) Slot.unset).toArray = ls at hl ⊢
  have hl : lv_has ls 2 [(0, .ref (ad 0)), (1, .int p1)] := hl
  have hP : va_P D vwCl (wZ cyI cyZ ad zb zo zt zm zu zr zl zf) s.heap := hP
  refine lv_aload_n hx hb dX2_changes_0 rfl (lv_at hl 0 rfl) ?_
  refine lv_iload_n hx hb dX2_changes_1 rfl (lv_at hl 1 rfl) ?_
  by_cases c_2_1 : p1 = 1
  · refine pr_r (va_runV (As := [.int p1]) (rest := []) ⟨hx, hb, hml, hown, hts⟩ (k_X2_sideTable_1 l D cyI cyZ ad zb zo zt zm zu zr zl zf p1 c_2_1) (cwV 1 hts gX2_changes_X2_sideTable rfl rfl rfl (by decide +kernel) ⟨Nat.le_of_ble_eq_true rfl, Nat.le_of_ble_eq_true rfl⟩) (prV hG hP (ci := 2) rfl rfl rfl) rfl rfl hl.1 rfl (lv_room (Nat.le_of_ble_eq_true rfl)) dX2_changes_2 ⟨Nat.zero_le _, Nat.zero_le _⟩) hS hP (fun H locs hP hS => ?_)
    refine lv_aload_n hx hb dX2_changes_5 rfl (lv_at hl 0 rfl) ?_
    refine va_get (D := D) (ci := 2) (v := .ref (ad 1)) (C := RX2) (T := TX2) (N := 8) hx hb hts uin_X2_changes_X2 hown hG.1 hP 0 rfl rfl 0 (by decide) (hts (.fieldLink RX2 10 "TableSplice" "base" "LTableSplice$Table;") (List.mem_of_getElem? (i := 1) rfl)) (fun _ h9 => h9) rfl dX2_changes_6 ?_
    refine pr_i (va_runVN (As := [.ref (ad 1)]) (rest := []) ⟨hx, hb, hml, hown, hts⟩ (k_X1_countChangesFrom l D cyI cyZ (ad 4) (ad 5) (ad 6) (ad 1) (ad 2) (ad 3) zo zb) ⟨va_cnB 1 hts gX2_changes_X1_countChangesFrom_n136 rfl rfl rfl (hG.2.1 (RX2, 136, yX1_countChangesFrom, "TableSplice") (List.mem_of_getElem? (i := 25) rfl)) (hts (.initialized RX1) (List.mem_of_getElem? (i := 12) rfl)) (by decide +kernel) ⟨Nat.le_of_ble_eq_true rfl, Nat.le_of_ble_eq_true rfl⟩, hts (.instanceMethod yX1_countChangesFrom) (List.mem_of_getElem? (i := 11) rfl), hts (.selects RX1 yX1_countChangesFrom yX1_countChangesFrom) (List.mem_of_getElem? (i := 13) rfl)⟩ (prV hG (hP.sub (ws' := wU cyI (ad 4) (ad 5) (ad 6) zo (ad 1) (ad 2) (ad 3) zb) [4, 5, 6, 1, 2, 3] rfl) (ci := 1) rfl rfl rfl) rfl rfl hl.1 rfl (lv_room (Nat.le_of_ble_eq_true rfl)) dX2_changes_9 ⟨Nat.zero_le _, Nat.zero_le _⟩) hS hP (fun H locs hP hS => ?_)
    have ef : f_X2_changes zb zo zt p1 = f_X1_countChangesFrom zo zb := by rw [f_X2_changes, if_pos c_2_1]
    exact W.iret (v := f_X1_countChangesFrom zo zb) hx hb hr (fun t ht hW => ⟨⟨f_X1_countChangesFrom zo zb, (), rfl, ef.symm, trivial⟩, hS.F ht⟩) hS.2.2 dX2_changes_12
  · by_cases c_2_2 : p1 = 2
    · refine pr_r (va_runV (As := [.int p1]) (rest := []) ⟨hx, hb, hml, hown, hts⟩ (k_X2_sideTable_2 l D cyI cyZ ad zb zo zt zm zu zr zl zf p1 c_2_2) (cwV 1 hts gX2_changes_X2_sideTable rfl rfl rfl (by decide +kernel) ⟨Nat.le_of_ble_eq_true rfl, Nat.le_of_ble_eq_true rfl⟩) (prV hG hP (ci := 2) rfl rfl rfl) rfl rfl hl.1 rfl (lv_room (Nat.le_of_ble_eq_true rfl)) dX2_changes_2 ⟨Nat.zero_le _, Nat.zero_le _⟩) hS hP (fun H locs hP hS => ?_)
      refine lv_aload_n hx hb dX2_changes_5 rfl (lv_at hl 0 rfl) ?_
      refine va_get (D := D) (ci := 2) (v := .ref (ad 1)) (C := RX2) (T := TX2) (N := 8) hx hb hts uin_X2_changes_X2 hown hG.1 hP 0 rfl rfl 0 (by decide) (hts (.fieldLink RX2 10 "TableSplice" "base" "LTableSplice$Table;") (List.mem_of_getElem? (i := 1) rfl)) (fun _ h9 => h9) rfl dX2_changes_6 ?_
      refine pr_i (va_runVN (As := [.ref (ad 1)]) (rest := []) ⟨hx, hb, hml, hown, hts⟩ (k_X1_countChangesFrom l D cyI cyZ (ad 7) (ad 8) (ad 9) (ad 1) (ad 2) (ad 3) zt zb) ⟨va_cnB 1 hts gX2_changes_X1_countChangesFrom_n136 rfl rfl rfl (hG.2.1 (RX2, 136, yX1_countChangesFrom, "TableSplice") (List.mem_of_getElem? (i := 25) rfl)) (hts (.initialized RX1) (List.mem_of_getElem? (i := 12) rfl)) (by decide +kernel) ⟨Nat.le_of_ble_eq_true rfl, Nat.le_of_ble_eq_true rfl⟩, hts (.instanceMethod yX1_countChangesFrom) (List.mem_of_getElem? (i := 11) rfl), hts (.selects RX1 yX1_countChangesFrom yX1_countChangesFrom) (List.mem_of_getElem? (i := 13) rfl)⟩ (prV hG (hP.sub (ws' := wU cyI (ad 7) (ad 8) (ad 9) zt (ad 1) (ad 2) (ad 3) zb) [7, 8, 9, 1, 2, 3] rfl) (ci := 1) rfl rfl rfl) rfl rfl hl.1 rfl (lv_room (Nat.le_of_ble_eq_true rfl)) dX2_changes_9 ⟨Nat.zero_le _, Nat.zero_le _⟩) hS hP (fun H locs hP hS => ?_)
      have ef : f_X2_changes zb zo zt p1 = f_X1_countChangesFrom zt zb := by rw [f_X2_changes, if_neg c_2_1, if_pos c_2_2]
      exact W.iret (v := f_X1_countChangesFrom zt zb) hx hb hr (fun t ht hW => ⟨⟨f_X1_countChangesFrom zt zb, (), rfl, ef.symm, trivial⟩, hS.F ht⟩) hS.2.2 dX2_changes_12
    · exact absurd hx9 (by rw [f_X2_changes_x, if_neg c_2_1, if_neg c_2_2]; decide)
set_option maxHeartbeats 4000000 in
set_option maxRecDepth 100000 in
theorem t_X2_changes (l : Launch) (hlt : l.stackTraces = false) (D : va_G) (cyI cyZ : ClassId) (ad : Nat → Nat) (zb : Tr) (zo : Tr) (zt : Tr) (zm : Tr) (zu : Nat → Int32) (zr : Nat → Int32) (zl : Lr) (zf : Int32) (p1 : Int32) (hx9 : ¬ f_X2_changes_x p1 = 0) : vx_Met l yX2_changes wsX2_changes ({ frames := 7, cells := 1, slots := 6, locals := 121 } : Room) (pcT D cyI cyZ [.ref (ad 0), .int p1] (wZ cyI cyZ ad zb zo zt zm zu zr zl zf)) qFi (xX (f_X2_changes_x p1)) 1 6 nA := by
  refine vx_ofW (cc := cX2_changes) (maxL := 2) (ret := (some .int)) (by decide) rfl ?_
  intro p e s m args below meth c s₁ B hml hnt hv
  obtain ⟨rfl, hP, hG, hz⟩ := hv
  have hx := B.exec
  have hb := B.bytes
  have hr := B.returns
  have hts := atoms_spec (ws := wsX2_changes) B.pre
  have hown : s.vm.findClass RX2 = some m.cls := findClass_of_methodNamed B.named
  have hlocks := B.notSynchronized
  have hS : va_S nA s.heap s.heap [] := va_S.rf
  have hl := lv_entry ([.ref (ad 0), .int p1]) (n := 2) (Nat.le_of_ble_eq_true rfl)
  rw [lg_entry_eq]
  generalize (lg_sl ([.ref (ad 0), .int p1]) ++ List.replicate (2 - (lg_sl ([.ref (ad 0), .int p1])).length) Slot.unset).toArray = ls at hl ⊢
  have hl : lv_has ls 2 [(0, .ref (ad 0)), (1, .int p1)] := hl
  have hP : va_P D vwCl (wZ cyI cyZ ad zb zo zt zm zu zr zl zf) s.heap := hP
  refine lv_aload_n hx hb dX2_changes_0 rfl (lv_at hl 0 rfl) ?_
  refine lv_iload_n hx hb dX2_changes_1 rfl (lv_at hl 1 rfl) ?_
  by_cases c_2_1 : p1 = 1
  · refine pr_r (va_runV (As := [.int p1]) (rest := []) ⟨hx, hb, hml, hown, hts⟩ (k_X2_sideTable_1 l D cyI cyZ ad zb zo zt zm zu zr zl zf p1 c_2_1) (cwV 1 hts gX2_changes_X2_sideTable rfl rfl rfl (by decide +kernel) ⟨Nat.le_of_ble_eq_true rfl, Nat.le_of_ble_eq_true rfl⟩) (prV hG hP (ci := 2) rfl rfl rfl) rfl rfl hl.1 rfl (lv_room (Nat.le_of_ble_eq_true rfl)) dX2_changes_2 ⟨Nat.zero_le _, Nat.zero_le _⟩) hS hP (fun H locs hP hS => ?_)
    refine lv_aload_n hx hb dX2_changes_5 rfl (lv_at hl 0 rfl) ?_
    refine va_get (D := D) (ci := 2) (v := .ref (ad 1)) (C := RX2) (T := TX2) (N := 8) hx hb hts uin_X2_changes_X2 hown hG.1 hP 0 rfl rfl 0 (by decide) (hts (.fieldLink RX2 10 "TableSplice" "base" "LTableSplice$Table;") (List.mem_of_getElem? (i := 1) rfl)) (fun _ h9 => h9) rfl dX2_changes_6 ?_
    refine pr_i (va_runVN (As := [.ref (ad 1)]) (rest := []) ⟨hx, hb, hml, hown, hts⟩ (k_X1_countChangesFrom l D cyI cyZ (ad 4) (ad 5) (ad 6) (ad 1) (ad 2) (ad 3) zo zb) ⟨va_cnB 1 hts gX2_changes_X1_countChangesFrom_n136 rfl rfl rfl (hG.2.1 (RX2, 136, yX1_countChangesFrom, "TableSplice") (List.mem_of_getElem? (i := 25) rfl)) (hts (.initialized RX1) (List.mem_of_getElem? (i := 12) rfl)) (by decide +kernel) ⟨Nat.le_of_ble_eq_true rfl, Nat.le_of_ble_eq_true rfl⟩, hts (.instanceMethod yX1_countChangesFrom) (List.mem_of_getElem? (i := 11) rfl), hts (.selects RX1 yX1_countChangesFrom yX1_countChangesFrom) (List.mem_of_getElem? (i := 13) rfl)⟩ (prV hG (hP.sub (ws' := wU cyI (ad 4) (ad 5) (ad 6) zo (ad 1) (ad 2) (ad 3) zb) [4, 5, 6, 1, 2, 3] rfl) (ci := 1) rfl rfl rfl) rfl rfl hl.1 rfl (lv_room (Nat.le_of_ble_eq_true rfl)) dX2_changes_9 ⟨Nat.zero_le _, Nat.zero_le _⟩) hS hP (fun H locs hP hS => ?_)
    exact absurd (by rw [f_X2_changes_x, if_pos c_2_1]) hx9
  · by_cases c_2_2 : p1 = 2
    · refine pr_r (va_runV (As := [.int p1]) (rest := []) ⟨hx, hb, hml, hown, hts⟩ (k_X2_sideTable_2 l D cyI cyZ ad zb zo zt zm zu zr zl zf p1 c_2_2) (cwV 1 hts gX2_changes_X2_sideTable rfl rfl rfl (by decide +kernel) ⟨Nat.le_of_ble_eq_true rfl, Nat.le_of_ble_eq_true rfl⟩) (prV hG hP (ci := 2) rfl rfl rfl) rfl rfl hl.1 rfl (lv_room (Nat.le_of_ble_eq_true rfl)) dX2_changes_2 ⟨Nat.zero_le _, Nat.zero_le _⟩) hS hP (fun H locs hP hS => ?_)
      refine lv_aload_n hx hb dX2_changes_5 rfl (lv_at hl 0 rfl) ?_
      refine va_get (D := D) (ci := 2) (v := .ref (ad 1)) (C := RX2) (T := TX2) (N := 8) hx hb hts uin_X2_changes_X2 hown hG.1 hP 0 rfl rfl 0 (by decide) (hts (.fieldLink RX2 10 "TableSplice" "base" "LTableSplice$Table;") (List.mem_of_getElem? (i := 1) rfl)) (fun _ h9 => h9) rfl dX2_changes_6 ?_
      refine pr_i (va_runVN (As := [.ref (ad 1)]) (rest := []) ⟨hx, hb, hml, hown, hts⟩ (k_X1_countChangesFrom l D cyI cyZ (ad 7) (ad 8) (ad 9) (ad 1) (ad 2) (ad 3) zt zb) ⟨va_cnB 1 hts gX2_changes_X1_countChangesFrom_n136 rfl rfl rfl (hG.2.1 (RX2, 136, yX1_countChangesFrom, "TableSplice") (List.mem_of_getElem? (i := 25) rfl)) (hts (.initialized RX1) (List.mem_of_getElem? (i := 12) rfl)) (by decide +kernel) ⟨Nat.le_of_ble_eq_true rfl, Nat.le_of_ble_eq_true rfl⟩, hts (.instanceMethod yX1_countChangesFrom) (List.mem_of_getElem? (i := 11) rfl), hts (.selects RX1 yX1_countChangesFrom yX1_countChangesFrom) (List.mem_of_getElem? (i := 13) rfl)⟩ (prV hG (hP.sub (ws' := wU cyI (ad 7) (ad 8) (ad 9) zt (ad 1) (ad 2) (ad 3) zb) [7, 8, 9, 1, 2, 3] rfl) (ci := 1) rfl rfl rfl) rfl rfl hl.1 rfl (lv_room (Nat.le_of_ble_eq_true rfl)) dX2_changes_9 ⟨Nat.zero_le _, Nat.zero_le _⟩) hS hP (fun H locs hP hS => ?_)
      exact absurd (by rw [f_X2_changes_x, if_neg c_2_1, if_pos c_2_2]) hx9
    · have ef : f_X2_changes_x p1 = f_X2_sideTable_x p1 := (by rw [f_X2_changes_x, if_neg c_2_1, if_neg c_2_2] : f_X2_changes_x p1 = 1).trans (st_x c_2_1 c_2_2).symm
      exact vx_callr (vx_runV (As := [.int p1]) (rest := []) ⟨hx, hb, hml, hown, hts⟩ (t_X2_sideTable l hlt D cyI cyZ ad zb zo zt zm zu zr zl zf p1 (by rw [st_x c_2_1 c_2_2]; decide)) (cwV 1 hts gX2_changes_X2_sideTable rfl rfl rfl (by decide +kernel) ⟨Nat.le_of_ble_eq_true rfl, Nat.le_of_ble_eq_true rfl⟩) (ptV hG (hz.kept hS) hP (ci := 2) rfl rfl rfl) rfl rfl hl.1 rfl (lv_room (Nat.le_of_ble_eq_true rfl)) dX2_changes_2 ⟨Nat.le_of_ble_eq_true rfl, Nat.le_of_ble_eq_true rfl⟩) hS (fun _ _ h => h.elim) (fun _ h => h.elim) (fun _ _ h => h.elim) (fun E ce q9 u t H1 locs1 ht _ _ hE _ _ hS1 hce hcv hcl => vx_out (fun x h => (hnt x h).elim) hlocks hce hcv hcl (fun t9 h9 _ => ⟨(), trivial, hE.trans (congrArg xn ef.symm), hS1.F h9⟩) hS1.2.2 (Nat.le_refl _) (Nat.le_refl _)) (fun u ra t H1 locs1 ht hvm h hb9 hz1 hk1 hS1 => h.elim)
def f_X2_kindOf (zl : Lr) (p1 : Int32) : Int32 := if (f_X2_requireConflict_x zl p1) = 0 then f_X0_kindAt zl p1 else (0)
theorem uin_X2_kindOf_X2 : ∀ w ∈ wsX20, w ∈ wsX2_kindOf := fun _ h => List.mem_cons_of_mem _ (List.mem_append_left _ (List.mem_append_left _ (List.mem_append_right _ h)))
theorem uin_X2_kindOf_X0 : ∀ w ∈ wsX00, w ∈ wsX2_kindOf := fun _ h => List.mem_cons_of_mem _ (List.mem_append_left _ (List.mem_append_right _ h))
def f_X2_kindOf_x (zl : Lr) (p1 : Int32) : Nat := if (f_X2_requireConflict_x zl p1) = 0 then 0 else (f_X2_requireConflict_x zl p1)
theorem xin_X2_kindOf_IO : ∀ w ∈ (vx_atS RX2 224 "java/lang/IndexOutOfBoundsException" ["java/lang/RuntimeException", "java/lang/Exception"]).filter goodWord, w ∈ wsX2_kindOf := fun _ h => List.mem_cons_of_mem _ (List.mem_append_right _ h)
set_option maxHeartbeats 4000000 in
set_option maxRecDepth 100000 in
theorem k_X2_kindOf (l : Launch) (D : va_G) (cyI cyZ : ClassId) (ad : Nat → Nat) (zb : Tr) (zo : Tr) (zt : Tr) (zm : Tr) (zu : Nat → Int32) (zr : Nat → Int32) (zl : Lr) (zf : Int32) (p1 : Int32) (hx9 : f_X2_kindOf_x zl p1 = 0) : Met l yX2_kindOf wsX2_kindOf ({ frames := 2, cells := 0, slots := 0, locals := 42 } : Room) (pcP D cyI cyZ [.ref (ad 0), .int p1] (wZ cyI cyZ ad zb zo zt zm zu zr zl zf)) (qI (f_X2_kindOf zl p1)) 0 0 nA := by
  refine Met.ofW (cc := cX2_kindOf) (maxL := 2) (ret := (some .int)) (by decide) rfl ?_
  intro p e s m args below meth c s₁ B hml hv
  obtain ⟨rfl, hP, hG⟩ := hv
  have hx := B.exec
  have hb := B.bytes
  have hr := B.returns
  have hts := atoms_spec (ws := wsX2_kindOf) B.pre
  have hown : s.vm.findClass RX2 = some m.cls := findClass_of_methodNamed B.named
  have hlocks := B.notSynchronized
  have hS : va_S nA s.heap s.heap [] := va_S.rf
  have hl := lv_entry ([.ref (ad 0), .int p1]) (n := 2) (Nat.le_of_ble_eq_true rfl)
  rw [lg_entry_eq]
  generalize (lg_sl ([.ref (ad 0), .int p1]) ++ List.replicate (2 - (lg_sl ([.ref (ad 0), .int p1])).length) Slot.unset).toArray = ls at hl ⊢
  have hl : lv_has ls 2 [(0, .ref (ad 0)), (1, .int p1)] := hl
  have hP : va_P D vwCl (wZ cyI cyZ ad zb zo zt zm zu zr zl zf) s.heap := hP
  refine lv_aload_n hx hb dX2_kindOf_0 rfl (lv_at hl 0 rfl) ?_
  refine lv_iload_n hx hb dX2_kindOf_1 rfl (lv_at hl 1 rfl) ?_
  by_cases c_2 : (f_X2_requireConflict_x zl p1) = 0
  · refine pr_v (va_runV (As := [.int p1]) (rest := []) ⟨hx, hb, hml, hown, hts⟩ (k_X2_requireConflict l D cyI cyZ ad zb zo zt zm zu zr zl zf p1 c_2) (cwV 1 hts gX2_kindOf_X2_requireConflict rfl rfl rfl (by decide +kernel) ⟨Nat.le_of_ble_eq_true rfl, Nat.le_of_ble_eq_true rfl⟩) (prV hG hP (ci := 2) rfl rfl rfl) rfl rfl hl.1 rfl (lv_room (Nat.le_of_ble_eq_true rfl)) dX2_kindOf_2 ⟨Nat.zero_le _, Nat.zero_le _⟩) hS hP (fun H locs hP hS => ?_)
    refine lv_aload_n hx hb dX2_kindOf_5 rfl (lv_at hl 0 rfl) ?_
    refine va_get (D := D) (ci := 2) (v := .ref (ad 15)) (C := RX2) (T := TX2) (N := 8) hx hb hts uin_X2_kindOf_X2 hown hG.1 hP 0 rfl rfl 6 (by decide) (hts (.fieldLink RX2 36 "TableSplice" "list" "LTableSplice$ConflictList;") (List.mem_of_getElem? (i := 1) rfl)) (fun _ h9 => h9) rfl dX2_kindOf_6 ?_
    refine lv_iload_n hx hb dX2_kindOf_9 rfl (lv_at hl 1 rfl) ?_
    refine pr_i (va_runVN (As := [.int p1]) (rest := []) ⟨hx, hb, hml, hown, hts⟩ (k_X0_kindAt l D cyI cyZ (ad 15) (ad 16) (ad 17) (ad 18) (ad 19) zl p1) ⟨va_cnB 1 hts gX2_kindOf_X0_kindAt_n199 rfl rfl rfl (hG.2.1 (RX2, 199, yX0_kindAt, "TableSplice") (List.mem_of_getElem? (i := 28) rfl)) (hts (.initialized RX0) (List.mem_of_getElem? (i := 10) rfl)) (by decide +kernel) ⟨Nat.le_of_ble_eq_true rfl, Nat.le_of_ble_eq_true rfl⟩, hts (.instanceMethod yX0_kindAt) (List.mem_of_getElem? (i := 14) rfl), hts (.selects RX0 yX0_kindAt yX0_kindAt) (List.mem_of_getElem? (i := 15) rfl)⟩ (prV hG (hP.sub (ws' := wL cyI cyZ (ad 15) (ad 16) (ad 17) (ad 18) (ad 19) zl) [15, 16, 17, 18, 19] rfl) (ci := 0) rfl rfl rfl) rfl rfl hl.1 rfl (lv_room (Nat.le_of_ble_eq_true rfl)) dX2_kindOf_10 ⟨Nat.zero_le _, Nat.zero_le _⟩) hS hP (fun H locs hP hS => ?_)
    have ef : f_X2_kindOf zl p1 = f_X0_kindAt zl p1 := by rw [f_X2_kindOf, if_pos c_2]
    exact W.iret (v := f_X0_kindAt zl p1) hx hb hr (fun t ht hW => ⟨⟨f_X0_kindAt zl p1, (), rfl, ef.symm, trivial⟩, hS.F ht⟩) hS.2.2 dX2_kindOf_13
  · exact absurd hx9 (by rw [f_X2_kindOf_x, if_neg c_2]; exact c_2)
set_option maxHeartbeats 4000000 in
set_option maxRecDepth 100000 in
theorem t_X2_kindOf (l : Launch) (hlt : l.stackTraces = false) (D : va_G) (cyI cyZ : ClassId) (ad : Nat → Nat) (zb : Tr) (zo : Tr) (zt : Tr) (zm : Tr) (zu : Nat → Int32) (zr : Nat → Int32) (zl : Lr) (zf : Int32) (p1 : Int32) (hx9 : ¬ f_X2_kindOf_x zl p1 = 0) : vx_Met l yX2_kindOf wsX2_kindOf ({ frames := 7, cells := 1, slots := 6, locals := 121 } : Room) (pcT D cyI cyZ [.ref (ad 0), .int p1] (wZ cyI cyZ ad zb zo zt zm zu zr zl zf)) qFi (xX (f_X2_kindOf_x zl p1)) 1 6 nA := by
  refine vx_ofW (cc := cX2_kindOf) (maxL := 2) (ret := (some .int)) (by decide) rfl ?_
  intro p e s m args below meth c s₁ B hml hnt hv
  obtain ⟨rfl, hP, hG, hz⟩ := hv
  have hx := B.exec
  have hb := B.bytes
  have hr := B.returns
  have hts := atoms_spec (ws := wsX2_kindOf) B.pre
  have hown : s.vm.findClass RX2 = some m.cls := findClass_of_methodNamed B.named
  have hlocks := B.notSynchronized
  have hS : va_S nA s.heap s.heap [] := va_S.rf
  have hl := lv_entry ([.ref (ad 0), .int p1]) (n := 2) (Nat.le_of_ble_eq_true rfl)
  rw [lg_entry_eq]
  generalize (lg_sl ([.ref (ad 0), .int p1]) ++ List.replicate (2 - (lg_sl ([.ref (ad 0), .int p1])).length) Slot.unset).toArray = ls at hl ⊢
  have hl : lv_has ls 2 [(0, .ref (ad 0)), (1, .int p1)] := hl
  have hP : va_P D vwCl (wZ cyI cyZ ad zb zo zt zm zu zr zl zf) s.heap := hP
  refine lv_aload_n hx hb dX2_kindOf_0 rfl (lv_at hl 0 rfl) ?_
  refine lv_iload_n hx hb dX2_kindOf_1 rfl (lv_at hl 1 rfl) ?_
  by_cases c_2 : (f_X2_requireConflict_x zl p1) = 0
  · refine pr_v (va_runV (As := [.int p1]) (rest := []) ⟨hx, hb, hml, hown, hts⟩ (k_X2_requireConflict l D cyI cyZ ad zb zo zt zm zu zr zl zf p1 c_2) (cwV 1 hts gX2_kindOf_X2_requireConflict rfl rfl rfl (by decide +kernel) ⟨Nat.le_of_ble_eq_true rfl, Nat.le_of_ble_eq_true rfl⟩) (prV hG hP (ci := 2) rfl rfl rfl) rfl rfl hl.1 rfl (lv_room (Nat.le_of_ble_eq_true rfl)) dX2_kindOf_2 ⟨Nat.zero_le _, Nat.zero_le _⟩) hS hP (fun H locs hP hS => ?_)
    refine lv_aload_n hx hb dX2_kindOf_5 rfl (lv_at hl 0 rfl) ?_
    refine va_get (D := D) (ci := 2) (v := .ref (ad 15)) (C := RX2) (T := TX2) (N := 8) hx hb hts uin_X2_kindOf_X2 hown hG.1 hP 0 rfl rfl 6 (by decide) (hts (.fieldLink RX2 36 "TableSplice" "list" "LTableSplice$ConflictList;") (List.mem_of_getElem? (i := 1) rfl)) (fun _ h9 => h9) rfl dX2_kindOf_6 ?_
    refine lv_iload_n hx hb dX2_kindOf_9 rfl (lv_at hl 1 rfl) ?_
    refine pr_i (va_runVN (As := [.int p1]) (rest := []) ⟨hx, hb, hml, hown, hts⟩ (k_X0_kindAt l D cyI cyZ (ad 15) (ad 16) (ad 17) (ad 18) (ad 19) zl p1) ⟨va_cnB 1 hts gX2_kindOf_X0_kindAt_n199 rfl rfl rfl (hG.2.1 (RX2, 199, yX0_kindAt, "TableSplice") (List.mem_of_getElem? (i := 28) rfl)) (hts (.initialized RX0) (List.mem_of_getElem? (i := 10) rfl)) (by decide +kernel) ⟨Nat.le_of_ble_eq_true rfl, Nat.le_of_ble_eq_true rfl⟩, hts (.instanceMethod yX0_kindAt) (List.mem_of_getElem? (i := 14) rfl), hts (.selects RX0 yX0_kindAt yX0_kindAt) (List.mem_of_getElem? (i := 15) rfl)⟩ (prV hG (hP.sub (ws' := wL cyI cyZ (ad 15) (ad 16) (ad 17) (ad 18) (ad 19) zl) [15, 16, 17, 18, 19] rfl) (ci := 0) rfl rfl rfl) rfl rfl hl.1 rfl (lv_room (Nat.le_of_ble_eq_true rfl)) dX2_kindOf_10 ⟨Nat.zero_le _, Nat.zero_le _⟩) hS hP (fun H locs hP hS => ?_)
    exact absurd (by rw [f_X2_kindOf_x, if_pos c_2]) hx9
  · have ef : f_X2_kindOf_x zl p1 = f_X2_requireConflict_x zl p1 := by rw [f_X2_kindOf_x, if_neg c_2]
    exact vx_callv (vx_runV (As := [.int p1]) (rest := []) ⟨hx, hb, hml, hown, hts⟩ (t_X2_requireConflict l hlt D cyI cyZ ad zb zo zt zm zu zr zl zf p1 c_2) (cwV 1 hts gX2_kindOf_X2_requireConflict rfl rfl rfl (by decide +kernel) ⟨Nat.le_of_ble_eq_true rfl, Nat.le_of_ble_eq_true rfl⟩) (ptV hG (hz.kept hS) hP (ci := 2) rfl rfl rfl) rfl rfl hl.1 rfl (lv_room (Nat.le_of_ble_eq_true rfl)) dX2_kindOf_2 ⟨Nat.le_of_ble_eq_true rfl, Nat.le_of_ble_eq_true rfl⟩) hS (fun _ _ h => h.elim) (fun _ h => h.elim) (fun _ _ h => h.elim) (fun E ce q9 u t H1 locs1 ht _ _ hE _ _ hS1 hce hcv hcl => vx_out (fun x h => (hnt x h).elim) hlocks hce hcv hcl (fun t9 h9 _ => ⟨(), trivial, hE.trans (congrArg xn ef.symm), hS1.F h9⟩) hS1.2.2 (Nat.le_refl _) (Nat.le_refl _)) (fun u t H1 locs1 ht hvm h hb9 hz1 hk1 hS1 => h.elim)
def f_X2_keyOf (zl : Lr) (p1 : Int32) : Int32 := if (f_X2_requireConflict_x zl p1) = 0 then f_X0_keyAt zl p1 else (0)
theorem uin_X2_keyOf_X2 : ∀ w ∈ wsX20, w ∈ wsX2_keyOf := fun _ h => List.mem_cons_of_mem _ (List.mem_append_left _ (List.mem_append_left _ (List.mem_append_right _ h)))
theorem uin_X2_keyOf_X0 : ∀ w ∈ wsX00, w ∈ wsX2_keyOf := fun _ h => List.mem_cons_of_mem _ (List.mem_append_left _ (List.mem_append_right _ h))
def f_X2_keyOf_x (zl : Lr) (p1 : Int32) : Nat := if (f_X2_requireConflict_x zl p1) = 0 then 0 else (f_X2_requireConflict_x zl p1)
theorem xin_X2_keyOf_IO : ∀ w ∈ (vx_atS RX2 224 "java/lang/IndexOutOfBoundsException" ["java/lang/RuntimeException", "java/lang/Exception"]).filter goodWord, w ∈ wsX2_keyOf := fun _ h => List.mem_cons_of_mem _ (List.mem_append_right _ h)
set_option maxHeartbeats 4000000 in
set_option maxRecDepth 100000 in
theorem k_X2_keyOf (l : Launch) (D : va_G) (cyI cyZ : ClassId) (ad : Nat → Nat) (zb : Tr) (zo : Tr) (zt : Tr) (zm : Tr) (zu : Nat → Int32) (zr : Nat → Int32) (zl : Lr) (zf : Int32) (p1 : Int32) (hx9 : f_X2_keyOf_x zl p1 = 0) : Met l yX2_keyOf wsX2_keyOf ({ frames := 2, cells := 0, slots := 0, locals := 42 } : Room) (pcP D cyI cyZ [.ref (ad 0), .int p1] (wZ cyI cyZ ad zb zo zt zm zu zr zl zf)) (qI (f_X2_keyOf zl p1)) 0 0 nA := by
  refine Met.ofW (cc := cX2_keyOf) (maxL := 2) (ret := (some .int)) (by decide) rfl ?_
  intro p e s m args below meth c s₁ B hml hv
  obtain ⟨rfl, hP, hG⟩ := hv
  have hx := B.exec
  have hb := B.bytes
  have hr := B.returns
  have hts := atoms_spec (ws := wsX2_keyOf) B.pre
  have hown : s.vm.findClass RX2 = some m.cls := findClass_of_methodNamed B.named
  have hlocks := B.notSynchronized
  have hS : va_S nA s.heap s.heap [] := va_S.rf
  have hl := lv_entry ([.ref (ad 0), .int p1]) (n := 2) (Nat.le_of_ble_eq_true rfl)
  rw [lg_entry_eq]
  generalize (lg_sl ([.ref (ad 0), .int p1]) ++ List.replicate (2 - (lg_sl ([.ref (ad 0), .int p1])).length) Slot.unset).toArray = ls at hl ⊢
  have hl : lv_has ls 2 [(0, .ref (ad 0)), (1, .int p1)] := hl
  have hP : va_P D vwCl (wZ cyI cyZ ad zb zo zt zm zu zr zl zf) s.heap := hP
  refine lv_aload_n hx hb dX2_keyOf_0 rfl (lv_at hl 0 rfl) ?_
  refine lv_iload_n hx hb dX2_keyOf_1 rfl (lv_at hl 1 rfl) ?_
  by_cases c_2 : (f_X2_requireConflict_x zl p1) = 0
  · refine pr_v (va_runV (As := [.int p1]) (rest := []) ⟨hx, hb, hml, hown, hts⟩ (k_X2_requireConflict l D cyI cyZ ad zb zo zt zm zu zr zl zf p1 c_2) (cwV 1 hts gX2_keyOf_X2_requireConflict rfl rfl rfl (by decide +kernel) ⟨Nat.le_of_ble_eq_true rfl, Nat.le_of_ble_eq_true rfl⟩) (prV hG hP (ci := 2) rfl rfl rfl) rfl rfl hl.1 rfl (lv_room (Nat.le_of_ble_eq_true rfl)) dX2_keyOf_2 ⟨Nat.zero_le _, Nat.zero_le _⟩) hS hP (fun H locs hP hS => ?_)
    refine lv_aload_n hx hb dX2_keyOf_5 rfl (lv_at hl 0 rfl) ?_
    refine va_get (D := D) (ci := 2) (v := .ref (ad 15)) (C := RX2) (T := TX2) (N := 8) hx hb hts uin_X2_keyOf_X2 hown hG.1 hP 0 rfl rfl 6 (by decide) (hts (.fieldLink RX2 36 "TableSplice" "list" "LTableSplice$ConflictList;") (List.mem_of_getElem? (i := 1) rfl)) (fun _ h9 => h9) rfl dX2_keyOf_6 ?_
    refine lv_iload_n hx hb dX2_keyOf_9 rfl (lv_at hl 1 rfl) ?_
    refine pr_i (va_runVN (As := [.int p1]) (rest := []) ⟨hx, hb, hml, hown, hts⟩ (k_X0_keyAt l D cyI cyZ (ad 15) (ad 16) (ad 17) (ad 18) (ad 19) zl p1) ⟨va_cnB 1 hts gX2_keyOf_X0_keyAt_n202 rfl rfl rfl (hG.2.1 (RX2, 202, yX0_keyAt, "TableSplice") (List.mem_of_getElem? (i := 29) rfl)) (hts (.initialized RX0) (List.mem_of_getElem? (i := 10) rfl)) (by decide +kernel) ⟨Nat.le_of_ble_eq_true rfl, Nat.le_of_ble_eq_true rfl⟩, hts (.instanceMethod yX0_keyAt) (List.mem_of_getElem? (i := 14) rfl), hts (.selects RX0 yX0_keyAt yX0_keyAt) (List.mem_of_getElem? (i := 15) rfl)⟩ (prV hG (hP.sub (ws' := wL cyI cyZ (ad 15) (ad 16) (ad 17) (ad 18) (ad 19) zl) [15, 16, 17, 18, 19] rfl) (ci := 0) rfl rfl rfl) rfl rfl hl.1 rfl (lv_room (Nat.le_of_ble_eq_true rfl)) dX2_keyOf_10 ⟨Nat.zero_le _, Nat.zero_le _⟩) hS hP (fun H locs hP hS => ?_)
    have ef : f_X2_keyOf zl p1 = f_X0_keyAt zl p1 := by rw [f_X2_keyOf, if_pos c_2]
    exact W.iret (v := f_X0_keyAt zl p1) hx hb hr (fun t ht hW => ⟨⟨f_X0_keyAt zl p1, (), rfl, ef.symm, trivial⟩, hS.F ht⟩) hS.2.2 dX2_keyOf_13
  · exact absurd hx9 (by rw [f_X2_keyOf_x, if_neg c_2]; exact c_2)
set_option maxHeartbeats 4000000 in
set_option maxRecDepth 100000 in
theorem t_X2_keyOf (l : Launch) (hlt : l.stackTraces = false) (D : va_G) (cyI cyZ : ClassId) (ad : Nat → Nat) (zb : Tr) (zo : Tr) (zt : Tr) (zm : Tr) (zu : Nat → Int32) (zr : Nat → Int32) (zl : Lr) (zf : Int32) (p1 : Int32) (hx9 : ¬ f_X2_keyOf_x zl p1 = 0) : vx_Met l yX2_keyOf wsX2_keyOf ({ frames := 7, cells := 1, slots := 6, locals := 121 } : Room) (pcT D cyI cyZ [.ref (ad 0), .int p1] (wZ cyI cyZ ad zb zo zt zm zu zr zl zf)) qFi (xX (f_X2_keyOf_x zl p1)) 1 6 nA := by
  refine vx_ofW (cc := cX2_keyOf) (maxL := 2) (ret := (some .int)) (by decide) rfl ?_
  intro p e s m args below meth c s₁ B hml hnt hv
  obtain ⟨rfl, hP, hG, hz⟩ := hv
  have hx := B.exec
  have hb := B.bytes
  have hr := B.returns
  have hts := atoms_spec (ws := wsX2_keyOf) B.pre
  have hown : s.vm.findClass RX2 = some m.cls := findClass_of_methodNamed B.named
  have hlocks := B.notSynchronized
  have hS : va_S nA s.heap s.heap [] := va_S.rf
  have hl := lv_entry ([.ref (ad 0), .int p1]) (n := 2) (Nat.le_of_ble_eq_true rfl)
  rw [lg_entry_eq]
  generalize (lg_sl ([.ref (ad 0), .int p1]) ++ List.replicate (2 - (lg_sl ([.ref (ad 0), .int p1])).length) Slot.unset).toArray = ls at hl ⊢
  have hl : lv_has ls 2 [(0, .ref (ad 0)), (1, .int p1)] := hl
  have hP : va_P D vwCl (wZ cyI cyZ ad zb zo zt zm zu zr zl zf) s.heap := hP
  refine lv_aload_n hx hb dX2_keyOf_0 rfl (lv_at hl 0 rfl) ?_
  refine lv_iload_n hx hb dX2_keyOf_1 rfl (lv_at hl 1 rfl) ?_
  by_cases c_2 : (f_X2_requireConflict_x zl p1) = 0
  · refine pr_v (va_runV (As := [.int p1]) (rest := []) ⟨hx, hb, hml, hown, hts⟩ (k_X2_requireConflict l D cyI cyZ ad zb zo zt zm zu zr zl zf p1 c_2) (cwV 1 hts gX2_keyOf_X2_requireConflict rfl rfl rfl (by decide +kernel) ⟨Nat.le_of_ble_eq_true rfl, Nat.le_of_ble_eq_true rfl⟩) (prV hG hP (ci := 2) rfl rfl rfl) rfl rfl hl.1 rfl (lv_room (Nat.le_of_ble_eq_true rfl)) dX2_keyOf_2 ⟨Nat.zero_le _, Nat.zero_le _⟩) hS hP (fun H locs hP hS => ?_)
    refine lv_aload_n hx hb dX2_keyOf_5 rfl (lv_at hl 0 rfl) ?_
    refine va_get (D := D) (ci := 2) (v := .ref (ad 15)) (C := RX2) (T := TX2) (N := 8) hx hb hts uin_X2_keyOf_X2 hown hG.1 hP 0 rfl rfl 6 (by decide) (hts (.fieldLink RX2 36 "TableSplice" "list" "LTableSplice$ConflictList;") (List.mem_of_getElem? (i := 1) rfl)) (fun _ h9 => h9) rfl dX2_keyOf_6 ?_
    refine lv_iload_n hx hb dX2_keyOf_9 rfl (lv_at hl 1 rfl) ?_
    refine pr_i (va_runVN (As := [.int p1]) (rest := []) ⟨hx, hb, hml, hown, hts⟩ (k_X0_keyAt l D cyI cyZ (ad 15) (ad 16) (ad 17) (ad 18) (ad 19) zl p1) ⟨va_cnB 1 hts gX2_keyOf_X0_keyAt_n202 rfl rfl rfl (hG.2.1 (RX2, 202, yX0_keyAt, "TableSplice") (List.mem_of_getElem? (i := 29) rfl)) (hts (.initialized RX0) (List.mem_of_getElem? (i := 10) rfl)) (by decide +kernel) ⟨Nat.le_of_ble_eq_true rfl, Nat.le_of_ble_eq_true rfl⟩, hts (.instanceMethod yX0_keyAt) (List.mem_of_getElem? (i := 14) rfl), hts (.selects RX0 yX0_keyAt yX0_keyAt) (List.mem_of_getElem? (i := 15) rfl)⟩ (prV hG (hP.sub (ws' := wL cyI cyZ (ad 15) (ad 16) (ad 17) (ad 18) (ad 19) zl) [15, 16, 17, 18, 19] rfl) (ci := 0) rfl rfl rfl) rfl rfl hl.1 rfl (lv_room (Nat.le_of_ble_eq_true rfl)) dX2_keyOf_10 ⟨Nat.zero_le _, Nat.zero_le _⟩) hS hP (fun H locs hP hS => ?_)
    exact absurd (by rw [f_X2_keyOf_x, if_pos c_2]) hx9
  · have ef : f_X2_keyOf_x zl p1 = f_X2_requireConflict_x zl p1 := by rw [f_X2_keyOf_x, if_neg c_2]
    exact vx_callv (vx_runV (As := [.int p1]) (rest := []) ⟨hx, hb, hml, hown, hts⟩ (t_X2_requireConflict l hlt D cyI cyZ ad zb zo zt zm zu zr zl zf p1 c_2) (cwV 1 hts gX2_keyOf_X2_requireConflict rfl rfl rfl (by decide +kernel) ⟨Nat.le_of_ble_eq_true rfl, Nat.le_of_ble_eq_true rfl⟩) (ptV hG (hz.kept hS) hP (ci := 2) rfl rfl rfl) rfl rfl hl.1 rfl (lv_room (Nat.le_of_ble_eq_true rfl)) dX2_keyOf_2 ⟨Nat.le_of_ble_eq_true rfl, Nat.le_of_ble_eq_true rfl⟩) hS (fun _ _ h => h.elim) (fun _ h => h.elim) (fun _ _ h => h.elim) (fun E ce q9 u t H1 locs1 ht _ _ hE _ _ hS1 hce hcv hcl => vx_out (fun x h => (hnt x h).elim) hlocks hce hcv hcl (fun t9 h9 _ => ⟨(), trivial, hE.trans (congrArg xn ef.symm), hS1.F h9⟩) hS1.2.2 (Nat.le_refl _) (Nat.le_refl _)) (fun u t H1 locs1 ht hvm h hb9 hz1 hk1 hS1 => h.elim)
def f_X2_columnOf (zl : Lr) (p1 : Int32) : Int32 := if (f_X2_requireConflict_x zl p1) = 0 then f_X0_columnAt zl p1 else (0)
theorem uin_X2_columnOf_X2 : ∀ w ∈ wsX20, w ∈ wsX2_columnOf := fun _ h => List.mem_cons_of_mem _ (List.mem_append_left _ (List.mem_append_left _ (List.mem_append_right _ h)))
theorem uin_X2_columnOf_X0 : ∀ w ∈ wsX00, w ∈ wsX2_columnOf := fun _ h => List.mem_cons_of_mem _ (List.mem_append_left _ (List.mem_append_right _ h))
def f_X2_columnOf_x (zl : Lr) (p1 : Int32) : Nat := if (f_X2_requireConflict_x zl p1) = 0 then 0 else (f_X2_requireConflict_x zl p1)
theorem xin_X2_columnOf_IO : ∀ w ∈ (vx_atS RX2 224 "java/lang/IndexOutOfBoundsException" ["java/lang/RuntimeException", "java/lang/Exception"]).filter goodWord, w ∈ wsX2_columnOf := fun _ h => List.mem_cons_of_mem _ (List.mem_append_right _ h)
set_option maxHeartbeats 4000000 in
set_option maxRecDepth 100000 in
theorem k_X2_columnOf (l : Launch) (D : va_G) (cyI cyZ : ClassId) (ad : Nat → Nat) (zb : Tr) (zo : Tr) (zt : Tr) (zm : Tr) (zu : Nat → Int32) (zr : Nat → Int32) (zl : Lr) (zf : Int32) (p1 : Int32) (hx9 : f_X2_columnOf_x zl p1 = 0) : Met l yX2_columnOf wsX2_columnOf ({ frames := 2, cells := 0, slots := 0, locals := 42 } : Room) (pcP D cyI cyZ [.ref (ad 0), .int p1] (wZ cyI cyZ ad zb zo zt zm zu zr zl zf)) (qI (f_X2_columnOf zl p1)) 0 0 nA := by
  refine Met.ofW (cc := cX2_columnOf) (maxL := 2) (ret := (some .int)) (by decide) rfl ?_
  intro p e s m args below meth c s₁ B hml hv
  obtain ⟨rfl, hP, hG⟩ := hv
  have hx := B.exec
  have hb := B.bytes
  have hr := B.returns
  have hts := atoms_spec (ws := wsX2_columnOf) B.pre
  have hown : s.vm.findClass RX2 = some m.cls := findClass_of_methodNamed B.named
  have hlocks := B.notSynchronized
  have hS : va_S nA s.heap s.heap [] := va_S.rf
  have hl := lv_entry ([.ref (ad 0), .int p1]) (n := 2) (Nat.le_of_ble_eq_true rfl)
  rw [lg_entry_eq]
  generalize (lg_sl ([.ref (ad 0), .int p1]) ++ List.replicate (2 - (lg_sl ([.ref (ad 0), .int p1])).length) Slot.unset).toArray = ls at hl ⊢
  have hl : lv_has ls 2 [(0, .ref (ad 0)), (1, .int p1)] := hl
  have hP : va_P D vwCl (wZ cyI cyZ ad zb zo zt zm zu zr zl zf) s.heap := hP
  refine lv_aload_n hx hb dX2_columnOf_0 rfl (lv_at hl 0 rfl) ?_
  refine lv_iload_n hx hb dX2_columnOf_1 rfl (lv_at hl 1 rfl) ?_
  by_cases c_2 : (f_X2_requireConflict_x zl p1) = 0
  · refine pr_v (va_runV (As := [.int p1]) (rest := []) ⟨hx, hb, hml, hown, hts⟩ (k_X2_requireConflict l D cyI cyZ ad zb zo zt zm zu zr zl zf p1 c_2) (cwV 1 hts gX2_columnOf_X2_requireConflict rfl rfl rfl (by decide +kernel) ⟨Nat.le_of_ble_eq_true rfl, Nat.le_of_ble_eq_true rfl⟩) (prV hG hP (ci := 2) rfl rfl rfl) rfl rfl hl.1 rfl (lv_room (Nat.le_of_ble_eq_true rfl)) dX2_columnOf_2 ⟨Nat.zero_le _, Nat.zero_le _⟩) hS hP (fun H locs hP hS => ?_)
    refine lv_aload_n hx hb dX2_columnOf_5 rfl (lv_at hl 0 rfl) ?_
    refine va_get (D := D) (ci := 2) (v := .ref (ad 15)) (C := RX2) (T := TX2) (N := 8) hx hb hts uin_X2_columnOf_X2 hown hG.1 hP 0 rfl rfl 6 (by decide) (hts (.fieldLink RX2 36 "TableSplice" "list" "LTableSplice$ConflictList;") (List.mem_of_getElem? (i := 1) rfl)) (fun _ h9 => h9) rfl dX2_columnOf_6 ?_
    refine lv_iload_n hx hb dX2_columnOf_9 rfl (lv_at hl 1 rfl) ?_
    refine pr_i (va_runVN (As := [.int p1]) (rest := []) ⟨hx, hb, hml, hown, hts⟩ (k_X0_columnAt l D cyI cyZ (ad 15) (ad 16) (ad 17) (ad 18) (ad 19) zl p1) ⟨va_cnB 1 hts gX2_columnOf_X0_columnAt_n205 rfl rfl rfl (hG.2.1 (RX2, 205, yX0_columnAt, "TableSplice") (List.mem_of_getElem? (i := 30) rfl)) (hts (.initialized RX0) (List.mem_of_getElem? (i := 10) rfl)) (by decide +kernel) ⟨Nat.le_of_ble_eq_true rfl, Nat.le_of_ble_eq_true rfl⟩, hts (.instanceMethod yX0_columnAt) (List.mem_of_getElem? (i := 14) rfl), hts (.selects RX0 yX0_columnAt yX0_columnAt) (List.mem_of_getElem? (i := 15) rfl)⟩ (prV hG (hP.sub (ws' := wL cyI cyZ (ad 15) (ad 16) (ad 17) (ad 18) (ad 19) zl) [15, 16, 17, 18, 19] rfl) (ci := 0) rfl rfl rfl) rfl rfl hl.1 rfl (lv_room (Nat.le_of_ble_eq_true rfl)) dX2_columnOf_10 ⟨Nat.zero_le _, Nat.zero_le _⟩) hS hP (fun H locs hP hS => ?_)
    have ef : f_X2_columnOf zl p1 = f_X0_columnAt zl p1 := by rw [f_X2_columnOf, if_pos c_2]
    exact W.iret (v := f_X0_columnAt zl p1) hx hb hr (fun t ht hW => ⟨⟨f_X0_columnAt zl p1, (), rfl, ef.symm, trivial⟩, hS.F ht⟩) hS.2.2 dX2_columnOf_13
  · exact absurd hx9 (by rw [f_X2_columnOf_x, if_neg c_2]; exact c_2)
set_option maxHeartbeats 4000000 in
set_option maxRecDepth 100000 in
theorem t_X2_columnOf (l : Launch) (hlt : l.stackTraces = false) (D : va_G) (cyI cyZ : ClassId) (ad : Nat → Nat) (zb : Tr) (zo : Tr) (zt : Tr) (zm : Tr) (zu : Nat → Int32) (zr : Nat → Int32) (zl : Lr) (zf : Int32) (p1 : Int32) (hx9 : ¬ f_X2_columnOf_x zl p1 = 0) : vx_Met l yX2_columnOf wsX2_columnOf ({ frames := 7, cells := 1, slots := 6, locals := 121 } : Room) (pcT D cyI cyZ [.ref (ad 0), .int p1] (wZ cyI cyZ ad zb zo zt zm zu zr zl zf)) qFi (xX (f_X2_columnOf_x zl p1)) 1 6 nA := by
  refine vx_ofW (cc := cX2_columnOf) (maxL := 2) (ret := (some .int)) (by decide) rfl ?_
  intro p e s m args below meth c s₁ B hml hnt hv
  obtain ⟨rfl, hP, hG, hz⟩ := hv
  have hx := B.exec
  have hb := B.bytes
  have hr := B.returns
  have hts := atoms_spec (ws := wsX2_columnOf) B.pre
  have hown : s.vm.findClass RX2 = some m.cls := findClass_of_methodNamed B.named
  have hlocks := B.notSynchronized
  have hS : va_S nA s.heap s.heap [] := va_S.rf
  have hl := lv_entry ([.ref (ad 0), .int p1]) (n := 2) (Nat.le_of_ble_eq_true rfl)
  rw [lg_entry_eq]
  generalize (lg_sl ([.ref (ad 0), .int p1]) ++ List.replicate (2 - (lg_sl ([.ref (ad 0), .int p1])).length) Slot.unset).toArray = ls at hl ⊢
  have hl : lv_has ls 2 [(0, .ref (ad 0)), (1, .int p1)] := hl
  have hP : va_P D vwCl (wZ cyI cyZ ad zb zo zt zm zu zr zl zf) s.heap := hP
  refine lv_aload_n hx hb dX2_columnOf_0 rfl (lv_at hl 0 rfl) ?_
  refine lv_iload_n hx hb dX2_columnOf_1 rfl (lv_at hl 1 rfl) ?_
  by_cases c_2 : (f_X2_requireConflict_x zl p1) = 0
  · refine pr_v (va_runV (As := [.int p1]) (rest := []) ⟨hx, hb, hml, hown, hts⟩ (k_X2_requireConflict l D cyI cyZ ad zb zo zt zm zu zr zl zf p1 c_2) (cwV 1 hts gX2_columnOf_X2_requireConflict rfl rfl rfl (by decide +kernel) ⟨Nat.le_of_ble_eq_true rfl, Nat.le_of_ble_eq_true rfl⟩) (prV hG hP (ci := 2) rfl rfl rfl) rfl rfl hl.1 rfl (lv_room (Nat.le_of_ble_eq_true rfl)) dX2_columnOf_2 ⟨Nat.zero_le _, Nat.zero_le _⟩) hS hP (fun H locs hP hS => ?_)
    refine lv_aload_n hx hb dX2_columnOf_5 rfl (lv_at hl 0 rfl) ?_
    refine va_get (D := D) (ci := 2) (v := .ref (ad 15)) (C := RX2) (T := TX2) (N := 8) hx hb hts uin_X2_columnOf_X2 hown hG.1 hP 0 rfl rfl 6 (by decide) (hts (.fieldLink RX2 36 "TableSplice" "list" "LTableSplice$ConflictList;") (List.mem_of_getElem? (i := 1) rfl)) (fun _ h9 => h9) rfl dX2_columnOf_6 ?_
    refine lv_iload_n hx hb dX2_columnOf_9 rfl (lv_at hl 1 rfl) ?_
    refine pr_i (va_runVN (As := [.int p1]) (rest := []) ⟨hx, hb, hml, hown, hts⟩ (k_X0_columnAt l D cyI cyZ (ad 15) (ad 16) (ad 17) (ad 18) (ad 19) zl p1) ⟨va_cnB 1 hts gX2_columnOf_X0_columnAt_n205 rfl rfl rfl (hG.2.1 (RX2, 205, yX0_columnAt, "TableSplice") (List.mem_of_getElem? (i := 30) rfl)) (hts (.initialized RX0) (List.mem_of_getElem? (i := 10) rfl)) (by decide +kernel) ⟨Nat.le_of_ble_eq_true rfl, Nat.le_of_ble_eq_true rfl⟩, hts (.instanceMethod yX0_columnAt) (List.mem_of_getElem? (i := 14) rfl), hts (.selects RX0 yX0_columnAt yX0_columnAt) (List.mem_of_getElem? (i := 15) rfl)⟩ (prV hG (hP.sub (ws' := wL cyI cyZ (ad 15) (ad 16) (ad 17) (ad 18) (ad 19) zl) [15, 16, 17, 18, 19] rfl) (ci := 0) rfl rfl rfl) rfl rfl hl.1 rfl (lv_room (Nat.le_of_ble_eq_true rfl)) dX2_columnOf_10 ⟨Nat.zero_le _, Nat.zero_le _⟩) hS hP (fun H locs hP hS => ?_)
    exact absurd (by rw [f_X2_columnOf_x, if_pos c_2]) hx9
  · have ef : f_X2_columnOf_x zl p1 = f_X2_requireConflict_x zl p1 := by rw [f_X2_columnOf_x, if_neg c_2]
    exact vx_callv (vx_runV (As := [.int p1]) (rest := []) ⟨hx, hb, hml, hown, hts⟩ (t_X2_requireConflict l hlt D cyI cyZ ad zb zo zt zm zu zr zl zf p1 c_2) (cwV 1 hts gX2_columnOf_X2_requireConflict rfl rfl rfl (by decide +kernel) ⟨Nat.le_of_ble_eq_true rfl, Nat.le_of_ble_eq_true rfl⟩) (ptV hG (hz.kept hS) hP (ci := 2) rfl rfl rfl) rfl rfl hl.1 rfl (lv_room (Nat.le_of_ble_eq_true rfl)) dX2_columnOf_2 ⟨Nat.le_of_ble_eq_true rfl, Nat.le_of_ble_eq_true rfl⟩) hS (fun _ _ h => h.elim) (fun _ h => h.elim) (fun _ _ h => h.elim) (fun E ce q9 u t H1 locs1 ht _ _ hE _ _ hS1 hce hcv hcl => vx_out (fun x h => (hnt x h).elim) hlocks hce hcv hcl (fun t9 h9 _ => ⟨(), trivial, hE.trans (congrArg xn ef.symm), hS1.F h9⟩) hS1.2.2 (Nat.le_refl _) (Nat.le_refl _)) (fun u t H1 locs1 ht hvm h hb9 hz1 hk1 hS1 => h.elim)
