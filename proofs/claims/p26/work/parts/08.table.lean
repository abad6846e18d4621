theorem vi_of {x N : Int32} {n : Nat} (hN : N.toInt = n) (h1 : ¬ x < 0) (h2 : ¬ N ≤ x) : vp_in x n := by
  rw [vp_in_iff]
  rw [Int32.not_lt, Int32.le_iff_toInt_le] at h1
  rw [Int32.not_le, Int32.lt_iff_toInt_lt, hN] at h2
  exact ⟨h1, h2⟩
theorem vi_cell {k c : Int32} (h1 : vp_in k 24) (h2 : vp_in c 8) : vp_in (k * 8 + c) 192 := by
  obtain ⟨i, hi, rfl⟩ := vp_in_of h1 (by decide)
  obtain ⟨j, hj, rfl⟩ := vp_in_of h2 (by decide)
  rw [show (8 : Int32) = nI 8 from rfl, pk_mul, nI_add]
  exact vp_in_nI (by omega) (by decide)
def f_X2_isColumnNumber (p1 : Int32) : Int32 := if p1 < 0 then 0 else (if 8 ≤ p1 then 0 else 1)
set_option maxHeartbeats 4000000 in
set_option maxRecDepth 100000 in
theorem k_X2_isColumnNumber (l : Launch) (D : va_G) (cyI cyZ : ClassId) (p1 : Int32) : Met l yX2_isColumnNumber wsX2_isColumnNumber ({ frames := 0, cells := 0, slots := 0, locals := 0 } : Room) (pcP D cyI cyZ [.int p1] ([])) (qI (f_X2_isColumnNumber p1)) 0 0 nA := by
  refine Met.ofW (cc := cX2_isColumnNumber) (maxL := 1) (ret := (some .boolean)) (by decide) rfl ?_
  intro p e s m args below meth c s₁ B hml hv
  obtain ⟨rfl, hP, hG⟩ := hv
  have hx := B.exec
  have hb := B.bytes
  have hr := B.returns
  have hts := atoms_spec (ws := wsX2_isColumnNumber) B.pre
  have hown : s.vm.findClass RX2 = some m.cls := findClass_of_methodNamed B.named
  have hlocks := B.notSynchronized
  have hS : va_S nA s.heap s.heap [] := va_S.rf
  have hl := lv_entry ([.int p1]) (n := 1) (Nat.le_of_ble_eq_true rfl)
  rw [lg_entry_eq]
  generalize (lg_sl ([.int p1]) ++ List.replicate (1 - (lg_sl ([.int p1])).length) Slot.unset).toArray = ls at hl ⊢
  have hl : lv_has ls 1 [(0, .int p1)] := hl
  have hP : va_P D vwCl ([]) s.heap := hP
  refine lv_iload_n hx hb dX2_isColumnNumber_0 rfl (lv_at hl 0 rfl) ?_
  refine lv_if_lt (tgt := 14) hx hb dX2_isColumnNumber_1 (by decide) (fun c_1 => ?_) (fun c_1 => ?_)
  · refine lv_iconst (v := 0) hx hb dX2_isColumnNumber_14 (by decide) ?_
    have ef : f_X2_isColumnNumber p1 = 0 := by rw [f_X2_isColumnNumber, if_pos c_1]
    exact W.zret (v := 0) (ty := .boolean) hx hb hr rfl (fun t ht hW => ⟨⟨0, (), rfl, ef.symm, trivial⟩, hS.F ht⟩) hS.2.2 dX2_isColumnNumber_15
  · refine lv_iload_n hx hb dX2_isColumnNumber_4 rfl (lv_at hl 0 rfl) ?_
    refine lv_bipush (v := 8) hx hb dX2_isColumnNumber_5 (by decide) ?_
    refine lv_icmp_ge (tgt := 14) hx hb dX2_isColumnNumber_7 (by decide) (fun c_7 => ?_) (fun c_7 => ?_)
    · refine lv_iconst (v := 0) hx hb dX2_isColumnNumber_14 (by decide) ?_
      have ef : f_X2_isColumnNumber p1 = 0 := by rw [f_X2_isColumnNumber, if_neg c_1, if_pos c_7]
      exact W.zret (v := 0) (ty := .boolean) hx hb hr rfl (fun t ht hW => ⟨⟨0, (), rfl, ef.symm, trivial⟩, hS.F ht⟩) hS.2.2 dX2_isColumnNumber_15
    · refine lv_iconst (v := 1) hx hb dX2_isColumnNumber_10 (by decide) ?_
      refine lv_goto (tgt := 15) hx hb dX2_isColumnNumber_11 (by decide) ?_
      have ef : f_X2_isColumnNumber p1 = 1 := by rw [f_X2_isColumnNumber, if_neg c_1, if_neg c_7]
      exact W.zret (v := 1) (ty := .boolean) hx hb hr rfl (fun t ht hW => ⟨⟨1, (), rfl, ef.symm, trivial⟩, hS.F ht⟩) hS.2.2 dX2_isColumnNumber_15
def f_X2_isKey (p1 : Int32) : Int32 := if p1 < 0 then 0 else (if 24 ≤ p1 then 0 else 1)
set_option maxHeartbeats 4000000 in
set_option maxRecDepth 100000 in
theorem k_X2_isKey (l : Launch) (D : va_G) (cyI cyZ : ClassId) (p1 : Int32) : Met l yX2_isKey wsX2_isKey ({ frames := 0, cells := 0, slots := 0, locals := 0 } : Room) (pcP D cyI cyZ [.int p1] ([])) (qI (f_X2_isKey p1)) 0 0 nA := by
  refine Met.ofW (cc := cX2_isKey) (maxL := 1) (ret := (some .boolean)) (by decide) rfl ?_
  intro p e s m args below meth c s₁ B hml hv
  obtain ⟨rfl, hP, hG⟩ := hv
  have hx := B.exec
  have hb := B.bytes
  have hr := B.returns
  have hts := atoms_spec (ws := wsX2_isKey) B.pre
  have hown : s.vm.findClass RX2 = some m.cls := findClass_of_methodNamed B.named
  have hlocks := B.notSynchronized
  have hS : va_S nA s.heap s.heap [] := va_S.rf
  have hl := lv_entry ([.int p1]) (n := 1) (Nat.le_of_ble_eq_true rfl)
  rw [lg_entry_eq]
  generalize (lg_sl ([.int p1]) ++ List.replicate (1 - (lg_sl ([.int p1])).length) Slot.unset).toArray = ls at hl ⊢
  have hl : lv_has ls 1 [(0, .int p1)] := hl
  have hP : va_P D vwCl ([]) s.heap := hP
  refine lv_iload_n hx hb dX2_isKey_0 rfl (lv_at hl 0 rfl) ?_
  refine lv_if_lt (tgt := 14) hx hb dX2_isKey_1 (by decide) (fun c_1 => ?_) (fun c_1 => ?_)
  · refine lv_iconst (v := 0) hx hb dX2_isKey_14 (by decide) ?_
    have ef : f_X2_isKey p1 = 0 := by rw [f_X2_isKey, if_pos c_1]
    exact W.zret (v := 0) (ty := .boolean) hx hb hr rfl (fun t ht hW => ⟨⟨0, (), rfl, ef.symm, trivial⟩, hS.F ht⟩) hS.2.2 dX2_isKey_15
  · refine lv_iload_n hx hb dX2_isKey_4 rfl (lv_at hl 0 rfl) ?_
    refine lv_bipush (v := 24) hx hb dX2_isKey_5 (by decide) ?_
    refine lv_icmp_ge (tgt := 14) hx hb dX2_isKey_7 (by decide) (fun c_7 => ?_) (fun c_7 => ?_)
    · refine lv_iconst (v := 0) hx hb dX2_isKey_14 (by decide) ?_
      have ef : f_X2_isKey p1 = 0 := by rw [f_X2_isKey, if_neg c_1, if_pos c_7]
      exact W.zret (v := 0) (ty := .boolean) hx hb hr rfl (fun t ht hW => ⟨⟨0, (), rfl, ef.symm, trivial⟩, hS.F ht⟩) hS.2.2 dX2_isKey_15
    · refine lv_iconst (v := 1) hx hb dX2_isKey_10 (by decide) ?_
      refine lv_goto (tgt := 15) hx hb dX2_isKey_11 (by decide) ?_
      have ef : f_X2_isKey p1 = 1 := by rw [f_X2_isKey, if_neg c_1, if_neg c_7]
      exact W.zret (v := 1) (ty := .boolean) hx hb hr rfl (fun t ht hW => ⟨⟨1, (), rfl, ef.symm, trivial⟩, hS.F ht⟩) hS.2.2 dX2_isKey_15
def f_X1_hasColumn (t0 : Tr) (p1 : Int32) : Int32 := if p1 < 0 then 0 else (if 8 ≤ p1 then 0 else (if (t0.1 &&& (1 <<< (p1 &&& 31))) = 0 then 0 else 1))
theorem uin_X1_hasColumn_X1 : ∀ w ∈ wsX10, w ∈ wsX1_hasColumn := fun _ h => List.mem_cons_of_mem _ (List.mem_append_right _ h)
set_option maxHeartbeats 4000000 in
set_option maxRecDepth 100000 in
theorem k_X1_hasColumn (l : Launch) (D : va_G) (cyI cyZ : ClassId) (ha : Nat) (hn : Nat) (hc : Nat) (t0 : Tr) (p1 : Int32) : Met l yX1_hasColumn wsX1_hasColumn ({ frames := 0, cells := 0, slots := 0, locals := 0 } : Room) (pcP D cyI cyZ [.ref ha, .int p1] (wT cyI ha hn hc t0)) (qI (f_X1_hasColumn t0 p1)) 0 0 nA := by
  refine Met.ofW (cc := cX1_hasColumn) (maxL := 2) (ret := (some .boolean)) (by decide) rfl ?_
  intro p e s m args below meth c s₁ B hml hv
  obtain ⟨rfl, hP, hG⟩ := hv
  have hx := B.exec
  have hb := B.bytes
  have hr := B.returns
  have hts := atoms_spec (ws := wsX1_hasColumn) B.pre
  have hown : s.vm.findClass RX1 = some m.cls := findClass_of_methodNamed B.named
  have hlocks := B.notSynchronized
  have hS : va_S nA s.heap s.heap [] := va_S.rf
  have hl := lv_entry ([.ref ha, .int p1]) (n := 2) (Nat.le_of_ble_eq_true rfl)
  rw [lg_entry_eq]
  generalize (lg_sl ([.ref ha, .int p1]) ++ List.replicate (2 - (lg_sl ([.ref ha, .int p1])).length) Slot.unset).toArray = ls at hl ⊢
  have hl : lv_has ls 2 [(0, .ref ha), (1, .int p1)] := hl
  have hP : va_P D vwCl (wT cyI ha hn hc t0) s.heap := hP
  refine lv_iload_n hx hb dX1_hasColumn_0 rfl (lv_at hl 1 rfl) ?_
  refine lv_if_lt (tgt := 25) hx hb dX1_hasColumn_1 (by decide) (fun c_1 => ?_) (fun c_1 => ?_)
  · refine lv_iconst (v := 0) hx hb dX1_hasColumn_25 (by decide) ?_
    have ef : f_X1_hasColumn t0 p1 = 0 := by rw [f_X1_hasColumn, if_pos c_1]
    exact W.zret (v := 0) (ty := .boolean) hx hb hr rfl (fun t ht hW => ⟨⟨0, (), rfl, ef.symm, trivial⟩, hS.F ht⟩) hS.2.2 dX1_hasColumn_26
  · refine lv_iload_n hx hb dX1_hasColumn_4 rfl (lv_at hl 1 rfl) ?_
    refine lv_bipush (v := 8) hx hb dX1_hasColumn_5 (by decide) ?_
    refine lv_icmp_ge (tgt := 25) hx hb dX1_hasColumn_7 (by decide) (fun c_7 => ?_) (fun c_7 => ?_)
    · refine lv_iconst (v := 0) hx hb dX1_hasColumn_25 (by decide) ?_
      have ef : f_X1_hasColumn t0 p1 = 0 := by rw [f_X1_hasColumn, if_neg c_1, if_pos c_7]
      exact W.zret (v := 0) (ty := .boolean) hx hb hr rfl (fun t ht hW => ⟨⟨0, (), rfl, ef.symm, trivial⟩, hS.F ht⟩) hS.2.2 dX1_hasColumn_26
    · refine lv_aload_n hx hb dX1_hasColumn_10 rfl (lv_at hl 0 rfl) ?_
      refine va_get (D := D) (ci := 1) (v := .int t0.1) (C := RX1) (T := TX1) (N := 4) hx hb hts uin_X1_hasColumn_X1 hown hG.1 hP 0 rfl rfl 0 (by decide) (hts (.fieldLink RX1 9 "TableSplice$Table" "columnSet" "I") (List.mem_of_getElem? (i := 1) rfl)) (fun _ h9 => h9) rfl dX1_hasColumn_11 ?_
      refine lv_iconst (v := 1) hx hb dX1_hasColumn_14 (by decide) ?_
      refine lv_iload_n hx hb dX1_hasColumn_15 rfl (lv_at hl 1 rfl) ?_
      refine lv_ishl hx hb dX1_hasColumn_16 ?_
      refine lv_iand hx hb dX1_hasColumn_17 ?_
      refine lv_if_eq (tgt := 25) hx hb dX1_hasColumn_18 (by decide) (fun c_18 => ?_) (fun c_18 => ?_)
      · refine lv_iconst (v := 0) hx hb dX1_hasColumn_25 (by decide) ?_
        have ef : f_X1_hasColumn t0 p1 = 0 := by rw [f_X1_hasColumn, if_neg c_1, if_neg c_7, if_pos c_18]
        exact W.zret (v := 0) (ty := .boolean) hx hb hr rfl (fun t ht hW => ⟨⟨0, (), rfl, ef.symm, trivial⟩, hS.F ht⟩) hS.2.2 dX1_hasColumn_26
      · refine lv_iconst (v := 1) hx hb dX1_hasColumn_21 (by decide) ?_
        refine lv_goto (tgt := 26) hx hb dX1_hasColumn_22 (by decide) ?_
        have ef : f_X1_hasColumn t0 p1 = 1 := by rw [f_X1_hasColumn, if_neg c_1, if_neg c_7, if_neg c_18]
        exact W.zret (v := 1) (ty := .boolean) hx hb hr rfl (fun t ht hW => ⟨⟨1, (), rfl, ef.symm, trivial⟩, hS.F ht⟩) hS.2.2 dX1_hasColumn_26
def f_X1_hasRow (t0 : Tr) (p1 : Int32) : Int32 := if p1 < 0 then 0 else (if 24 ≤ p1 then 0 else (if (t0.2.1 &&& (1 <<< (p1 &&& 31))) = 0 then 0 else 1))
theorem uin_X1_hasRow_X1 : ∀ w ∈ wsX10, w ∈ wsX1_hasRow := fun _ h => List.mem_cons_of_mem _ (List.mem_append_right _ h)
set_option maxHeartbeats 4000000 in
set_option maxRecDepth 100000 in
theorem k_X1_hasRow (l : Launch) (D : va_G) (cyI cyZ : ClassId) (ha : Nat) (hn : Nat) (hc : Nat) (t0 : Tr) (p1 : Int32) : Met l yX1_hasRow wsX1_hasRow ({ frames := 0, cells := 0, slots := 0, locals := 0 } : Room) (pcP D cyI cyZ [.ref ha, .int p1] (wT cyI ha hn hc t0)) (qI (f_X1_hasRow t0 p1)) 0 0 nA := by
  refine Met.ofW (cc := cX1_hasRow) (maxL := 2) (ret := (some .boolean)) (by decide) rfl ?_
  intro p e s m args below meth c s₁ B hml hv
  obtain ⟨rfl, hP, hG⟩ := hv
  have hx := B.exec
  have hb := B.bytes
  have hr := B.returns
  have hts := atoms_spec (ws := wsX1_hasRow) B.pre
  have hown : s.vm.findClass RX1 = some m.cls := findClass_of_methodNamed B.named
  have hlocks := B.notSynchronized
  have hS : va_S nA s.heap s.heap [] := va_S.rf
  have hl := lv_entry ([.ref ha, .int p1]) (n := 2) (Nat.le_of_ble_eq_true rfl)
  rw [lg_entry_eq]
  generalize (lg_sl ([.ref ha, .int p1]) ++ List.replicate (2 - (lg_sl ([.ref ha, .int p1])).length) Slot.unset).toArray = ls at hl ⊢
  have hl : lv_has ls 2 [(0, .ref ha), (1, .int p1)] := hl
  have hP : va_P D vwCl (wT cyI ha hn hc t0) s.heap := hP
  refine lv_iload_n hx hb dX1_hasRow_0 rfl (lv_at hl 1 rfl) ?_
  refine lv_if_lt (tgt := 25) hx hb dX1_hasRow_1 (by decide) (fun c_1 => ?_) (fun c_1 => ?_)
  · refine lv_iconst (v := 0) hx hb dX1_hasRow_25 (by decide) ?_
    have ef : f_X1_hasRow t0 p1 = 0 := by rw [f_X1_hasRow, if_pos c_1]
    exact W.zret (v := 0) (ty := .boolean) hx hb hr rfl (fun t ht hW => ⟨⟨0, (), rfl, ef.symm, trivial⟩, hS.F ht⟩) hS.2.2 dX1_hasRow_26
  · refine lv_iload_n hx hb dX1_hasRow_4 rfl (lv_at hl 1 rfl) ?_
    refine lv_bipush (v := 24) hx hb dX1_hasRow_5 (by decide) ?_
    refine lv_icmp_ge (tgt := 25) hx hb dX1_hasRow_7 (by decide) (fun c_7 => ?_) (fun c_7 => ?_)
    · refine lv_iconst (v := 0) hx hb dX1_hasRow_25 (by decide) ?_
      have ef : f_X1_hasRow t0 p1 = 0 := by rw [f_X1_hasRow, if_neg c_1, if_pos c_7]
      exact W.zret (v := 0) (ty := .boolean) hx hb hr rfl (fun t ht hW => ⟨⟨0, (), rfl, ef.symm, trivial⟩, hS.F ht⟩) hS.2.2 dX1_hasRow_26
    · refine lv_aload_n hx hb dX1_hasRow_10 rfl (lv_at hl 0 rfl) ?_
      refine va_get (D := D) (ci := 1) (v := .int t0.2.1) (C := RX1) (T := TX1) (N := 4) hx hb hts uin_X1_hasRow_X1 hown hG.1 hP 0 rfl rfl 1 (by decide) (hts (.fieldLink RX1 15 "TableSplice$Table" "rowSet" "I") (List.mem_of_getElem? (i := 1) rfl)) (fun _ h9 => h9) rfl dX1_hasRow_11 ?_
      refine lv_iconst (v := 1) hx hb dX1_hasRow_14 (by decide) ?_
      refine lv_iload_n hx hb dX1_hasRow_15 rfl (lv_at hl 1 rfl) ?_
      refine lv_ishl hx hb dX1_hasRow_16 ?_
      refine lv_iand hx hb dX1_hasRow_17 ?_
      refine lv_if_eq (tgt := 25) hx hb dX1_hasRow_18 (by decide) (fun c_18 => ?_) (fun c_18 => ?_)
      · refine lv_iconst (v := 0) hx hb dX1_hasRow_25 (by decide) ?_
        have ef : f_X1_hasRow t0 p1 = 0 := by rw [f_X1_hasRow, if_neg c_1, if_neg c_7, if_pos c_18]
        exact W.zret (v := 0) (ty := .boolean) hx hb hr rfl (fun t ht hW => ⟨⟨0, (), rfl, ef.symm, trivial⟩, hS.F ht⟩) hS.2.2 dX1_hasRow_26
      · refine lv_iconst (v := 1) hx hb dX1_hasRow_21 (by decide) ?_
        refine lv_goto (tgt := 26) hx hb dX1_hasRow_22 (by decide) ?_
        have ef : f_X1_hasRow t0 p1 = 1 := by rw [f_X1_hasRow, if_neg c_1, if_neg c_7, if_neg c_18]
        exact W.zret (v := 1) (ty := .boolean) hx hb hr rfl (fun t ht hW => ⟨⟨1, (), rfl, ef.symm, trivial⟩, hS.F ht⟩) hS.2.2 dX1_hasRow_26
def f_X1_hasCell (t0 : Tr) (p1 : Int32) (p2 : Int32) : Int32 := if (f_X1_hasRow t0 p1) = 0 then 0 else (if (f_X1_hasColumn t0 p2) = 0 then 0 else 1)
theorem uin_X1_hasCell_X1 : ∀ w ∈ wsX10, w ∈ wsX1_hasCell := fun _ h => List.mem_cons_of_mem _ (List.mem_append_right _ h)
set_option maxHeartbeats 4000000 in
set_option maxRecDepth 100000 in
theorem k_X1_hasCell (l : Launch) (D : va_G) (cyI cyZ : ClassId) (ha : Nat) (hn : Nat) (hc : Nat) (t0 : Tr) (p1 : Int32) (p2 : Int32) : Met l yX1_hasCell wsX1_hasCell ({ frames := 1, cells := 0, slots := 0, locals := 21 } : Room) (pcP D cyI cyZ [.ref ha, .int p1, .int p2] (wT cyI ha hn hc t0)) (qI (f_X1_hasCell t0 p1 p2)) 0 0 nA := by
  refine Met.ofW (cc := cX1_hasCell) (maxL := 3) (ret := (some .boolean)) (by decide) rfl ?_
  intro p e s m args below meth c s₁ B hml hv
  obtain ⟨rfl, hP, hG⟩ := hv
  have hx := B.exec
  have hb := B.bytes
  have hr := B.returns
  have hts := atoms_spec (ws := wsX1_hasCell) B.pre
  have hown : s.vm.findClass RX1 = some m.cls := findClass_of_methodNamed B.named
  have hlocks := B.notSynchronized
  have hS : va_S nA s.heap s.heap [] := va_S.rf
  have hl := lv_entry ([.ref ha, .int p1, .int p2]) (n := 3) (Nat.le_of_ble_eq_true rfl)
  rw [lg_entry_eq]
  generalize (lg_sl ([.ref ha, .int p1, .int p2]) ++ List.replicate (3 - (lg_sl ([.ref ha, .int p1, .int p2])).length) Slot.unset).toArray = ls at hl ⊢
  have hl : lv_has ls 3 [(0, .ref ha), (1, .int p1), (2, .int p2)] := hl
  have hP : va_P D vwCl (wT cyI ha hn hc t0) s.heap := hP
  refine lv_aload_n hx hb dX1_hasCell_0 rfl (lv_at hl 0 rfl) ?_
  refine lv_iload_n hx hb dX1_hasCell_1 rfl (lv_at hl 1 rfl) ?_
  refine pr_i (va_runV (As := [.int p1]) (rest := []) ⟨hx, hb, hml, hown, hts⟩ (k_X1_hasRow l D cyI cyZ ha hn hc t0 p1) (cwV 1 hts gX1_hasCell_X1_hasRow rfl rfl rfl (by decide +kernel) ⟨Nat.le_of_ble_eq_true rfl, Nat.le_of_ble_eq_true rfl⟩) (prV hG hP (ci := 1) rfl rfl rfl) rfl rfl hl.1 rfl (lv_room (Nat.le_of_ble_eq_true rfl)) dX1_hasCell_2 ⟨Nat.zero_le _, Nat.zero_le _⟩) hS hP (fun H locs hP hS => ?_)
  refine lv_if_eq (tgt := 20) hx hb dX1_hasCell_5 (by decide) (fun c_5 => ?_) (fun c_5 => ?_)
  · refine lv_iconst (v := 0) hx hb dX1_hasCell_20 (by decide) ?_
    have ef : f_X1_hasCell t0 p1 p2 = 0 := by rw [f_X1_hasCell, if_pos c_5]
    exact W.zret (v := 0) (ty := .boolean) hx hb hr rfl (fun t ht hW => ⟨⟨0, (), rfl, ef.symm, trivial⟩, hS.F ht⟩) hS.2.2 dX1_hasCell_21
  · refine lv_aload_n hx hb dX1_hasCell_8 rfl (lv_at hl 0 rfl) ?_
    refine lv_iload_n hx hb dX1_hasCell_9 rfl (lv_at hl 2 rfl) ?_
    refine pr_i (va_runV (As := [.int p2]) (rest := []) ⟨hx, hb, hml, hown, hts⟩ (k_X1_hasColumn l D cyI cyZ ha hn hc t0 p2) (cwV 1 hts gX1_hasCell_X1_hasColumn rfl rfl rfl (by decide +kernel) ⟨Nat.le_of_ble_eq_true rfl, Nat.le_of_ble_eq_true rfl⟩) (prV hG hP (ci := 1) rfl rfl rfl) rfl rfl hl.1 rfl (lv_room (Nat.le_of_ble_eq_true rfl)) dX1_hasCell_10 ⟨Nat.zero_le _, Nat.zero_le _⟩) hS hP (fun H locs hP hS => ?_)
    refine lv_if_eq (tgt := 20) hx hb dX1_hasCell_13 (by decide) (fun c_13 => ?_) (fun c_13 => ?_)
    · refine lv_iconst (v := 0) hx hb dX1_hasCell_20 (by decide) ?_
      have ef : f_X1_hasCell t0 p1 p2 = 0 := by rw [f_X1_hasCell, if_neg c_5, if_pos c_13]
      exact W.zret (v := 0) (ty := .boolean) hx hb hr rfl (fun t ht hW => ⟨⟨0, (), rfl, ef.symm, trivial⟩, hS.F ht⟩) hS.2.2 dX1_hasCell_21
    · refine lv_iconst (v := 1) hx hb dX1_hasCell_16 (by decide) ?_
      refine lv_goto (tgt := 21) hx hb dX1_hasCell_17 (by decide) ?_
      have ef : f_X1_hasCell t0 p1 p2 = 1 := by rw [f_X1_hasCell, if_neg c_5, if_neg c_13]
      exact W.zret (v := 1) (ty := .boolean) hx hb hr rfl (fun t ht hW => ⟨⟨1, (), rfl, ef.symm, trivial⟩, hS.F ht⟩) hS.2.2 dX1_hasCell_21
theorem in_col {t : Tr} {x : Int32} (h : ¬ f_X1_hasColumn t x = 0) : vp_in x 8 := by
  rw [f_X1_hasColumn] at h
  by_cases h1 : x < 0
  · rw [if_pos h1] at h; exact absurd rfl h
  · by_cases h2 : 8 ≤ x
    · rw [if_neg h1, if_pos h2] at h; exact absurd rfl h
    · exact vi_of (by decide) h1 h2
theorem in_row {t : Tr} {x : Int32} (h : ¬ f_X1_hasRow t x = 0) : vp_in x 24 := by
  rw [f_X1_hasRow] at h
  by_cases h1 : x < 0
  · rw [if_pos h1] at h; exact absurd rfl h
  · by_cases h2 : 24 ≤ x
    · rw [if_neg h1, if_pos h2] at h; exact absurd rfl h
    · exact vi_of (by decide) h1 h2
theorem in_colnum {x : Int32} (h : ¬ f_X2_isColumnNumber x = 0) : vp_in x 8 := by
  rw [f_X2_isColumnNumber] at h
  by_cases h1 : x < 0
  · rw [if_pos h1] at h; exact absurd rfl h
  · by_cases h2 : 8 ≤ x
    · rw [if_neg h1, if_pos h2] at h; exact absurd rfl h
    · exact vi_of (by decide) h1 h2
theorem in_cell {t : Tr} {k c : Int32} (h : ¬ f_X1_hasCell t k c = 0) : vp_in (k * 8 + c) 192 := by
  rw [f_X1_hasCell] at h
  by_cases h1 : f_X1_hasRow t k = 0
  · rw [if_pos h1] at h; exact absurd rfl h
  · by_cases h2 : f_X1_hasColumn t c = 0
    · rw [if_neg h1, if_pos h2] at h; exact absurd rfl h
    · exact vi_cell (in_row h1) (in_col h2)
def bc_1 (x : Int32) : Int32 := x - (((x).toUInt32 >>> ((1 : Int32).toUInt32 &&& Int32.toUInt32 31)).toInt32 &&& 1431655765)
def bc_2 (x : Int32) : Int32 := (x &&& 858993459) + (((x).toUInt32 >>> ((2 : Int32).toUInt32 &&& Int32.toUInt32 31)).toInt32 &&& 858993459)
def bc_3 (x : Int32) : Int32 := (x + ((x).toUInt32 >>> ((4 : Int32).toUInt32 &&& Int32.toUInt32 31)).toInt32) &&& 252645135
def bc_4 (x : Int32) : Int32 := x + ((x).toUInt32 >>> ((8 : Int32).toUInt32 &&& Int32.toUInt32 31)).toInt32
def bc_5 (x : Int32) : Int32 := x + ((x).toUInt32 >>> ((16 : Int32).toUInt32 &&& Int32.toUInt32 31)).toInt32
def f_J6_bitCount_0f7a4 (p1 : Int32) : Int32 := (bc_5 (bc_4 (bc_3 (bc_2 (bc_1 p1))))) &&& 63
set_option maxHeartbeats 4000000 in
set_option maxRecDepth 100000 in
theorem k_J6_bitCount_0f7a4 (l : Launch) (D : va_G) (cyI cyZ : ClassId) (p1 : Int32) : Met l yJ6_bitCount_0f7a4 wsJ6_bitCount_0f7a4 ({ frames := 0, cells := 0, slots := 0, locals := 0 } : Room) (pcP D cyI cyZ [.int p1] ([])) (qI (f_J6_bitCount_0f7a4 p1)) 0 0 nA := by
  refine Met.ofW (cc := cJ6_bitCount_0f7a4) (maxL := 1) (ret := (some .int)) (by decide) rfl ?_
  intro p e s m args below meth c s₁ B hml hv
  obtain ⟨rfl, hP, hG⟩ := hv
  have hx := B.exec
  have hb := B.bytes
  have hr := B.returns
  have hts := atoms_spec (ws := wsJ6_bitCount_0f7a4) B.pre
  have hown : s.vm.findClass RJ6 = some m.cls := findClass_of_methodNamed B.named
  have hlocks := B.notSynchronized
  have hS : va_S nA s.heap s.heap [] := va_S.rf
  have hl := lv_entry ([.int p1]) (n := 1) (Nat.le_of_ble_eq_true rfl)
  rw [lg_entry_eq]
  generalize (lg_sl ([.int p1]) ++ List.replicate (1 - (lg_sl ([.int p1])).length) Slot.unset).toArray = ls at hl ⊢
  have hl : lv_has ls 1 [(0, .int p1)] := hl
  have hP : va_P D vwCl ([]) s.heap := hP
  refine lv_iload_n hx hb dJ6_bitCount_0f7a4_0 rfl (lv_at hl 0 rfl) ?_
  refine lv_iload_n hx hb dJ6_bitCount_0f7a4_1 rfl (lv_at hl 0 rfl) ?_
  refine lv_iconst (v := 1) hx hb dJ6_bitCount_0f7a4_2 (by decide) ?_
  refine lv_iushr (v := ((p1).toUInt32 >>> ((1 : Int32).toUInt32 &&& Int32.toUInt32 31)).toInt32) hx hb dJ6_bitCount_0f7a4_3 rfl ?_
  refine lv_ldcw (v := 1431655765) hx hb hown (hts (.constant RJ6 265 (1431655765)) (List.mem_of_getElem? (i := 1) rfl)) dJ6_bitCount_0f7a4_4 ?_
  refine lv_iand hx hb dJ6_bitCount_0f7a4_7 ?_
  refine lv_isub hx hb dJ6_bitCount_0f7a4_8 ?_
  refine W.eq (g2 := F0 m 9 ls [.int (bc_1 p1)]) rfl ?_
  refine lv_istore_n (lv' := [(0, .int (bc_1 p1))]) hx hb dJ6_bitCount_0f7a4_9 rfl hl (by decide) rfl (fun ls hl => ?_)
  refine lv_iload_n hx hb dJ6_bitCount_0f7a4_10 rfl (lv_at hl 0 rfl) ?_
  refine lv_ldcw (v := 858993459) hx hb hown (hts (.constant RJ6 266 (858993459)) (List.mem_of_getElem? (i := 2) rfl)) dJ6_bitCount_0f7a4_11 ?_
  refine lv_iand hx hb dJ6_bitCount_0f7a4_14 ?_
  refine lv_iload_n hx hb dJ6_bitCount_0f7a4_15 rfl (lv_at hl 0 rfl) ?_
  refine lv_iconst (v := 2) hx hb dJ6_bitCount_0f7a4_16 (by decide) ?_
  refine lv_iushr (v := ((bc_1 p1).toUInt32 >>> ((2 : Int32).toUInt32 &&& Int32.toUInt32 31)).toInt32) hx hb dJ6_bitCount_0f7a4_17 rfl ?_
  refine lv_ldcw (v := 858993459) hx hb hown (hts (.constant RJ6 266 (858993459)) (List.mem_of_getElem? (i := 2) rfl)) dJ6_bitCount_0f7a4_18 ?_
  refine lv_iand hx hb dJ6_bitCount_0f7a4_21 ?_
  refine lv_iadd hx hb dJ6_bitCount_0f7a4_22 ?_
  refine W.eq (g2 := F0 m 23 ls [.int (bc_2 (bc_1 p1))]) rfl ?_
  refine lv_istore_n (lv' := [(0, .int (bc_2 (bc_1 p1)))]) hx hb dJ6_bitCount_0f7a4_23 rfl hl (by decide) rfl (fun ls hl => ?_)
  refine lv_iload_n hx hb dJ6_bitCount_0f7a4_24 rfl (lv_at hl 0 rfl) ?_
  refine lv_iload_n hx hb dJ6_bitCount_0f7a4_25 rfl (lv_at hl 0 rfl) ?_
  refine lv_iconst (v := 4) hx hb dJ6_bitCount_0f7a4_26 (by decide) ?_
  refine lv_iushr (v := ((bc_2 (bc_1 p1)).toUInt32 >>> ((4 : Int32).toUInt32 &&& Int32.toUInt32 31)).toInt32) hx hb dJ6_bitCount_0f7a4_27 rfl ?_
  refine lv_iadd hx hb dJ6_bitCount_0f7a4_28 ?_
  refine lv_ldcw (v := 252645135) hx hb hown (hts (.constant RJ6 267 (252645135)) (List.mem_of_getElem? (i := 3) rfl)) dJ6_bitCount_0f7a4_29 ?_
  refine lv_iand hx hb dJ6_bitCount_0f7a4_32 ?_
  refine W.eq (g2 := F0 m 33 ls [.int (bc_3 (bc_2 (bc_1 p1)))]) rfl ?_
  refine lv_istore_n (lv' := [(0, .int (bc_3 (bc_2 (bc_1 p1))))]) hx hb dJ6_bitCount_0f7a4_33 rfl hl (by decide) rfl (fun ls hl => ?_)
  refine lv_iload_n hx hb dJ6_bitCount_0f7a4_34 rfl (lv_at hl 0 rfl) ?_
  refine lv_iload_n hx hb dJ6_bitCount_0f7a4_35 rfl (lv_at hl 0 rfl) ?_
  refine lv_bipush (v := 8) hx hb dJ6_bitCount_0f7a4_36 (by decide) ?_
  refine lv_iushr (v := ((bc_3 (bc_2 (bc_1 p1))).toUInt32 >>> ((8 : Int32).toUInt32 &&& Int32.toUInt32 31)).toInt32) hx hb dJ6_bitCount_0f7a4_38 rfl ?_
  refine lv_iadd hx hb dJ6_bitCount_0f7a4_39 ?_
  refine W.eq (g2 := F0 m 40 ls [.int (bc_4 (bc_3 (bc_2 (bc_1 p1))))]) rfl ?_
  refine lv_istore_n (lv' := [(0, .int (bc_4 (bc_3 (bc_2 (bc_1 p1)))))]) hx hb dJ6_bitCount_0f7a4_40 rfl hl (by decide) rfl (fun ls hl => ?_)
  refine lv_iload_n hx hb dJ6_bitCount_0f7a4_41 rfl (lv_at hl 0 rfl) ?_
  refine lv_iload_n hx hb dJ6_bitCount_0f7a4_42 rfl (lv_at hl 0 rfl) ?_
  refine lv_bipush (v := 16) hx hb dJ6_bitCount_0f7a4_43 (by decide) ?_
  refine lv_iushr (v := ((bc_4 (bc_3 (bc_2 (bc_1 p1)))).toUInt32 >>> ((16 : Int32).toUInt32 &&& Int32.toUInt32 31)).toInt32) hx hb dJ6_bitCount_0f7a4_45 rfl ?_
  refine lv_iadd hx hb dJ6_bitCount_0f7a4_46 ?_
  refine W.eq (g2 := F0 m 47 ls [.int (bc_5 (bc_4 (bc_3 (bc_2 (bc_1 p1)))))]) rfl ?_
  refine lv_istore_n (lv' := [(0, .int (bc_5 (bc_4 (bc_3 (bc_2 (bc_1 p1))))))]) hx hb dJ6_bitCount_0f7a4_47 rfl hl (by decide) rfl (fun ls hl => ?_)
  refine lv_iload_n hx hb dJ6_bitCount_0f7a4_48 rfl (lv_at hl 0 rfl) ?_
  refine lv_bipush (v := 63) hx hb dJ6_bitCount_0f7a4_49 (by decide) ?_
  refine lv_iand hx hb dJ6_bitCount_0f7a4_51 ?_
  have ef : f_J6_bitCount_0f7a4 p1 = (bc_5 (bc_4 (bc_3 (bc_2 (bc_1 p1))))) &&& 63 := by rw [f_J6_bitCount_0f7a4]
  exact W.iret (v := (bc_5 (bc_4 (bc_3 (bc_2 (bc_1 p1))))) &&& 63) hx hb hr (fun t ht hW => ⟨⟨(bc_5 (bc_4 (bc_3 (bc_2 (bc_1 p1))))) &&& 63, (), rfl, ef.symm, trivial⟩, hS.F ht⟩) hS.2.2 dJ6_bitCount_0f7a4_52
def f_J7_fill_53178_sa (p2 : Int32) (ia : Nat) (g0_a : Nat → Int32) : (Nat → Int32) := (upd g0_a (nI ia).toNatClampNeg p2)
def f_J7_fill_53178 (g0 : Nat → Int32) (n0 : Nat) (p2 : Int32) : (Nat → Int32) := (it (fun (i9 : Nat) (z9 : (Nat → Int32)) => f_J7_fill_53178_sa p2 i9 z9) g0 n0)
set_option maxHeartbeats 4000000 in
set_option maxRecDepth 100000 in
theorem k_J7_fill_53178 (l : Launch) (D : va_G) (cyI cyZ : ClassId) (ha : Nat) (n0 : Nat) (g0 : Nat → Int32) (p2 : Int32) (A : Nat → Prop) (sz : Nat) (hAe : A = va_A ([(ha, .inl (cyI, n0, .inl g0))]) sz) (hn0 : n0 < 2 ^ 31) : Met l yJ7_fill_53178 wsJ7_fill_53178 ({ frames := 0, cells := 0, slots := 0, locals := 0 } : Room) (pcM D cyI cyZ sz [.ref ha, .int p2] ([(ha, .inl (cyI, n0, .inl g0))])) (mV D A ([(ha, .inl (cyI, n0, .inl (f_J7_fill_53178 g0 n0 p2)))])) 0 0 A := by
  refine Met.ofW (cc := cJ7_fill_53178) (maxL := 4) (ret := none) (by decide) rfl ?_
  intro p e s m args below meth c s₁ B hml hv
  obtain ⟨rfl, hsz, hP, hG, hD0⟩ := hv
  have hx := B.exec
  have hb := B.bytes
  have hr := B.returns
  have hts := atoms_spec (ws := wsJ7_fill_53178) B.pre
  have hown : s.vm.findClass RJ7 = some m.cls := findClass_of_methodNamed B.named
  have hlocks := B.notSynchronized
  subst hsz
  have hD : va_D A ([(ha, .inl (cyI, n0, .inl g0))]) := by rw [hAe]; exact hD0.self
  have hA : ∀ q : Nat, s.heap.size ≤ q → A q := fun q h => by rw [hAe]; exact Or.inr h
  clear hAe hD0
  have hS : va_S nA s.heap s.heap [] := va_S.rf
  have hl := lv_entry ([.ref ha, .int p2]) (n := 4) (Nat.le_of_ble_eq_true rfl)
  rw [lg_entry_eq]
  generalize (lg_sl ([.ref ha, .int p2]) ++ List.replicate (4 - (lg_sl ([.ref ha, .int p2])).length) Slot.unset).toArray = ls at hl ⊢
  have hl : lv_has ls 4 [(0, .ref ha), (1, .int p2)] := hl
  have hP : va_P D vwCl ([(ha, .inl (cyI, n0, .inl g0))]) s.heap := hP
  refine lv_iconst (v := 0) hx hb dJ7_fill_53178_0 (by decide) ?_
  refine lv_istore_n (lv' := [(2, .int 0), (0, .ref ha), (1, .int p2)]) hx hb dJ7_fill_53178_1 rfl hl (by decide) rfl (fun ls hl => ?_)
  refine lv_aload_n hx hb dJ7_fill_53178_2 rfl (lv_at hl 1 rfl) ?_
  refine va_alen hx hb hG.1 hP 0 0 rfl rfl (v := nI n0) rfl dJ7_fill_53178_3 ?_
  refine lv_istore_n (lv' := [(3, .int (nI n0)), (2, .int 0), (0, .ref ha), (1, .int p2)]) hx hb dJ7_fill_53178_4 rfl hl (by decide) rfl (fun ls hl => ?_)
  have hS := sw_n (B := A) hS
  have lp_a : ∀ (n ia : Nat), ia + n = n0 → ∀ (g0_a : Nat → Int32), g0_a = it (fun (i9 : Nat) (z9 : (Nat → Int32)) => f_J7_fill_53178_sa p2 i9 z9) g0 ia → ∀ (H : Heap) (locs : List Loc), va_P D vwCl ([(ha, .inl (cyI, n0, .inl g0_a))]) H → va_D A ([(ha, .inl (cyI, n0, .inl g0_a))]) → va_S A s.heap H locs → ∀ (ls : Array Slot), lv_has ls 4 [(3, .int (nI n0)), (2, .int (nI ia)), (0, .ref ha), (1, .int p2)] → W p l e (headSpec wsJ7_fill_53178 ({ frames := 0, cells := 0, slots := 0, locals := 0 } : Room)).room s m ([.ref ha, .int p2] : List Value).toArray below meth c H locs 0 0 (MQ below (mV D A ([(ha, .inl (cyI, n0, .inl (f_J7_fill_53178 g0 n0 p2)))])) ([.ref ha, .int p2] : List Value).toArray s 0 0 A) (F0 m 5 ls []) := by
    intro n
    induction n with
    | zero =>
      intro ia hi_a g0_a hs_a H locs hP hD hS ls hl
      obtain rfl : n0 = ia := by omega
      obtain rfl : g0_a = it (fun (i9 : Nat) (z9 : (Nat → Int32)) => f_J7_fill_53178_sa p2 i9 z9) g0 n0 := hs_a
      refine lv_iload_n hx hb dJ7_fill_53178_5 rfl (lv_at hl 1 rfl) ?_
      refine lv_iload_n hx hb dJ7_fill_53178_6 rfl (lv_at hl 0 rfl) ?_
      refine lv_icmp_ge (tgt := 20) hx hb dJ7_fill_53178_7 (by decide) (fun c_7 => ?_) (fun c_7 => ?_)
      · have ef : f_J7_fill_53178 g0 n0 p2 = (it (fun (i9 : Nat) (z9 : (Nat → Int32)) => f_J7_fill_53178_sa p2 i9 z9) g0 n0) := by rw [f_J7_fill_53178]
        exact W.vret hx hb hr (fun t ht hW => ⟨⟨(), rfl, trivial, by rw [ht, ef]; exact hP, by rw [ef]; exact hD⟩, hS.F ht⟩) hS.2.2 dJ7_fill_53178_20
      · exact absurd (Int32.le_refl _) c_7
    | succ n ih_a =>
      intro ia hi_a g0_a hs_a H locs hP hD hS ls hl
      have hj_a : ia < n0 := by omega
      refine lv_iload_n hx hb dJ7_fill_53178_5 rfl (lv_at hl 1 rfl) ?_
      refine lv_iload_n hx hb dJ7_fill_53178_6 rfl (lv_at hl 0 rfl) ?_
      refine lv_icmp_ge (tgt := 20) hx hb dJ7_fill_53178_7 (by decide) (fun c_7 => ?_) (fun c_7 => ?_)
      · exact absurd c_7 (nI_ge hj_a (by omega))
      · refine lv_aload_n hx hb dJ7_fill_53178_10 rfl (lv_at hl 2 rfl) ?_
        refine lv_iload_n hx hb dJ7_fill_53178_11 rfl (lv_at hl 1 rfl) ?_
        refine lv_iload_n hx hb dJ7_fill_53178_12 rfl (lv_at hl 3 rfl) ?_
        refine va_iast hx hb hG.1 hP hD hS 0 0 rfl rfl (vp_in_nI (n := ia) (by omega) (by omega)) dJ7_fill_53178_13 (fun H locs hP hD hS => ?_)
        have hP : va_P D vwCl ([(ha, .inl (cyI, n0, .inl (upd g0_a (nI ia).toNatClampNeg p2)))]) H := hP
        have hD : va_D A ([(ha, .inl (cyI, n0, .inl (upd g0_a (nI ia).toNatClampNeg p2)))]) := hD
        refine lv_iinc (v := nI (ia + 1)) (lv' := [(2, .int (nI (ia + 1))), (3, .int (nI n0)), (0, .ref ha), (1, .int p2)]) hx hb dJ7_fill_53178_14 hl (k := 1) rfl (nI_1 _) (by decide) rfl (fun ls hl => ?_)
        refine lv_goto (tgt := 5) hx hb dJ7_fill_53178_17 (by decide) ?_
        exact ih_a (ia + 1) (by omega) (upd g0_a (nI ia).toNatClampNeg p2) (it_s hs_a (by show f_J7_fill_53178_sa p2 ia g0_a = _; rw [f_J7_fill_53178_sa])) _ _ hP hD hS ls (lv_sub hl [1, 0, 2, 3] rfl)
  exact lp_a n0 0 (by omega) g0 rfl _ _ hP hD hS ls (lv_sub hl [0, 1, 2, 3] rfl)
def f_X1_columnCount (t0 : Tr) : Int32 := f_J6_bitCount_0f7a4 t0.1
theorem uin_X1_columnCount_X1 : ∀ w ∈ wsX10, w ∈ wsX1_columnCount := fun _ h => List.mem_cons_of_mem _ (List.mem_append_right _ h)
set_option maxHeartbeats 4000000 in
set_option maxRecDepth 100000 in
theorem k_X1_columnCount (l : Launch) (D : va_G) (cyI cyZ : ClassId) (ha : Nat) (hn : Nat) (hc : Nat) (t0 : Tr) : Met l yX1_columnCount wsX1_columnCount ({ frames := 1, cells := 0, slots := 0, locals := 20 } : Room) (pcP D cyI cyZ [.ref ha] (wT cyI ha hn hc t0)) (qI (f_X1_columnCount t0)) 0 0 nA := by
  refine Met.ofW (cc := cX1_columnCount) (maxL := 1) (ret := (some .int)) (by decide) rfl ?_
  intro p e s m args below meth c s₁ B hml hv
  obtain ⟨rfl, hP, hG⟩ := hv
  have hx := B.exec
  have hb := B.bytes
  have hr := B.returns
  have hts := atoms_spec (ws := wsX1_columnCount) B.pre
  have hown : s.vm.findClass RX1 = some m.cls := findClass_of_methodNamed B.named
  have hlocks := B.notSynchronized
  have hS : va_S nA s.heap s.heap [] := va_S.rf
  have hl := lv_entry ([.ref ha]) (n := 1) (Nat.le_of_ble_eq_true rfl)
  rw [lg_entry_eq]
  generalize (lg_sl ([.ref ha]) ++ List.replicate (1 - (lg_sl ([.ref ha])).length) Slot.unset).toArray = ls at hl ⊢
  have hl : lv_has ls 1 [(0, .ref ha)] := hl
  have hP : va_P D vwCl (wT cyI ha hn hc t0) s.heap := hP
  refine lv_aload_n hx hb dX1_columnCount_0 rfl (lv_at hl 0 rfl) ?_
  refine va_get (D := D) (ci := 1) (v := .int t0.1) (C := RX1) (T := TX1) (N := 4) hx hb hts uin_X1_columnCount_X1 hown hG.1 hP 0 rfl rfl 0 (by decide) (hts (.fieldLink RX1 9 "TableSplice$Table" "columnSet" "I") (List.mem_of_getElem? (i := 1) rfl)) (fun _ h9 => h9) rfl dX1_columnCount_1 ?_
  refine pr_i (va_runS (As := [.int t0.1]) (rest := []) ⟨hx, hb, hml, hown, hts⟩ (k_J6_bitCount_0f7a4 l D cyI cyZ t0.1) (va_cwS 1 hts gX1_columnCount_J6_bitCount_0f7a4 rfl rfl rfl (by decide +kernel) ⟨Nat.le_of_ble_eq_true rfl, Nat.le_of_ble_eq_true rfl⟩) (prS hG (hP.sub (ws' := []) [] rfl)) rfl rfl hl.1 rfl (lv_room (Nat.le_of_ble_eq_true rfl)) dX1_columnCount_4 ⟨Nat.zero_le _, Nat.zero_le _⟩) hS hP (fun H locs hP hS => ?_)
  have ef : f_X1_columnCount t0 = f_J6_bitCount_0f7a4 t0.1 := by rw [f_X1_columnCount]
  exact W.iret (v := f_J6_bitCount_0f7a4 t0.1) hx hb hr (fun t ht hW => ⟨⟨f_J6_bitCount_0f7a4 t0.1, (), rfl, ef.symm, trivial⟩, hS.F ht⟩) hS.2.2 dX1_columnCount_7
def f_X1_rowCount (t0 : Tr) : Int32 := f_J6_bitCount_0f7a4 t0.2.1
theorem uin_X1_rowCount_X1 : ∀ w ∈ wsX10, w ∈ wsX1_rowCount := fun _ h => List.mem_cons_of_mem _ (List.mem_append_right _ h)
set_option maxHeartbeats 4000000 in
set_option maxRecDepth 100000 in
theorem k_X1_rowCount (l : Launch) (D : va_G) (cyI cyZ : ClassId) (ha : Nat) (hn : Nat) (hc : Nat) (t0 : Tr) : Met l yX1_rowCount wsX1_rowCount ({ frames := 1, cells := 0, slots := 0, locals := 20 } : Room) (pcP D cyI cyZ [.ref ha] (wT cyI ha hn hc t0)) (qI (f_X1_rowCount t0)) 0 0 nA := by
  refine Met.ofW (cc := cX1_rowCount) (maxL := 1) (ret := (some .int)) (by decide) rfl ?_
  intro p e s m args below meth c s₁ B hml hv
  obtain ⟨rfl, hP, hG⟩ := hv
  have hx := B.exec
  have hb := B.bytes
  have hr := B.returns
  have hts := atoms_spec (ws := wsX1_rowCount) B.pre
  have hown : s.vm.findClass RX1 = some m.cls := findClass_of_methodNamed B.named
  have hlocks := B.notSynchronized
  have hS : va_S nA s.heap s.heap [] := va_S.rf
  have hl := lv_entry ([.ref ha]) (n := 1) (Nat.le_of_ble_eq_true rfl)
  rw [lg_entry_eq]
  generalize (lg_sl ([.ref ha]) ++ List.replicate (1 - (lg_sl ([.ref ha])).length) Slot.unset).toArray = ls at hl ⊢
  have hl : lv_has ls 1 [(0, .ref ha)] := hl
  have hP : va_P D vwCl (wT cyI ha hn hc t0) s.heap := hP
  refine lv_aload_n hx hb dX1_rowCount_0 rfl (lv_at hl 0 rfl) ?_
  refine va_get (D := D) (ci := 1) (v := .int t0.2.1) (C := RX1) (T := TX1) (N := 4) hx hb hts uin_X1_rowCount_X1 hown hG.1 hP 0 rfl rfl 1 (by decide) (hts (.fieldLink RX1 15 "TableSplice$Table" "rowSet" "I") (List.mem_of_getElem? (i := 1) rfl)) (fun _ h9 => h9) rfl dX1_rowCount_1 ?_
  refine pr_i (va_runS (As := [.int t0.2.1]) (rest := []) ⟨hx, hb, hml, hown, hts⟩ (k_J6_bitCount_0f7a4 l D cyI cyZ t0.2.1) (va_cwS 1 hts gX1_rowCount_J6_bitCount_0f7a4 rfl rfl rfl (by decide +kernel) ⟨Nat.le_of_ble_eq_true rfl, Nat.le_of_ble_eq_true rfl⟩) (prS hG (hP.sub (ws' := []) [] rfl)) rfl rfl hl.1 rfl (lv_room (Nat.le_of_ble_eq_true rfl)) dX1_rowCount_4 ⟨Nat.zero_le _, Nat.zero_le _⟩) hS hP (fun H locs hP hS => ?_)
  have ef : f_X1_rowCount t0 = f_J6_bitCount_0f7a4 t0.2.1 := by rw [f_X1_rowCount]
  exact W.iret (v := f_J6_bitCount_0f7a4 t0.2.1) hx hb hr (fun t ht hW => ⟨⟨f_J6_bitCount_0f7a4 t0.2.1, (), rfl, ef.symm, trivial⟩, hS.F ht⟩) hS.2.2 dX1_rowCount_7
def f_X1_cellCount (t0 : Tr) : Int32 := (f_X1_columnCount t0) * (f_X1_rowCount t0)
theorem uin_X1_cellCount_X1 : ∀ w ∈ wsX10, w ∈ wsX1_cellCount := fun _ h => List.mem_cons_of_mem _ (List.mem_append_right _ h)
set_option maxHeartbeats 4000000 in
set_option maxRecDepth 100000 in
theorem k_X1_cellCount (l : Launch) (D : va_G) (cyI cyZ : ClassId) (ha : Nat) (hn : Nat) (hc : Nat) (t0 : Tr) : Met l yX1_cellCount wsX1_cellCount ({ frames := 2, cells := 0, slots := 0, locals := 40 } : Room) (pcP D cyI cyZ [.ref ha] (wT cyI ha hn hc t0)) (qI (f_X1_cellCount t0)) 0 0 nA := by
  refine Met.ofW (cc := cX1_cellCount) (maxL := 1) (ret := (some .int)) (by decide) rfl ?_
  intro p e s m args below meth c s₁ B hml hv
  obtain ⟨rfl, hP, hG⟩ := hv
  have hx := B.exec
  have hb := B.bytes
  have hr := B.returns
  have hts := atoms_spec (ws := wsX1_cellCount) B.pre
  have hown : s.vm.findClass RX1 = some m.cls := findClass_of_methodNamed B.named
  have hlocks := B.notSynchronized
  have hS : va_S nA s.heap s.heap [] := va_S.rf
  have hl := lv_entry ([.ref ha]) (n := 1) (Nat.le_of_ble_eq_true rfl)
  rw [lg_entry_eq]
  generalize (lg_sl ([.ref ha]) ++ List.replicate (1 - (lg_sl ([.ref ha])).length) Slot.unset).toArray = ls at hl ⊢
  have hl : lv_has ls 1 [(0, .ref ha)] := hl
  have hP : va_P D vwCl (wT cyI ha hn hc t0) s.heap := hP
  refine lv_aload_n hx hb dX1_cellCount_0 rfl (lv_at hl 0 rfl) ?_
  refine pr_i (va_runV (As := []) (rest := []) ⟨hx, hb, hml, hown, hts⟩ (k_X1_columnCount l D cyI cyZ ha hn hc t0) (cwV 0 hts gX1_cellCount_X1_columnCount rfl rfl rfl (by decide +kernel) ⟨Nat.le_of_ble_eq_true rfl, Nat.le_of_ble_eq_true rfl⟩) (prV hG hP (ci := 1) rfl rfl rfl) rfl rfl hl.1 rfl (lv_room (Nat.le_of_ble_eq_true rfl)) dX1_cellCount_1 ⟨Nat.zero_le _, Nat.zero_le _⟩) hS hP (fun H locs hP hS => ?_)
  refine lv_aload_n hx hb dX1_cellCount_4 rfl (lv_at hl 0 rfl) ?_
  refine pr_i (va_runV (As := []) (rest := [.int (f_X1_columnCount t0)]) ⟨hx, hb, hml, hown, hts⟩ (k_X1_rowCount l D cyI cyZ ha hn hc t0) (cwV 0 hts gX1_cellCount_X1_rowCount rfl rfl rfl (by decide +kernel) ⟨Nat.le_of_ble_eq_true rfl, Nat.le_of_ble_eq_true rfl⟩) (prV hG hP (ci := 1) rfl rfl rfl) rfl rfl hl.1 rfl (lv_room (Nat.le_of_ble_eq_true rfl)) dX1_cellCount_5 ⟨Nat.zero_le _, Nat.zero_le _⟩) hS hP (fun H locs hP hS => ?_)
  refine lv_imul hx hb dX1_cellCount_8 ?_
  have ef : f_X1_cellCount t0 = (f_X1_columnCount t0) * (f_X1_rowCount t0) := by rw [f_X1_cellCount]
  exact W.iret (v := (f_X1_columnCount t0) * (f_X1_rowCount t0)) hx hb hr (fun t ht hW => ⟨⟨(f_X1_columnCount t0) * (f_X1_rowCount t0), (), rfl, ef.symm, trivial⟩, hS.F ht⟩) hS.2.2 dX1_cellCount_9
def f_X1_nameAt (t0 : Tr) (p1 : Int32) : Int32 := if (f_X1_hasColumn t0 p1) = 0 then 0 else t0.2.2.1 (p1).toNatClampNeg
theorem uin_X1_nameAt_X1 : ∀ w ∈ wsX10, w ∈ wsX1_nameAt := fun _ h => List.mem_cons_of_mem _ (List.mem_append_right _ h)
set_option maxHeartbeats 4000000 in
set_option maxRecDepth 100000 in
theorem k_X1_nameAt (l : Launch) (D : va_G) (cyI cyZ : ClassId) (ha : Nat) (hn : Nat) (hc : Nat) (t0 : Tr) (p1 : Int32) : Met l yX1_nameAt wsX1_nameAt ({ frames := 1, cells := 0, slots := 0, locals := 21 } : Room) (pcP D cyI cyZ [.ref ha, .int p1] (wT cyI ha hn hc t0)) (qI (f_X1_nameAt t0 p1)) 0 0 nA := by
  refine Met.ofW (cc := cX1_nameAt) (maxL := 2) (ret := (some .int)) (by decide) rfl ?_
  intro p e s m args below meth c s₁ B hml hv
  obtain ⟨rfl, hP, hG⟩ := hv
  have hx := B.exec
  have hb := B.bytes
  have hr := B.returns
  have hts := atoms_spec (ws := wsX1_nameAt) B.pre
  have hown : s.vm.findClass RX1 = some m.cls := findClass_of_methodNamed B.named
  have hlocks := B.notSynchronized
  have hS : va_S nA s.heap s.heap [] := va_S.rf
  have hl := lv_entry ([.ref ha, .int p1]) (n := 2) (Nat.le_of_ble_eq_true rfl)
  rw [lg_entry_eq]
  generalize (lg_sl ([.ref ha, .int p1]) ++ List.replicate (2 - (lg_sl ([.ref ha, .int p1])).length) Slot.unset).toArray = ls at hl ⊢
  have hl : lv_has ls 2 [(0, .ref ha), (1, .int p1)] := hl
  have hP : va_P D vwCl (wT cyI ha hn hc t0) s.heap := hP
  refine lv_aload_n hx hb dX1_nameAt_0 rfl (lv_at hl 0 rfl) ?_
  refine lv_iload_n hx hb dX1_nameAt_1 rfl (lv_at hl 1 rfl) ?_
  refine pr_i (va_runV (As := [.int p1]) (rest := []) ⟨hx, hb, hml, hown, hts⟩ (k_X1_hasColumn l D cyI cyZ ha hn hc t0 p1) (cwV 1 hts gX1_nameAt_X1_hasColumn rfl rfl rfl (by decide +kernel) ⟨Nat.le_of_ble_eq_true rfl, Nat.le_of_ble_eq_true rfl⟩) (prV hG hP (ci := 1) rfl rfl rfl) rfl rfl hl.1 rfl (lv_room (Nat.le_of_ble_eq_true rfl)) dX1_nameAt_2 ⟨Nat.zero_le _, Nat.zero_le _⟩) hS hP (fun H locs hP hS => ?_)
  refine lv_if_eq (tgt := 17) hx hb dX1_nameAt_5 (by decide) (fun c_5 => ?_) (fun c_5 => ?_)
  · refine lv_iconst (v := 0) hx hb dX1_nameAt_17 (by decide) ?_
    have ef : f_X1_nameAt t0 p1 = 0 := by rw [f_X1_nameAt, if_pos c_5]
    exact W.iret (v := 0) hx hb hr (fun t ht hW => ⟨⟨0, (), rfl, ef.symm, trivial⟩, hS.F ht⟩) hS.2.2 dX1_nameAt_18
  · refine lv_aload_n hx hb dX1_nameAt_8 rfl (lv_at hl 0 rfl) ?_
    refine va_get (D := D) (ci := 1) (v := .ref hn) (C := RX1) (T := TX1) (N := 4) hx hb hts uin_X1_nameAt_X1 hown hG.1 hP 0 rfl rfl 2 (by decide) (hts (.fieldLink RX1 18 "TableSplice$Table" "names" "[I") (List.mem_of_getElem? (i := 1) rfl)) (fun _ h9 => h9) rfl dX1_nameAt_9 ?_
    refine lv_iload_n hx hb dX1_nameAt_12 rfl (lv_at hl 1 rfl) ?_
    refine va_iald hx hb hG.1 hP 1 0 rfl rfl (in_col c_5) dX1_nameAt_13 ?_
    refine lv_goto (tgt := 18) hx hb dX1_nameAt_14 (by decide) ?_
    have ef : f_X1_nameAt t0 p1 = t0.2.2.1 (p1).toNatClampNeg := by rw [f_X1_nameAt, if_neg c_5]
    exact W.iret (v := t0.2.2.1 (p1).toNatClampNeg) hx hb hr (fun t ht hW => ⟨⟨t0.2.2.1 (p1).toNatClampNeg, (), rfl, ef.symm, trivial⟩, hS.F ht⟩) hS.2.2 dX1_nameAt_18
def f_X1_cellAt (t0 : Tr) (p1 : Int32) (p2 : Int32) : Int32 := if (f_X1_hasCell t0 p1 p2) = 0 then 0 else t0.2.2.2 ((p1 * 8) + p2).toNatClampNeg
theorem uin_X1_cellAt_X1 : ∀ w ∈ wsX10, w ∈ wsX1_cellAt := fun _ h => List.mem_cons_of_mem _ (List.mem_append_right _ h)
set_option maxHeartbeats 4000000 in
set_option maxRecDepth 100000 in
theorem k_X1_cellAt (l : Launch) (D : va_G) (cyI cyZ : ClassId) (ha : Nat) (hn : Nat) (hc : Nat) (t0 : Tr) (p1 : Int32) (p2 : Int32) : Met l yX1_cellAt wsX1_cellAt ({ frames := 2, cells := 0, slots := 0, locals := 43 } : Room) (pcP D cyI cyZ [.ref ha, .int p1, .int p2] (wT cyI ha hn hc t0)) (qI (f_X1_cellAt t0 p1 p2)) 0 0 nA := by
  refine Met.ofW (cc := cX1_cellAt) (maxL := 3) (ret := (some .int)) (by decide) rfl ?_
  intro p e s m args below meth c s₁ B hml hv
  obtain ⟨rfl, hP, hG⟩ := hv
  have hx := B.exec
  have hb := B.bytes
  have hr := B.returns
  have hts := atoms_spec (ws := wsX1_cellAt) B.pre
  have hown : s.vm.findClass RX1 = some m.cls := findClass_of_methodNamed B.named
  have hlocks := B.notSynchronized
  have hS : va_S nA s.heap s.heap [] := va_S.rf
  have hl := lv_entry ([.ref ha, .int p1, .int p2]) (n := 3) (Nat.le_of_ble_eq_true rfl)
  rw [lg_entry_eq]
  generalize (lg_sl ([.ref ha, .int p1, .int p2]) ++ List.replicate (3 - (lg_sl ([.ref ha, .int p1, .int p2])).length) Slot.unset).toArray = ls at hl ⊢
  have hl : lv_has ls 3 [(0, .ref ha), (1, .int p1), (2, .int p2)] := hl
  have hP : va_P D vwCl (wT cyI ha hn hc t0) s.heap := hP
  refine lv_aload_n hx hb dX1_cellAt_0 rfl (lv_at hl 0 rfl) ?_
  refine lv_iload_n hx hb dX1_cellAt_1 rfl (lv_at hl 1 rfl) ?_
  refine lv_iload_n hx hb dX1_cellAt_2 rfl (lv_at hl 2 rfl) ?_
  refine pr_i (va_runV (As := [.int p1, .int p2]) (rest := []) ⟨hx, hb, hml, hown, hts⟩ (k_X1_hasCell l D cyI cyZ ha hn hc t0 p1 p2) (cwV 2 hts gX1_cellAt_X1_hasCell rfl rfl rfl (by decide +kernel) ⟨Nat.le_of_ble_eq_true rfl, Nat.le_of_ble_eq_true rfl⟩) (prV hG hP (ci := 1) rfl rfl rfl) rfl rfl hl.1 rfl (lv_room (Nat.le_of_ble_eq_true rfl)) dX1_cellAt_3 ⟨Nat.zero_le _, Nat.zero_le _⟩) hS hP (fun H locs hP hS => ?_)
  refine lv_if_eq (tgt := 23) hx hb dX1_cellAt_6 (by decide) (fun c_6 => ?_) (fun c_6 => ?_)
  · refine lv_iconst (v := 0) hx hb dX1_cellAt_23 (by decide) ?_
    have ef : f_X1_cellAt t0 p1 p2 = 0 := by rw [f_X1_cellAt, if_pos c_6]
    exact W.iret (v := 0) hx hb hr (fun t ht hW => ⟨⟨0, (), rfl, ef.symm, trivial⟩, hS.F ht⟩) hS.2.2 dX1_cellAt_24
  · refine lv_aload_n hx hb dX1_cellAt_9 rfl (lv_at hl 0 rfl) ?_
    refine va_get (D := D) (ci := 1) (v := .ref hc) (C := RX1) (T := TX1) (N := 4) hx hb hts uin_X1_cellAt_X1 hown hG.1 hP 0 rfl rfl 3 (by decide) (hts (.fieldLink RX1 22 "TableSplice$Table" "cells" "[I") (List.mem_of_getElem? (i := 1) rfl)) (fun _ h9 => h9) rfl dX1_cellAt_10 ?_
    refine lv_iload_n hx hb dX1_cellAt_13 rfl (lv_at hl 1 rfl) ?_
    refine lv_bipush (v := 8) hx hb dX1_cellAt_14 (by decide) ?_
    refine lv_imul hx hb dX1_cellAt_16 ?_
    refine lv_iload_n hx hb dX1_cellAt_17 rfl (lv_at hl 2 rfl) ?_
    refine lv_iadd hx hb dX1_cellAt_18 ?_
    refine va_iald hx hb hG.1 hP 2 0 rfl rfl (in_cell c_6) dX1_cellAt_19 ?_
    refine lv_goto (tgt := 24) hx hb dX1_cellAt_20 (by decide) ?_
    have ef : f_X1_cellAt t0 p1 p2 = t0.2.2.2 ((p1 * 8) + p2).toNatClampNeg := by rw [f_X1_cellAt, if_neg c_6]
    exact W.iret (v := t0.2.2.2 ((p1 * 8) + p2).toNatClampNeg) hx hb hr (fun t ht hW => ⟨⟨t0.2.2.2 ((p1 * 8) + p2).toNatClampNeg, (), rfl, ef.symm, trivial⟩, hS.F ht⟩) hS.2.2 dX1_cellAt_24
def f_X1_putColumn (t0 : Tr) (p1 : Int32) (p2 : Int32) : Tr := if (f_X2_isColumnNumber p1) = 0 then (t0) else ((t0.1 ||| (1 <<< (p1 &&& 31)), t0.2.1, upd t0.2.2.1 (p1).toNatClampNeg p2, t0.2.2.2))
theorem uin_X1_putColumn_X1 : ∀ w ∈ wsX10, w ∈ wsX1_putColumn := fun _ h => List.mem_cons_of_mem _ (List.mem_append_right _ h)
set_option maxHeartbeats 4000000 in
set_option maxRecDepth 100000 in
theorem k_X1_putColumn (l : Launch) (D : va_G) (cyI cyZ : ClassId) (ha : Nat) (hn : Nat) (hc : Nat) (t0 : Tr) (p1 : Int32) (p2 : Int32) (A : Nat → Prop) (sz : Nat) (hAe : A = va_A (wT cyI ha hn hc t0) sz) : Met l yX1_putColumn wsX1_putColumn ({ frames := 1, cells := 0, slots := 0, locals := 20 } : Room) (pcM D cyI cyZ sz [.ref ha, .int p1, .int p2] (wT cyI ha hn hc t0)) (mV D A (wT cyI ha hn hc (f_X1_putColumn t0 p1 p2))) 0 0 A := by
  refine Met.ofW (cc := cX1_putColumn) (maxL := 3) (ret := none) (by decide) rfl ?_
  intro p e s m args below meth c s₁ B hml hv
  obtain ⟨rfl, hsz, hP, hG, hD0⟩ := hv
  have hx := B.exec
  have hb := B.bytes
  have hr := B.returns
  have hts := atoms_spec (ws := wsX1_putColumn) B.pre
  have hown : s.vm.findClass RX1 = some m.cls := findClass_of_methodNamed B.named
  have hlocks := B.notSynchronized
  subst hsz
  have hD : va_D A (wT cyI ha hn hc t0) := by rw [hAe]; exact hD0.self
  have hA : ∀ q : Nat, s.heap.size ≤ q → A q := fun q h => by rw [hAe]; exact Or.inr h
  clear hAe hD0
  have hS : va_S nA s.heap s.heap [] := va_S.rf
  have hl := lv_entry ([.ref ha, .int p1, .int p2]) (n := 3) (Nat.le_of_ble_eq_true rfl)
  rw [lg_entry_eq]
  generalize (lg_sl ([.ref ha, .int p1, .int p2]) ++ List.replicate (3 - (lg_sl ([.ref ha, .int p1, .int p2])).length) Slot.unset).toArray = ls at hl ⊢
  have hl : lv_has ls 3 [(0, .ref ha), (1, .int p1), (2, .int p2)] := hl
  have hP : va_P D vwCl (wT cyI ha hn hc t0) s.heap := hP
  refine lv_iload_n hx hb dX1_putColumn_0 rfl (lv_at hl 1 rfl) ?_
  refine pr_i (va_runSN (As := [.int p1]) (rest := []) ⟨hx, hb, hml, hown, hts⟩ (k_X2_isColumnNumber l D cyI cyZ p1) ⟨va_cnB 1 hts gX1_putColumn_X2_isColumnNumber_n49 rfl rfl rfl (hG.2.1 (RX1, 49, yX2_isColumnNumber, "TableSplice") (List.mem_of_getElem? (i := 11) rfl)) (hts (.initialized RX2) (List.mem_of_getElem? (i := 4) rfl)) (by decide +kernel) ⟨Nat.le_of_ble_eq_true rfl, Nat.le_of_ble_eq_true rfl⟩, hts (.static yX2_isColumnNumber) (List.mem_of_getElem? (i := 3) rfl), trivial⟩ (prS hG (hP.sub (ws' := []) [] rfl)) rfl rfl hl.1 rfl (lv_room (Nat.le_of_ble_eq_true rfl)) dX1_putColumn_1 ⟨Nat.zero_le _, Nat.zero_le _⟩) hS hP (fun H locs hP hS => ?_)
  refine lv_if_eq (tgt := 26) hx hb dX1_putColumn_4 (by decide) (fun c_4 => ?_) (fun c_4 => ?_)
  · have hS := sw_n (B := A) hS
    have ef : f_X1_putColumn t0 p1 p2 = t0 := by rw [f_X1_putColumn, if_pos c_4]
    exact W.vret hx hb hr (fun t ht hW => ⟨⟨(), rfl, trivial, by rw [ht, ef]; exact hP, by rw [ef]; exact hD⟩, hS.F ht⟩) hS.2.2 dX1_putColumn_26
  · refine lv_aload_n hx hb dX1_putColumn_7 rfl (lv_at hl 0 rfl) ?_
    refine lv_dup hx hb dX1_putColumn_8 rfl ?_
    refine va_get (D := D) (ci := 1) (v := .int t0.1) (C := RX1) (T := TX1) (N := 4) hx hb hts uin_X1_putColumn_X1 hown hG.1 hP 0 rfl rfl 0 (by decide) (hts (.fieldLink RX1 9 "TableSplice$Table" "columnSet" "I") (List.mem_of_getElem? (i := 1) rfl)) (fun _ h9 => h9) rfl dX1_putColumn_9 ?_
    refine lv_iconst (v := 1) hx hb dX1_putColumn_12 (by decide) ?_
    refine lv_iload_n hx hb dX1_putColumn_13 rfl (lv_at hl 1 rfl) ?_
    refine lv_ishl hx hb dX1_putColumn_14 ?_
    refine lv_ior hx hb dX1_putColumn_15 ?_
    have hS := sw_n (B := A) hS
    refine va_put (D := D) (ci := 1) (v := .int (t0.1 ||| (1 <<< (p1 &&& 31)))) (ty := .int) (C := RX1) (T := TX1) (N := 4) hx hb hts uin_X1_putColumn_X1 tyX1 tyX1_ok nmX1 hown hG.1 hP hD hS 0 rfl rfl 0 (by decide) (hts (.fieldLink RX1 9 "TableSplice$Table" "columnSet" "I") (List.mem_of_getElem? (i := 1) rfl)) (fun _ h9 => h9) rfl (by decide +kernel) rfl rfl (Nat.le_of_ble_eq_true rfl) dX1_putColumn_16 (fun H locs hP hD hS => ?_)
    have hP : va_P D vwCl (wT cyI ha hn hc (t0.1 ||| (1 <<< (p1 &&& 31)), t0.2.1, t0.2.2.1, t0.2.2.2)) H := hP
    have hD : va_D A (wT cyI ha hn hc (t0.1 ||| (1 <<< (p1 &&& 31)), t0.2.1, t0.2.2.1, t0.2.2.2)) := hD
    refine lv_aload_n hx hb dX1_putColumn_19 rfl (lv_at hl 0 rfl) ?_
    refine va_get (D := D) (ci := 1) (v := .ref hn) (C := RX1) (T := TX1) (N := 4) hx hb hts uin_X1_putColumn_X1 hown hG.1 hP 0 rfl rfl 2 (by decide) (hts (.fieldLink RX1 18 "TableSplice$Table" "names" "[I") (List.mem_of_getElem? (i := 2) rfl)) (fun _ h9 => h9) rfl dX1_putColumn_20 ?_
    refine lv_iload_n hx hb dX1_putColumn_23 rfl (lv_at hl 1 rfl) ?_
    refine lv_iload_n hx hb dX1_putColumn_24 rfl (lv_at hl 2 rfl) ?_
    refine va_iast hx hb hG.1 hP hD hS 1 0 rfl rfl (in_colnum c_4) dX1_putColumn_25 (fun H locs hP hD hS => ?_)
    have hP : va_P D vwCl (wT cyI ha hn hc (t0.1 ||| (1 <<< (p1 &&& 31)), t0.2.1, upd t0.2.2.1 (p1).toNatClampNeg p2, t0.2.2.2)) H := hP
    have hD : va_D A (wT cyI ha hn hc (t0.1 ||| (1 <<< (p1 &&& 31)), t0.2.1, upd t0.2.2.1 (p1).toNatClampNeg p2, t0.2.2.2)) := hD
    have ef : f_X1_putColumn t0 p1 p2 = (t0.1 ||| (1 <<< (p1 &&& 31)), t0.2.1, upd t0.2.2.1 (p1).toNatClampNeg p2, t0.2.2.2) := by rw [f_X1_putColumn, if_neg c_4]
    exact W.vret hx hb hr (fun t ht hW => ⟨⟨(), rfl, trivial, by rw [ht, ef]; exact hP, by rw [ef]; exact hD⟩, hS.F ht⟩) hS.2.2 dX1_putColumn_26
def f_X1_putName (t0 : Tr) (p1 : Int32) (p2 : Int32) : Tr := if (f_X1_hasColumn t0 p1) = 0 then (t0) else ((t0.1, t0.2.1, upd t0.2.2.1 (p1).toNatClampNeg p2, t0.2.2.2))
theorem uin_X1_putName_X1 : ∀ w ∈ wsX10, w ∈ wsX1_putName := fun _ h => List.mem_cons_of_mem _ (List.mem_append_right _ h)
set_option maxHeartbeats 4000000 in
set_option maxRecDepth 100000 in
theorem k_X1_putName (l : Launch) (D : va_G) (cyI cyZ : ClassId) (ha : Nat) (hn : Nat) (hc : Nat) (t0 : Tr) (p1 : Int32) (p2 : Int32) (A : Nat → Prop) (sz : Nat) (hAe : A = va_A (wT cyI ha hn hc t0) sz) : Met l yX1_putName wsX1_putName ({ frames := 1, cells := 0, slots := 0, locals := 21 } : Room) (pcM D cyI cyZ sz [.ref ha, .int p1, .int p2] (wT cyI ha hn hc t0)) (mV D A (wT cyI ha hn hc (f_X1_putName t0 p1 p2))) 0 0 A := by
  refine Met.ofW (cc := cX1_putName) (maxL := 3) (ret := none) (by decide) rfl ?_
  intro p e s m args below meth c s₁ B hml hv
  obtain ⟨rfl, hsz, hP, hG, hD0⟩ := hv
  have hx := B.exec
  have hb := B.bytes
  have hr := B.returns
  have hts := atoms_spec (ws := wsX1_putName) B.pre
  have hown : s.vm.findClass RX1 = some m.cls := findClass_of_methodNamed B.named
  have hlocks := B.notSynchronized
  subst hsz
  have hD : va_D A (wT cyI ha hn hc t0) := by rw [hAe]; exact hD0.self
  have hA : ∀ q : Nat, s.heap.size ≤ q → A q := fun q h => by rw [hAe]; exact Or.inr h
  clear hAe hD0
  have hS : va_S nA s.heap s.heap [] := va_S.rf
  have hl := lv_entry ([.ref ha, .int p1, .int p2]) (n := 3) (Nat.le_of_ble_eq_true rfl)
  rw [lg_entry_eq]
  generalize (lg_sl ([.ref ha, .int p1, .int p2]) ++ List.replicate (3 - (lg_sl ([.ref ha, .int p1, .int p2])).length) Slot.unset).toArray = ls at hl ⊢
  have hl : lv_has ls 3 [(0, .ref ha), (1, .int p1), (2, .int p2)] := hl
  have hP : va_P D vwCl (wT cyI ha hn hc t0) s.heap := hP
  refine lv_aload_n hx hb dX1_putName_0 rfl (lv_at hl 0 rfl) ?_
  refine lv_iload_n hx hb dX1_putName_1 rfl (lv_at hl 1 rfl) ?_
  refine pr_i (va_runV (As := [.int p1]) (rest := []) ⟨hx, hb, hml, hown, hts⟩ (k_X1_hasColumn l D cyI cyZ ha hn hc t0 p1) (cwV 1 hts gX1_putName_X1_hasColumn rfl rfl rfl (by decide +kernel) ⟨Nat.le_of_ble_eq_true rfl, Nat.le_of_ble_eq_true rfl⟩) (prV hG hP (ci := 1) rfl rfl rfl) rfl rfl hl.1 rfl (lv_room (Nat.le_of_ble_eq_true rfl)) dX1_putName_2 ⟨Nat.zero_le _, Nat.zero_le _⟩) hS hP (fun H locs hP hS => ?_)
  refine lv_if_eq (tgt := 15) hx hb dX1_putName_5 (by decide) (fun c_5 => ?_) (fun c_5 => ?_)
  · have hS := sw_n (B := A) hS
    have ef : f_X1_putName t0 p1 p2 = t0 := by rw [f_X1_putName, if_pos c_5]
    exact W.vret hx hb hr (fun t ht hW => ⟨⟨(), rfl, trivial, by rw [ht, ef]; exact hP, by rw [ef]; exact hD⟩, hS.F ht⟩) hS.2.2 dX1_putName_15
  · refine lv_aload_n hx hb dX1_putName_8 rfl (lv_at hl 0 rfl) ?_
    refine va_get (D := D) (ci := 1) (v := .ref hn) (C := RX1) (T := TX1) (N := 4) hx hb hts uin_X1_putName_X1 hown hG.1 hP 0 rfl rfl 2 (by decide) (hts (.fieldLink RX1 18 "TableSplice$Table" "names" "[I") (List.mem_of_getElem? (i := 1) rfl)) (fun _ h9 => h9) rfl dX1_putName_9 ?_
    refine lv_iload_n hx hb dX1_putName_12 rfl (lv_at hl 1 rfl) ?_
    refine lv_iload_n hx hb dX1_putName_13 rfl (lv_at hl 2 rfl) ?_
    have hS := sw_n (B := A) hS
    refine va_iast hx hb hG.1 hP hD hS 1 0 rfl rfl (in_col c_5) dX1_putName_14 (fun H locs hP hD hS => ?_)
    have hP : va_P D vwCl (wT cyI ha hn hc (t0.1, t0.2.1, upd t0.2.2.1 (p1).toNatClampNeg p2, t0.2.2.2)) H := hP
    have hD : va_D A (wT cyI ha hn hc (t0.1, t0.2.1, upd t0.2.2.1 (p1).toNatClampNeg p2, t0.2.2.2)) := hD
    have ef : f_X1_putName t0 p1 p2 = (t0.1, t0.2.1, upd t0.2.2.1 (p1).toNatClampNeg p2, t0.2.2.2) := by rw [f_X1_putName, if_neg c_5]
    exact W.vret hx hb hr (fun t ht hW => ⟨⟨(), rfl, trivial, by rw [ht, ef]; exact hP, by rw [ef]; exact hD⟩, hS.F ht⟩) hS.2.2 dX1_putName_15
def f_X1_putRow (t0 : Tr) (p1 : Int32) : Tr := if (f_X2_isKey p1) = 0 then (t0) else ((t0.1, t0.2.1 ||| (1 <<< (p1 &&& 31)), t0.2.2.1, t0.2.2.2))
theorem uin_X1_putRow_X1 : ∀ w ∈ wsX10, w ∈ wsX1_putRow := fun _ h => List.mem_cons_of_mem _ (List.mem_append_right _ h)
set_option maxHeartbeats 4000000 in
set_option maxRecDepth 100000 in
theorem k_X1_putRow (l : Launch) (D : va_G) (cyI cyZ : ClassId) (ha : Nat) (hn : Nat) (hc : Nat) (t0 : Tr) (p1 : Int32) (A : Nat → Prop) (sz : Nat) (hAe : A = va_A (wT cyI ha hn hc t0) sz) : Met l yX1_putRow wsX1_putRow ({ frames := 1, cells := 0, slots := 0, locals := 20 } : Room) (pcM D cyI cyZ sz [.ref ha, .int p1] (wT cyI ha hn hc t0)) (mV D A (wT cyI ha hn hc (f_X1_putRow t0 p1))) 0 0 A := by
  refine Met.ofW (cc := cX1_putRow) (maxL := 2) (ret := none) (by decide) rfl ?_
  intro p e s m args below meth c s₁ B hml hv
  obtain ⟨rfl, hsz, hP, hG, hD0⟩ := hv
  have hx := B.exec
  have hb := B.bytes
  have hr := B.returns
  have hts := atoms_spec (ws := wsX1_putRow) B.pre
  have hown : s.vm.findClass RX1 = some m.cls := findClass_of_methodNamed B.named
  have hlocks := B.notSynchronized
  subst hsz
  have hD : va_D A (wT cyI ha hn hc t0) := by rw [hAe]; exact hD0.self
  have hA : ∀ q : Nat, s.heap.size ≤ q → A q := fun q h => by rw [hAe]; exact Or.inr h
  clear hAe hD0
  have hS : va_S nA s.heap s.heap [] := va_S.rf
  have hl := lv_entry ([.ref ha, .int p1]) (n := 2) (Nat.le_of_ble_eq_true rfl)
  rw [lg_entry_eq]
  generalize (lg_sl ([.ref ha, .int p1]) ++ List.replicate (2 - (lg_sl ([.ref ha, .int p1])).length) Slot.unset).toArray = ls at hl ⊢
  have hl : lv_has ls 2 [(0, .ref ha), (1, .int p1)] := hl
  have hP : va_P D vwCl (wT cyI ha hn hc t0) s.heap := hP
  refine lv_iload_n hx hb dX1_putRow_0 rfl (lv_at hl 1 rfl) ?_
  refine pr_i (va_runSN (As := [.int p1]) (rest := []) ⟨hx, hb, hml, hown, hts⟩ (k_X2_isKey l D cyI cyZ p1) ⟨va_cnB 1 hts gX1_putRow_X2_isKey_n56 rfl rfl rfl (hG.2.1 (RX1, 56, yX2_isKey, "TableSplice") (List.mem_of_getElem? (i := 16) rfl)) (hts (.initialized RX2) (List.mem_of_getElem? (i := 3) rfl)) (by decide +kernel) ⟨Nat.le_of_ble_eq_true rfl, Nat.le_of_ble_eq_true rfl⟩, hts (.static yX2_isKey) (List.mem_of_getElem? (i := 2) rfl), trivial⟩ (prS hG (hP.sub (ws' := []) [] rfl)) rfl rfl hl.1 rfl (lv_room (Nat.le_of_ble_eq_true rfl)) dX1_putRow_1 ⟨Nat.zero_le _, Nat.zero_le _⟩) hS hP (fun H locs hP hS => ?_)
  refine lv_if_eq (tgt := 19) hx hb dX1_putRow_4 (by decide) (fun c_4 => ?_) (fun c_4 => ?_)
  · have hS := sw_n (B := A) hS
    have ef : f_X1_putRow t0 p1 = t0 := by rw [f_X1_putRow, if_pos c_4]
    exact W.vret hx hb hr (fun t ht hW => ⟨⟨(), rfl, trivial, by rw [ht, ef]; exact hP, by rw [ef]; exact hD⟩, hS.F ht⟩) hS.2.2 dX1_putRow_19
  · refine lv_aload_n hx hb dX1_putRow_7 rfl (lv_at hl 0 rfl) ?_
    refine lv_dup hx hb dX1_putRow_8 rfl ?_
    refine va_get (D := D) (ci := 1) (v := .int t0.2.1) (C := RX1) (T := TX1) (N := 4) hx hb hts uin_X1_putRow_X1 hown hG.1 hP 0 rfl rfl 1 (by decide) (hts (.fieldLink RX1 15 "TableSplice$Table" "rowSet" "I") (List.mem_of_getElem? (i := 1) rfl)) (fun _ h9 => h9) rfl dX1_putRow_9 ?_
    refine lv_iconst (v := 1) hx hb dX1_putRow_12 (by decide) ?_
    refine lv_iload_n hx hb dX1_putRow_13 rfl (lv_at hl 1 rfl) ?_
    refine lv_ishl hx hb dX1_putRow_14 ?_
    refine lv_ior hx hb dX1_putRow_15 ?_
    have hS := sw_n (B := A) hS
    refine va_put (D := D) (ci := 1) (v := .int (t0.2.1 ||| (1 <<< (p1 &&& 31)))) (ty := .int) (C := RX1) (T := TX1) (N := 4) hx hb hts uin_X1_putRow_X1 tyX1 tyX1_ok nmX1 hown hG.1 hP hD hS 0 rfl rfl 1 (by decide) (hts (.fieldLink RX1 15 "TableSplice$Table" "rowSet" "I") (List.mem_of_getElem? (i := 1) rfl)) (fun _ h9 => h9) rfl (by decide +kernel) rfl rfl (Nat.le_of_ble_eq_true rfl) dX1_putRow_16 (fun H locs hP hD hS => ?_)
    have hP : va_P D vwCl (wT cyI ha hn hc (t0.1, t0.2.1 ||| (1 <<< (p1 &&& 31)), t0.2.2.1, t0.2.2.2)) H := hP
    have hD : va_D A (wT cyI ha hn hc (t0.1, t0.2.1 ||| (1 <<< (p1 &&& 31)), t0.2.2.1, t0.2.2.2)) := hD
    have ef : f_X1_putRow t0 p1 = (t0.1, t0.2.1 ||| (1 <<< (p1 &&& 31)), t0.2.2.1, t0.2.2.2) := by rw [f_X1_putRow, if_neg c_4]
    exact W.vret hx hb hr (fun t ht hW => ⟨⟨(), rfl, trivial, by rw [ht, ef]; exact hP, by rw [ef]; exact hD⟩, hS.F ht⟩) hS.2.2 dX1_putRow_19
def f_X1_putCell (t0 : Tr) (p1 : Int32) (p2 : Int32) (p3 : Int32) : Tr := if (f_X1_hasCell t0 p1 p2) = 0 then (t0) else ((t0.1, t0.2.1, t0.2.2.1, upd t0.2.2.2 ((p1 * 8) + p2).toNatClampNeg p3))
theorem uin_X1_putCell_X1 : ∀ w ∈ wsX10, w ∈ wsX1_putCell := fun _ h => List.mem_cons_of_mem _ (List.mem_append_right _ h)
set_option maxHeartbeats 4000000 in
set_option maxRecDepth 100000 in
theorem k_X1_putCell (l : Launch) (D : va_G) (cyI cyZ : ClassId) (ha : Nat) (hn : Nat) (hc : Nat) (t0 : Tr) (p1 : Int32) (p2 : Int32) (p3 : Int32) (A : Nat → Prop) (sz : Nat) (hAe : A = va_A (wT cyI ha hn hc t0) sz) : Met l yX1_putCell wsX1_putCell ({ frames := 2, cells := 0, slots := 0, locals := 43 } : Room) (pcM D cyI cyZ sz [.ref ha, .int p1, .int p2, .int p3] (wT cyI ha hn hc t0)) (mV D A (wT cyI ha hn hc (f_X1_putCell t0 p1 p2 p3))) 0 0 A := by
  refine Met.ofW (cc := cX1_putCell) (maxL := 4) (ret := none) (by decide) rfl ?_
  intro p e s m args below meth c s₁ B hml hv
  obtain ⟨rfl, hsz, hP, hG, hD0⟩ := hv
  have hx := B.exec
  have hb := B.bytes
  have hr := B.returns
  have hts := atoms_spec (ws := wsX1_putCell) B.pre
  have hown : s.vm.findClass RX1 = some m.cls := findClass_of_methodNamed B.named
  have hlocks := B.notSynchronized
  subst hsz
  have hD : va_D A (wT cyI ha hn hc t0) := by rw [hAe]; exact hD0.self
  have hA : ∀ q : Nat, s.heap.size ≤ q → A q := fun q h => by rw [hAe]; exact Or.inr h
  clear hAe hD0
  have hS : va_S nA s.heap s.heap [] := va_S.rf
  have hl := lv_entry ([.ref ha, .int p1, .int p2, .int p3]) (n := 4) (Nat.le_of_ble_eq_true rfl)
  rw [lg_entry_eq]
  generalize (lg_sl ([.ref ha, .int p1, .int p2, .int p3]) ++ List.replicate (4 - (lg_sl ([.ref ha, .int p1, .int p2, .int p3])).length) Slot.unset).toArray = ls at hl ⊢
  have hl : lv_has ls 4 [(0, .ref ha), (1, .int p1), (2, .int p2), (3, .int p3)] := hl
  have hP : va_P D vwCl (wT cyI ha hn hc t0) s.heap := hP
  refine lv_aload_n hx hb dX1_putCell_0 rfl (lv_at hl 0 rfl) ?_
  refine lv_iload_n hx hb dX1_putCell_1 rfl (lv_at hl 1 rfl) ?_
  refine lv_iload_n hx hb dX1_putCell_2 rfl (lv_at hl 2 rfl) ?_
  refine pr_i (va_runV (As := [.int p1, .int p2]) (rest := []) ⟨hx, hb, hml, hown, hts⟩ (k_X1_hasCell l D cyI cyZ ha hn hc t0 p1 p2) (cwV 2 hts gX1_putCell_X1_hasCell rfl rfl rfl (by decide +kernel) ⟨Nat.le_of_ble_eq_true rfl, Nat.le_of_ble_eq_true rfl⟩) (prV hG hP (ci := 1) rfl rfl rfl) rfl rfl hl.1 rfl (lv_room (Nat.le_of_ble_eq_true rfl)) dX1_putCell_3 ⟨Nat.zero_le _, Nat.zero_le _⟩) hS hP (fun H locs hP hS => ?_)
  refine lv_if_eq (tgt := 21) hx hb dX1_putCell_6 (by decide) (fun c_6 => ?_) (fun c_6 => ?_)
  · have hS := sw_n (B := A) hS
    have ef : f_X1_putCell t0 p1 p2 p3 = t0 := by rw [f_X1_putCell, if_pos c_6]
    exact W.vret hx hb hr (fun t ht hW => ⟨⟨(), rfl, trivial, by rw [ht, ef]; exact hP, by rw [ef]; exact hD⟩, hS.F ht⟩) hS.2.2 dX1_putCell_21
  · refine lv_aload_n hx hb dX1_putCell_9 rfl (lv_at hl 0 rfl) ?_
    refine va_get (D := D) (ci := 1) (v := .ref hc) (C := RX1) (T := TX1) (N := 4) hx hb hts uin_X1_putCell_X1 hown hG.1 hP 0 rfl rfl 3 (by decide) (hts (.fieldLink RX1 22 "TableSplice$Table" "cells" "[I") (List.mem_of_getElem? (i := 1) rfl)) (fun _ h9 => h9) rfl dX1_putCell_10 ?_
    refine lv_iload_n hx hb dX1_putCell_13 rfl (lv_at hl 1 rfl) ?_
    refine lv_bipush (v := 8) hx hb dX1_putCell_14 (by decide) ?_
    refine lv_imul hx hb dX1_putCell_16 ?_
    refine lv_iload_n hx hb dX1_putCell_17 rfl (lv_at hl 2 rfl) ?_
    refine lv_iadd hx hb dX1_putCell_18 ?_
    refine lv_iload_n hx hb dX1_putCell_19 rfl (lv_at hl 3 rfl) ?_
    have hS := sw_n (B := A) hS
    refine va_iast hx hb hG.1 hP hD hS 2 0 rfl rfl (in_cell c_6) dX1_putCell_20 (fun H locs hP hD hS => ?_)
    have hP : va_P D vwCl (wT cyI ha hn hc (t0.1, t0.2.1, t0.2.2.1, upd t0.2.2.2 ((p1 * 8) + p2).toNatClampNeg p3)) H := hP
    have hD : va_D A (wT cyI ha hn hc (t0.1, t0.2.1, t0.2.2.1, upd t0.2.2.2 ((p1 * 8) + p2).toNatClampNeg p3)) := hD
    have ef : f_X1_putCell t0 p1 p2 p3 = (t0.1, t0.2.1, t0.2.2.1, upd t0.2.2.2 ((p1 * 8) + p2).toNatClampNeg p3) := by rw [f_X1_putCell, if_neg c_6]
    exact W.vret hx hb hr (fun t ht hW => ⟨⟨(), rfl, trivial, by rw [ht, ef]; exact hP, by rw [ef]; exact hD⟩, hS.F ht⟩) hS.2.2 dX1_putCell_21
def f_X1_cutColumn_sa (p1 : Int32) (ia : Nat) (t0_a : Tr) : Tr := (f_X1_putCell t0_a (nI ia) p1 0)
def f_X1_cutColumn (t0 : Tr) (p1 : Int32) : Tr := if (f_X1_hasColumn t0 p1) = 0 then (t0) else ((((it (fun (i9 : Nat) (z9 : Tr) => f_X1_cutColumn_sa p1 i9 z9) t0 24).1) &&& ((1 <<< (p1 &&& 31)) ^^^ (-1)), (it (fun (i9 : Nat) (z9 : Tr) => f_X1_cutColumn_sa p1 i9 z9) t0 24).2.1, upd ((it (fun (i9 : Nat) (z9 : Tr) => f_X1_cutColumn_sa p1 i9 z9) t0 24).2.2.1) (p1).toNatClampNeg 0, (it (fun (i9 : Nat) (z9 : Tr) => f_X1_cutColumn_sa p1 i9 z9) t0 24).2.2.2))
theorem uin_X1_cutColumn_X1 : ∀ w ∈ wsX10, w ∈ wsX1_cutColumn := fun _ h => List.mem_cons_of_mem _ (List.mem_append_right _ h)
set_option maxHeartbeats 4000000 in
set_option maxRecDepth 100000 in
theorem k_X1_cutColumn (l : Launch) (D : va_G) (cyI cyZ : ClassId) (ha : Nat) (hn : Nat) (hc : Nat) (t0 : Tr) (p1 : Int32) (A : Nat → Prop) (sz : Nat) (hAe : A = va_A (wT cyI ha hn hc t0) sz) : Met l yX1_cutColumn wsX1_cutColumn ({ frames := 3, cells := 0, slots := 0, locals := 66 } : Room) (pcM D cyI cyZ sz [.ref ha, .int p1] (wT cyI ha hn hc t0)) (mV D A (wT cyI ha hn hc (f_X1_cutColumn t0 p1))) 0 0 A := by
  refine Met.ofW (cc := cX1_cutColumn) (maxL := 3) (ret := none) (by decide) rfl ?_
  intro p e s m args below meth c s₁ B hml hv
  obtain ⟨rfl, hsz, hP, hG, hD0⟩ := hv
  have hx := B.exec
  have hb := B.bytes
  have hr := B.returns
  have hts := atoms_spec (ws := wsX1_cutColumn) B.pre
  have hown : s.vm.findClass RX1 = some m.cls := findClass_of_methodNamed B.named
  have hlocks := B.notSynchronized
  subst hsz
  have hD : va_D A (wT cyI ha hn hc t0) := by rw [hAe]; exact hD0.self
  have hA : ∀ q : Nat, s.heap.size ≤ q → A q := fun q h => by rw [hAe]; exact Or.inr h
  clear hAe hD0
  have hS : va_S nA s.heap s.heap [] := va_S.rf
  have hl := lv_entry ([.ref ha, .int p1]) (n := 3) (Nat.le_of_ble_eq_true rfl)
  rw [lg_entry_eq]
  generalize (lg_sl ([.ref ha, .int p1]) ++ List.replicate (3 - (lg_sl ([.ref ha, .int p1])).length) Slot.unset).toArray = ls at hl ⊢
  have hl : lv_has ls 3 [(0, .ref ha), (1, .int p1)] := hl
  have hP : va_P D vwCl (wT cyI ha hn hc t0) s.heap := hP
  refine lv_aload_n hx hb dX1_cutColumn_0 rfl (lv_at hl 0 rfl) ?_
  refine lv_iload_n hx hb dX1_cutColumn_1 rfl (lv_at hl 1 rfl) ?_
  refine pr_i (va_runV (As := [.int p1]) (rest := []) ⟨hx, hb, hml, hown, hts⟩ (k_X1_hasColumn l D cyI cyZ ha hn hc t0 p1) (cwV 1 hts gX1_cutColumn_X1_hasColumn rfl rfl rfl (by decide +kernel) ⟨Nat.le_of_ble_eq_true rfl, Nat.le_of_ble_eq_true rfl⟩) (prV hG hP (ci := 1) rfl rfl rfl) rfl rfl hl.1 rfl (lv_room (Nat.le_of_ble_eq_true rfl)) dX1_cutColumn_2 ⟨Nat.zero_le _, Nat.zero_le _⟩) hS hP (fun H locs hP hS => ?_)
  refine lv_if_ne (tgt := 9) hx hb dX1_cutColumn_5 (by decide) (fun c_5 => ?_) (fun c_5 => ?_)
  · refine lv_iconst (v := 0) hx hb dX1_cutColumn_9 (by decide) ?_
    refine lv_istore_n (lv' := [(2, .int 0), (0, .ref ha), (1, .int p1)]) hx hb dX1_cutColumn_10 rfl hl (by decide) rfl (fun ls hl => ?_)
    have hS := sw_n (B := A) hS
    have lp_a : ∀ (n ia : Nat), ia + n = 24 → ∀ (t0_a : Tr), t0_a = it (fun (i9 : Nat) (z9 : Tr) => f_X1_cutColumn_sa p1 i9 z9) t0 ia → ∀ (H : Heap) (locs : List Loc), va_P D vwCl (wT cyI ha hn hc t0_a) H → va_D A (wT cyI ha hn hc t0_a) → va_S A s.heap H locs → ∀ (ls : Array Slot), lv_has ls 3 [(2, .int (nI ia)), (0, .ref ha), (1, .int p1)] → W p l e (headSpec wsX1_cutColumn ({ frames := 3, cells := 0, slots := 0, locals := 66 } : Room)).room s m ([.ref ha, .int p1] : List Value).toArray below meth c H locs 0 0 (MQ below (mV D A (wT cyI ha hn hc (f_X1_cutColumn t0 p1))) ([.ref ha, .int p1] : List Value).toArray s 0 0 A) (F0 m 11 ls []) := by
      intro n
      induction n with
      | zero =>
        intro ia hi_a t0_a hs_a H locs hP hD hS ls hl
        obtain rfl : 24 = ia := by omega
        obtain rfl : t0_a = it (fun (i9 : Nat) (z9 : Tr) => f_X1_cutColumn_sa p1 i9 z9) t0 24 := hs_a
        refine lv_iload_n hx hb dX1_cutColumn_11 rfl (lv_at hl 0 rfl) ?_
        refine lv_bipush (v := 24) hx hb dX1_cutColumn_12 (by decide) ?_
        refine lv_icmp_ge (tgt := 30) hx hb dX1_cutColumn_14 (by decide) (fun c_14 => ?_) (fun c_14 => ?_)
        · refine lv_aload_n hx hb dX1_cutColumn_30 rfl (lv_at hl 1 rfl) ?_
          refine va_get (D := D) (ci := 1) (v := .ref hn) (C := RX1) (T := TX1) (N := 4) hx hb hts uin_X1_cutColumn_X1 hown hG.1 hP 0 rfl rfl 2 (by decide) (hts (.fieldLink RX1 18 "TableSplice$Table" "names" "[I") (List.mem_of_getElem? (i := 1) rfl)) (fun _ h9 => h9) rfl dX1_cutColumn_31 ?_
          refine lv_iload_n hx hb dX1_cutColumn_34 rfl (lv_at hl 2 rfl) ?_
          refine lv_iconst (v := 0) hx hb dX1_cutColumn_35 (by decide) ?_
          refine va_iast hx hb hG.1 hP hD hS 1 0 rfl rfl (in_col c_5) dX1_cutColumn_36 (fun H locs hP hD hS => ?_)
          have hP : va_P D vwCl (wT cyI ha hn hc ((it (fun (i9 : Nat) (z9 : Tr) => f_X1_cutColumn_sa p1 i9 z9) t0 24).1, (it (fun (i9 : Nat) (z9 : Tr) => f_X1_cutColumn_sa p1 i9 z9) t0 24).2.1, upd ((it (fun (i9 : Nat) (z9 : Tr) => f_X1_cutColumn_sa p1 i9 z9) t0 24).2.2.1) (p1).toNatClampNeg 0, (it (fun (i9 : Nat) (z9 : Tr) => f_X1_cutColumn_sa p1 i9 z9) t0 24).2.2.2)) H := hP
          have hD : va_D A (wT cyI ha hn hc ((it (fun (i9 : Nat) (z9 : Tr) => f_X1_cutColumn_sa p1 i9 z9) t0 24).1, (it (fun (i9 : Nat) (z9 : Tr) => f_X1_cutColumn_sa p1 i9 z9) t0 24).2.1, upd ((it (fun (i9 : Nat) (z9 : Tr) => f_X1_cutColumn_sa p1 i9 z9) t0 24).2.2.1) (p1).toNatClampNeg 0, (it (fun (i9 : Nat) (z9 : Tr) => f_X1_cutColumn_sa p1 i9 z9) t0 24).2.2.2)) := hD
          refine lv_aload_n hx hb dX1_cutColumn_37 rfl (lv_at hl 1 rfl) ?_
          refine lv_dup hx hb dX1_cutColumn_38 rfl ?_
          refine va_get (D := D) (ci := 1) (v := .int ((it (fun (i9 : Nat) (z9 : Tr) => f_X1_cutColumn_sa p1 i9 z9) t0 24).1)) (C := RX1) (T := TX1) (N := 4) hx hb hts uin_X1_cutColumn_X1 hown hG.1 hP 0 rfl rfl 0 (by decide) (hts (.fieldLink RX1 9 "TableSplice$Table" "columnSet" "I") (List.mem_of_getElem? (i := 2) rfl)) (fun _ h9 => h9) rfl dX1_cutColumn_39 ?_
          refine lv_iconst (v := 1) hx hb dX1_cutColumn_42 (by decide) ?_
          refine lv_iload_n hx hb dX1_cutColumn_43 rfl (lv_at hl 2 rfl) ?_
          refine lv_ishl hx hb dX1_cutColumn_44 ?_
          refine lv_iconst (v := (-1)) hx hb dX1_cutColumn_45 (by decide) ?_
          refine lv_ixor hx hb dX1_cutColumn_46 ?_
          refine lv_iand hx hb dX1_cutColumn_47 ?_
          refine va_put (D := D) (ci := 1) (v := .int (((it (fun (i9 : Nat) (z9 : Tr) => f_X1_cutColumn_sa p1 i9 z9) t0 24).1) &&& ((1 <<< (p1 &&& 31)) ^^^ (-1)))) (ty := .int) (C := RX1) (T := TX1) (N := 4) hx hb hts uin_X1_cutColumn_X1 tyX1 tyX1_ok nmX1 hown hG.1 hP hD hS 0 rfl rfl 0 (by decide) (hts (.fieldLink RX1 9 "TableSplice$Table" "columnSet" "I") (List.mem_of_getElem? (i := 2) rfl)) (fun _ h9 => h9) rfl (by decide +kernel) rfl rfl (Nat.le_of_ble_eq_true rfl) dX1_cutColumn_48 (fun H locs hP hD hS => ?_)
          have hP : va_P D vwCl (wT cyI ha hn hc (((it (fun (i9 : Nat) (z9 : Tr) => f_X1_cutColumn_sa p1 i9 z9) t0 24).1) &&& ((1 <<< (p1 &&& 31)) ^^^ (-1)), (it (fun (i9 : Nat) (z9 : Tr) => f_X1_cutColumn_sa p1 i9 z9) t0 24).2.1, upd ((it (fun (i9 : Nat) (z9 : Tr) => f_X1_cutColumn_sa p1 i9 z9) t0 24).2.2.1) (p1).toNatClampNeg 0, (it (fun (i9 : Nat) (z9 : Tr) => f_X1_cutColumn_sa p1 i9 z9) t0 24).2.2.2)) H := hP
          have hD : va_D A (wT cyI ha hn hc (((it (fun (i9 : Nat) (z9 : Tr) => f_X1_cutColumn_sa p1 i9 z9) t0 24).1) &&& ((1 <<< (p1 &&& 31)) ^^^ (-1)), (it (fun (i9 : Nat) (z9 : Tr) => f_X1_cutColumn_sa p1 i9 z9) t0 24).2.1, upd ((it (fun (i9 : Nat) (z9 : Tr) => f_X1_cutColumn_sa p1 i9 z9) t0 24).2.2.1) (p1).toNatClampNeg 0, (it (fun (i9 : Nat) (z9 : Tr) => f_X1_cutColumn_sa p1 i9 z9) t0 24).2.2.2)) := hD
          have ef : f_X1_cutColumn t0 p1 = (((it (fun (i9 : Nat) (z9 : Tr) => f_X1_cutColumn_sa p1 i9 z9) t0 24).1) &&& ((1 <<< (p1 &&& 31)) ^^^ (-1)), (it (fun (i9 : Nat) (z9 : Tr) => f_X1_cutColumn_sa p1 i9 z9) t0 24).2.1, upd ((it (fun (i9 : Nat) (z9 : Tr) => f_X1_cutColumn_sa p1 i9 z9) t0 24).2.2.1) (p1).toNatClampNeg 0, (it (fun (i9 : Nat) (z9 : Tr) => f_X1_cutColumn_sa p1 i9 z9) t0 24).2.2.2) := by rw [f_X1_cutColumn, if_neg c_5]
          exact W.vret hx hb hr (fun t ht hW => ⟨⟨(), rfl, trivial, by rw [ht, ef]; exact hP, by rw [ef]; exact hD⟩, hS.F ht⟩) hS.2.2 dX1_cutColumn_51
        · exact absurd (by decide) c_14
      | succ n ih_a =>
        intro ia hi_a t0_a hs_a H locs hP hD hS ls hl
        have hj_a : ia < 24 := by omega
        refine lv_iload_n hx hb dX1_cutColumn_11 rfl (lv_at hl 0 rfl) ?_
        refine lv_bipush (v := 24) hx hb dX1_cutColumn_12 (by decide) ?_
        refine lv_icmp_ge (tgt := 30) hx hb dX1_cutColumn_14 (by decide) (fun c_14 => ?_) (fun c_14 => ?_)
        · exact absurd c_14 (nI_ge hj_a (by decide))
        · refine lv_aload_n hx hb dX1_cutColumn_17 rfl (lv_at hl 1 rfl) ?_
          refine lv_iload_n hx hb dX1_cutColumn_18 rfl (lv_at hl 0 rfl) ?_
          refine lv_iload_n hx hb dX1_cutColumn_19 rfl (lv_at hl 2 rfl) ?_
          refine lv_iconst (v := 0) hx hb dX1_cutColumn_20 (by decide) ?_
          refine mr_v0 (va_runV (As := [.int (nI ia), .int p1, .int 0]) (rest := []) ⟨hx, hb, hml, hown, hts⟩ (k_X1_putCell l D cyI cyZ ha hn hc t0_a (nI ia) p1 0 _ _ rfl) (cwV 3 hts gX1_cutColumn_X1_putCell rfl rfl rfl (by decide +kernel) ⟨Nat.le_of_ble_eq_true rfl, Nat.le_of_ble_eq_true rfl⟩) (pmV hG hP hD (ci := 1) rfl rfl rfl) rfl rfl hl.1 rfl (lv_room (Nat.le_of_ble_eq_true rfl)) dX1_cutColumn_21 ⟨Nat.zero_le _, Nat.zero_le _⟩) hD hS hA (fun H locs hP hD hS => ?_)
          have hP : va_P D vwCl (wT cyI ha hn hc (f_X1_putCell t0_a (nI ia) p1 0)) H := hP
          have hD : va_D A (wT cyI ha hn hc (f_X1_putCell t0_a (nI ia) p1 0)) := hD
          refine lv_iinc (v := nI (ia + 1)) (lv' := [(2, .int (nI (ia + 1))), (0, .ref ha), (1, .int p1)]) hx hb dX1_cutColumn_24 hl (k := 0) rfl (nI_1 _) (by decide) rfl (fun ls hl => ?_)
          refine lv_goto (tgt := 11) hx hb dX1_cutColumn_27 (by decide) ?_
          exact ih_a (ia + 1) (by omega) (f_X1_putCell t0_a (nI ia) p1 0) (it_s hs_a (by show f_X1_cutColumn_sa p1 ia t0_a = _; rw [f_X1_cutColumn_sa])) _ _ hP hD hS ls (lv_sub hl [0, 1, 2] rfl)
    exact lp_a 24 0 (by omega) t0 rfl _ _ hP hD hS ls (lv_sub hl [0, 1, 2] rfl)
  · have hS := sw_n (B := A) hS
    have ef : f_X1_cutColumn t0 p1 = t0 := by rw [f_X1_cutColumn, if_pos c_5]
    exact W.vret hx hb hr (fun t ht hW => ⟨⟨(), rfl, trivial, by rw [ht, ef]; exact hP, by rw [ef]; exact hD⟩, hS.F ht⟩) hS.2.2 dX1_cutColumn_8
def f_X1_cutRow_sa (p1 : Int32) (ia : Nat) (t0_a : Tr) : Tr := (f_X1_putCell t0_a p1 (nI ia) 0)
def f_X1_cutRow (t0 : Tr) (p1 : Int32) : Tr := if (f_X1_hasRow t0 p1) = 0 then (t0) else (((it (fun (i9 : Nat) (z9 : Tr) => f_X1_cutRow_sa p1 i9 z9) t0 8).1, ((it (fun (i9 : Nat) (z9 : Tr) => f_X1_cutRow_sa p1 i9 z9) t0 8).2.1) &&& ((1 <<< (p1 &&& 31)) ^^^ (-1)), (it (fun (i9 : Nat) (z9 : Tr) => f_X1_cutRow_sa p1 i9 z9) t0 8).2.2.1, (it (fun (i9 : Nat) (z9 : Tr) => f_X1_cutRow_sa p1 i9 z9) t0 8).2.2.2))
theorem uin_X1_cutRow_X1 : ∀ w ∈ wsX10, w ∈ wsX1_cutRow := fun _ h => List.mem_cons_of_mem _ (List.mem_append_right _ h)
set_option maxHeartbeats 4000000 in
set_option maxRecDepth 100000 in
theorem k_X1_cutRow (l : Launch) (D : va_G) (cyI cyZ : ClassId) (ha : Nat) (hn : Nat) (hc : Nat) (t0 : Tr) (p1 : Int32) (A : Nat → Prop) (sz : Nat) (hAe : A = va_A (wT cyI ha hn hc t0) sz) : Met l yX1_cutRow wsX1_cutRow ({ frames := 3, cells := 0, slots := 0, locals := 66 } : Room) (pcM D cyI cyZ sz [.ref ha, .int p1] (wT cyI ha hn hc t0)) (mV D A (wT cyI ha hn hc (f_X1_cutRow t0 p1))) 0 0 A := by
  refine Met.ofW (cc := cX1_cutRow) (maxL := 3) (ret := none) (by decide) rfl ?_
  intro p e s m args below meth c s₁ B hml hv
  obtain ⟨rfl, hsz, hP, hG, hD0⟩ := hv
  have hx := B.exec
  have hb := B.bytes
  have hr := B.returns
  have hts := atoms_spec (ws := wsX1_cutRow) B.pre
  have hown : s.vm.findClass RX1 = some m.cls := findClass_of_methodNamed B.named
  have hlocks := B.notSynchronized
  subst hsz
  have hD : va_D A (wT cyI ha hn hc t0) := by rw [hAe]; exact hD0.self
  have hA : ∀ q : Nat, s.heap.size ≤ q → A q := fun q h => by rw [hAe]; exact Or.inr h
  clear hAe hD0
  have hS : va_S nA s.heap s.heap [] := va_S.rf
  have hl := lv_entry ([.ref ha, .int p1]) (n := 3) (Nat.le_of_ble_eq_true rfl)
  rw [lg_entry_eq]
  generalize (lg_sl ([.ref ha, .int p1]) ++ List.replicate (3 - (lg_sl ([.ref ha, .int p1])).length) Slot.unset).toArray = ls at hl ⊢
  have hl : lv_has ls 3 [(0, .ref ha), (1, .int p1)] := hl
  have hP : va_P D vwCl (wT cyI ha hn hc t0) s.heap := hP
  refine lv_aload_n hx hb dX1_cutRow_0 rfl (lv_at hl 0 rfl) ?_
  refine lv_iload_n hx hb dX1_cutRow_1 rfl (lv_at hl 1 rfl) ?_
  refine pr_i (va_runV (As := [.int p1]) (rest := []) ⟨hx, hb, hml, hown, hts⟩ (k_X1_hasRow l D cyI cyZ ha hn hc t0 p1) (cwV 1 hts gX1_cutRow_X1_hasRow rfl rfl rfl (by decide +kernel) ⟨Nat.le_of_ble_eq_true rfl, Nat.le_of_ble_eq_true rfl⟩) (prV hG hP (ci := 1) rfl rfl rfl) rfl rfl hl.1 rfl (lv_room (Nat.le_of_ble_eq_true rfl)) dX1_cutRow_2 ⟨Nat.zero_le _, Nat.zero_le _⟩) hS hP (fun H locs hP hS => ?_)
  refine lv_if_ne (tgt := 9) hx hb dX1_cutRow_5 (by decide) (fun c_5 => ?_) (fun c_5 => ?_)
  · refine lv_iconst (v := 0) hx hb dX1_cutRow_9 (by decide) ?_
    refine lv_istore_n (lv' := [(2, .int 0), (0, .ref ha), (1, .int p1)]) hx hb dX1_cutRow_10 rfl hl (by decide) rfl (fun ls hl => ?_)
    have hS := sw_n (B := A) hS
    have lp_a : ∀ (n ia : Nat), ia + n = 8 → ∀ (t0_a : Tr), t0_a = it (fun (i9 : Nat) (z9 : Tr) => f_X1_cutRow_sa p1 i9 z9) t0 ia → ∀ (H : Heap) (locs : List Loc), va_P D vwCl (wT cyI ha hn hc t0_a) H → va_D A (wT cyI ha hn hc t0_a) → va_S A s.heap H locs → ∀ (ls : Array Slot), lv_has ls 3 [(2, .int (nI ia)), (0, .ref ha), (1, .int p1)] → W p l e (headSpec wsX1_cutRow ({ frames := 3, cells := 0, slots := 0, locals := 66 } : Room)).room s m ([.ref ha, .int p1] : List Value).toArray below meth c H locs 0 0 (MQ below (mV D A (wT cyI ha hn hc (f_X1_cutRow t0 p1))) ([.ref ha, .int p1] : List Value).toArray s 0 0 A) (F0 m 11 ls []) := by
      intro n
      induction n with
      | zero =>
        intro ia hi_a t0_a hs_a H locs hP hD hS ls hl
        obtain rfl : 8 = ia := by omega
        obtain rfl : t0_a = it (fun (i9 : Nat) (z9 : Tr) => f_X1_cutRow_sa p1 i9 z9) t0 8 := hs_a
        refine lv_iload_n hx hb dX1_cutRow_11 rfl (lv_at hl 0 rfl) ?_
        refine lv_bipush (v := 8) hx hb dX1_cutRow_12 (by decide) ?_
        refine lv_icmp_ge (tgt := 30) hx hb dX1_cutRow_14 (by decide) (fun c_14 => ?_) (fun c_14 => ?_)
        · refine lv_aload_n hx hb dX1_cutRow_30 rfl (lv_at hl 1 rfl) ?_
          refine lv_dup hx hb dX1_cutRow_31 rfl ?_
          refine va_get (D := D) (ci := 1) (v := .int ((it (fun (i9 : Nat) (z9 : Tr) => f_X1_cutRow_sa p1 i9 z9) t0 8).2.1)) (C := RX1) (T := TX1) (N := 4) hx hb hts uin_X1_cutRow_X1 hown hG.1 hP 0 rfl rfl 1 (by decide) (hts (.fieldLink RX1 15 "TableSplice$Table" "rowSet" "I") (List.mem_of_getElem? (i := 1) rfl)) (fun _ h9 => h9) rfl dX1_cutRow_32 ?_
          refine lv_iconst (v := 1) hx hb dX1_cutRow_35 (by decide) ?_
          refine lv_iload_n hx hb dX1_cutRow_36 rfl (lv_at hl 2 rfl) ?_
          refine lv_ishl hx hb dX1_cutRow_37 ?_
          refine lv_iconst (v := (-1)) hx hb dX1_cutRow_38 (by decide) ?_
          refine lv_ixor hx hb dX1_cutRow_39 ?_
          refine lv_iand hx hb dX1_cutRow_40 ?_
          refine va_put (D := D) (ci := 1) (v := .int (((it (fun (i9 : Nat) (z9 : Tr) => f_X1_cutRow_sa p1 i9 z9) t0 8).2.1) &&& ((1 <<< (p1 &&& 31)) ^^^ (-1)))) (ty := .int) (C := RX1) (T := TX1) (N := 4) hx hb hts uin_X1_cutRow_X1 tyX1 tyX1_ok nmX1 hown hG.1 hP hD hS 0 rfl rfl 1 (by decide) (hts (.fieldLink RX1 15 "TableSplice$Table" "rowSet" "I") (List.mem_of_getElem? (i := 1) rfl)) (fun _ h9 => h9) rfl (by decide +kernel) rfl rfl (Nat.le_of_ble_eq_true rfl) dX1_cutRow_41 (fun H locs hP hD hS => ?_)
          have hP : va_P D vwCl (wT cyI ha hn hc ((it (fun (i9 : Nat) (z9 : Tr) => f_X1_cutRow_sa p1 i9 z9) t0 8).1, ((it (fun (i9 : Nat) (z9 : Tr) => f_X1_cutRow_sa p1 i9 z9) t0 8).2.1) &&& ((1 <<< (p1 &&& 31)) ^^^ (-1)), (it (fun (i9 : Nat) (z9 : Tr) => f_X1_cutRow_sa p1 i9 z9) t0 8).2.2.1, (it (fun (i9 : Nat) (z9 : Tr) => f_X1_cutRow_sa p1 i9 z9) t0 8).2.2.2)) H := hP
          have hD : va_D A (wT cyI ha hn hc ((it (fun (i9 : Nat) (z9 : Tr) => f_X1_cutRow_sa p1 i9 z9) t0 8).1, ((it (fun (i9 : Nat) (z9 : Tr) => f_X1_cutRow_sa p1 i9 z9) t0 8).2.1) &&& ((1 <<< (p1 &&& 31)) ^^^ (-1)), (it (fun (i9 : Nat) (z9 : Tr) => f_X1_cutRow_sa p1 i9 z9) t0 8).2.2.1, (it (fun (i9 : Nat) (z9 : Tr) => f_X1_cutRow_sa p1 i9 z9) t0 8).2.2.2)) := hD
          have ef : f_X1_cutRow t0 p1 = ((it (fun (i9 : Nat) (z9 : Tr) => f_X1_cutRow_sa p1 i9 z9) t0 8).1, ((it (fun (i9 : Nat) (z9 : Tr) => f_X1_cutRow_sa p1 i9 z9) t0 8).2.1) &&& ((1 <<< (p1 &&& 31)) ^^^ (-1)), (it (fun (i9 : Nat) (z9 : Tr) => f_X1_cutRow_sa p1 i9 z9) t0 8).2.2.1, (it (fun (i9 : Nat) (z9 : Tr) => f_X1_cutRow_sa p1 i9 z9) t0 8).2.2.2) := by rw [f_X1_cutRow, if_neg c_5]
          exact W.vret hx hb hr (fun t ht hW => ⟨⟨(), rfl, trivial, by rw [ht, ef]; exact hP, by rw [ef]; exact hD⟩, hS.F ht⟩) hS.2.2 dX1_cutRow_44
        · exact absurd (by decide) c_14
      | succ n ih_a =>
        intro ia hi_a t0_a hs_a H locs hP hD hS ls hl
        have hj_a : ia < 8 := by omega
        refine lv_iload_n hx hb dX1_cutRow_11 rfl (lv_at hl 0 rfl) ?_
        refine lv_bipush (v := 8) hx hb dX1_cutRow_12 (by decide) ?_
        refine lv_icmp_ge (tgt := 30) hx hb dX1_cutRow_14 (by decide) (fun c_14 => ?_) (fun c_14 => ?_)
        · exact absurd c_14 (nI_ge hj_a (by decide))
        · refine lv_aload_n hx hb dX1_cutRow_17 rfl (lv_at hl 1 rfl) ?_
          refine lv_iload_n hx hb dX1_cutRow_18 rfl (lv_at hl 2 rfl) ?_
          refine lv_iload_n hx hb dX1_cutRow_19 rfl (lv_at hl 0 rfl) ?_
          refine lv_iconst (v := 0) hx hb dX1_cutRow_20 (by decide) ?_
          refine mr_v0 (va_runV (As := [.int p1, .int (nI ia), .int 0]) (rest := []) ⟨hx, hb, hml, hown, hts⟩ (k_X1_putCell l D cyI cyZ ha hn hc t0_a p1 (nI ia) 0 _ _ rfl) (cwV 3 hts gX1_cutRow_X1_putCell rfl rfl rfl (by decide +kernel) ⟨Nat.le_of_ble_eq_true rfl, Nat.le_of_ble_eq_true rfl⟩) (pmV hG hP hD (ci := 1) rfl rfl rfl) rfl rfl hl.1 rfl (lv_room (Nat.le_of_ble_eq_true rfl)) dX1_cutRow_21 ⟨Nat.zero_le _, Nat.zero_le _⟩) hD hS hA (fun H locs hP hD hS => ?_)
          have hP : va_P D vwCl (wT cyI ha hn hc (f_X1_putCell t0_a p1 (nI ia) 0)) H := hP
          have hD : va_D A (wT cyI ha hn hc (f_X1_putCell t0_a p1 (nI ia) 0)) := hD
          refine lv_iinc (v := nI (ia + 1)) (lv' := [(2, .int (nI (ia + 1))), (0, .ref ha), (1, .int p1)]) hx hb dX1_cutRow_24 hl (k := 0) rfl (nI_1 _) (by decide) rfl (fun ls hl => ?_)
          refine lv_goto (tgt := 11) hx hb dX1_cutRow_27 (by decide) ?_
          exact ih_a (ia + 1) (by omega) (f_X1_putCell t0_a p1 (nI ia) 0) (it_s hs_a (by show f_X1_cutRow_sa p1 ia t0_a = _; rw [f_X1_cutRow_sa])) _ _ hP hD hS ls (lv_sub hl [0, 1, 2] rfl)
    exact lp_a 8 0 (by omega) t0 rfl _ _ hP hD hS ls (lv_sub hl [0, 1, 2] rfl)
  · have hS := sw_n (B := A) hS
    have ef : f_X1_cutRow t0 p1 = t0 := by rw [f_X1_cutRow, if_pos c_5]
    exact W.vret hx hb hr (fun t ht hW => ⟨⟨(), rfl, trivial, by rw [ht, ef]; exact hP, by rw [ef]; exact hD⟩, hS.F ht⟩) hS.2.2 dX1_cutRow_8
def f_X1_becomeEmpty (t0 : Tr) : Tr := (0, 0, f_J7_fill_53178 t0.2.2.1 8 0, f_J7_fill_53178 t0.2.2.2 192 0)
theorem uin_X1_becomeEmpty_X1 : ∀ w ∈ wsX10, w ∈ wsX1_becomeEmpty := fun _ h => List.mem_cons_of_mem _ (List.mem_append_right _ h)
set_option maxHeartbeats 4000000 in
set_option maxRecDepth 100000 in
theorem k_X1_becomeEmpty (l : Launch) (D : va_G) (cyI cyZ : ClassId) (ha : Nat) (hn : Nat) (hc : Nat) (t0 : Tr) (A : Nat → Prop) (sz : Nat) (hAe : A = va_A (wT cyI ha hn hc t0) sz) : Met l yX1_becomeEmpty wsX1_becomeEmpty ({ frames := 1, cells := 0, slots := 0, locals := 23 } : Room) (pcM D cyI cyZ sz [.ref ha] (wT cyI ha hn hc t0)) (mV D A (wT cyI ha hn hc (f_X1_becomeEmpty t0))) 0 0 A := by
  refine Met.ofW (cc := cX1_becomeEmpty) (maxL := 1) (ret := none) (by decide) rfl ?_
  intro p e s m args below meth c s₁ B hml hv
  obtain ⟨rfl, hsz, hP, hG, hD0⟩ := hv
  have hx := B.exec
  have hb := B.bytes
  have hr := B.returns
  have hts := atoms_spec (ws := wsX1_becomeEmpty) B.pre
  have hown : s.vm.findClass RX1 = some m.cls := findClass_of_methodNamed B.named
  have hlocks := B.notSynchronized
  subst hsz
  have hD : va_D A (wT cyI ha hn hc t0) := by rw [hAe]; exact hD0.self
  have hA : ∀ q : Nat, s.heap.size ≤ q → A q := fun q h => by rw [hAe]; exact Or.inr h
  clear hAe hD0
  have hS : va_S nA s.heap s.heap [] := va_S.rf
  have hl := lv_entry ([.ref ha]) (n := 1) (Nat.le_of_ble_eq_true rfl)
  rw [lg_entry_eq]
  generalize (lg_sl ([.ref ha]) ++ List.replicate (1 - (lg_sl ([.ref ha])).length) Slot.unset).toArray = ls at hl ⊢
  have hl : lv_has ls 1 [(0, .ref ha)] := hl
  have hP : va_P D vwCl (wT cyI ha hn hc t0) s.heap := hP
  refine lv_aload_n hx hb dX1_becomeEmpty_0 rfl (lv_at hl 0 rfl) ?_
  refine lv_iconst (v := 0) hx hb dX1_becomeEmpty_1 (by decide) ?_
  have hS := sw_n (B := A) hS
  refine va_put (D := D) (ci := 1) (v := .int 0) (ty := .int) (C := RX1) (T := TX1) (N := 4) hx hb hts uin_X1_becomeEmpty_X1 tyX1 tyX1_ok nmX1 hown hG.1 hP hD hS 0 rfl rfl 0 (by decide) (hts (.fieldLink RX1 9 "TableSplice$Table" "columnSet" "I") (List.mem_of_getElem? (i := 1) rfl)) (fun _ h9 => h9) rfl (by decide +kernel) rfl rfl (Nat.le_of_ble_eq_true rfl) dX1_becomeEmpty_2 (fun H locs hP hD hS => ?_)
  have hP : va_P D vwCl (wT cyI ha hn hc (0, t0.2.1, t0.2.2.1, t0.2.2.2)) H := hP
  have hD : va_D A (wT cyI ha hn hc (0, t0.2.1, t0.2.2.1, t0.2.2.2)) := hD
  refine lv_aload_n hx hb dX1_becomeEmpty_5 rfl (lv_at hl 0 rfl) ?_
  refine lv_iconst (v := 0) hx hb dX1_becomeEmpty_6 (by decide) ?_
  refine va_put (D := D) (ci := 1) (v := .int 0) (ty := .int) (C := RX1) (T := TX1) (N := 4) hx hb hts uin_X1_becomeEmpty_X1 tyX1 tyX1_ok nmX1 hown hG.1 hP hD hS 0 rfl rfl 1 (by decide) (hts (.fieldLink RX1 15 "TableSplice$Table" "rowSet" "I") (List.mem_of_getElem? (i := 2) rfl)) (fun _ h9 => h9) rfl (by decide +kernel) rfl rfl (Nat.le_of_ble_eq_true rfl) dX1_becomeEmpty_7 (fun H locs hP hD hS => ?_)
  have hP : va_P D vwCl (wT cyI ha hn hc (0, 0, t0.2.2.1, t0.2.2.2)) H := hP
  have hD : va_D A (wT cyI ha hn hc (0, 0, t0.2.2.1, t0.2.2.2)) := hD
  refine lv_aload_n hx hb dX1_becomeEmpty_10 rfl (lv_at hl 0 rfl) ?_
  refine va_get (D := D) (ci := 1) (v := .ref hn) (C := RX1) (T := TX1) (N := 4) hx hb hts uin_X1_becomeEmpty_X1 hown hG.1 hP 0 rfl rfl 2 (by decide) (hts (.fieldLink RX1 18 "TableSplice$Table" "names" "[I") (List.mem_of_getElem? (i := 3) rfl)) (fun _ h9 => h9) rfl dX1_becomeEmpty_11 ?_
  refine lv_iconst (v := 0) hx hb dX1_becomeEmpty_14 (by decide) ?_
  refine mr_v (va_runS (As := [.ref hn, .int 0]) (rest := []) ⟨hx, hb, hml, hown, hts⟩ (k_J7_fill_53178 l D cyI cyZ hn 8 t0.2.2.1 0 _ _ rfl (by decide)) (va_cwS 2 hts gX1_becomeEmpty_J7_fill_53178 rfl rfl rfl (by decide +kernel) ⟨Nat.le_of_ble_eq_true rfl, Nat.le_of_ble_eq_true rfl⟩) (pmS hG (hP.sub (ws' := [(hn, .inl (cyI, 8, .inl t0.2.2.1))]) [1] rfl) (hD.sub (ws' := [(hn, .inl (cyI, 8, .inl t0.2.2.1))]) [1] (by decide) rfl)) rfl rfl hl.1 rfl (lv_room (Nat.le_of_ble_eq_true rfl)) dX1_becomeEmpty_15 ⟨Nat.zero_le _, Nat.zero_le _⟩) hP hD hS hA [1] [0, 2] [0, 2, 1] rfl rfl (by decide) (by decide) (by decide) (w2 := wT cyI ha hn hc (0, 0, f_J7_fill_53178 t0.2.2.1 8 0, t0.2.2.2)) rfl (fun H locs hP hD hS => ?_)
  have hP : va_P D vwCl (wT cyI ha hn hc (0, 0, f_J7_fill_53178 t0.2.2.1 8 0, t0.2.2.2)) H := hP
  have hD : va_D A (wT cyI ha hn hc (0, 0, f_J7_fill_53178 t0.2.2.1 8 0, t0.2.2.2)) := hD
  refine lv_aload_n hx hb dX1_becomeEmpty_18 rfl (lv_at hl 0 rfl) ?_
  refine va_get (D := D) (ci := 1) (v := .ref hc) (C := RX1) (T := TX1) (N := 4) hx hb hts uin_X1_becomeEmpty_X1 hown hG.1 hP 0 rfl rfl 3 (by decide) (hts (.fieldLink RX1 22 "TableSplice$Table" "cells" "[I") (List.mem_of_getElem? (i := 4) rfl)) (fun _ h9 => h9) rfl dX1_becomeEmpty_19 ?_
  refine lv_iconst (v := 0) hx hb dX1_becomeEmpty_22 (by decide) ?_
  refine mr_v (va_runS (As := [.ref hc, .int 0]) (rest := []) ⟨hx, hb, hml, hown, hts⟩ (k_J7_fill_53178 l D cyI cyZ hc 192 t0.2.2.2 0 _ _ rfl (by decide)) (va_cwS 2 hts gX1_becomeEmpty_J7_fill_53178 rfl rfl rfl (by decide +kernel) ⟨Nat.le_of_ble_eq_true rfl, Nat.le_of_ble_eq_true rfl⟩) (pmS hG (hP.sub (ws' := [(hc, .inl (cyI, 192, .inl t0.2.2.2))]) [2] rfl) (hD.sub (ws' := [(hc, .inl (cyI, 192, .inl t0.2.2.2))]) [2] (by decide) rfl)) rfl rfl hl.1 rfl (lv_room (Nat.le_of_ble_eq_true rfl)) dX1_becomeEmpty_23 ⟨Nat.zero_le _, Nat.zero_le _⟩) hP hD hS hA [2] [0, 1] [0, 1, 2] rfl rfl (by decide) (by decide) (by decide) (w2 := wT cyI ha hn hc (0, 0, f_J7_fill_53178 t0.2.2.1 8 0, f_J7_fill_53178 t0.2.2.2 192 0)) rfl (fun H locs hP hD hS => ?_)
  have hP : va_P D vwCl (wT cyI ha hn hc (0, 0, f_J7_fill_53178 t0.2.2.1 8 0, f_J7_fill_53178 t0.2.2.2 192 0)) H := hP
  have hD : va_D A (wT cyI ha hn hc (0, 0, f_J7_fill_53178 t0.2.2.1 8 0, f_J7_fill_53178 t0.2.2.2 192 0)) := hD
  have ef : f_X1_becomeEmpty t0 = (0, 0, f_J7_fill_53178 t0.2.2.1 8 0, f_J7_fill_53178 t0.2.2.2 192 0) := by rw [f_X1_becomeEmpty]
  exact W.vret hx hb hr (fun t ht hW => ⟨⟨(), rfl, trivial, by rw [ht, ef]; exact hP, by rw [ef]; exact hD⟩, hS.F ht⟩) hS.2.2 dX1_becomeEmpty_26
def f_X1_becomeLike (t0 : Tr) (t1 : Tr) : Tr := (t1.1, t1.2.1, va_cpy t1.2.2.1 t0.2.2.1 (0 : Int32).toNatClampNeg (0 : Int32).toNatClampNeg (8 : Int32).toNatClampNeg, va_cpy t1.2.2.2 t0.2.2.2 (0 : Int32).toNatClampNeg (0 : Int32).toNatClampNeg (192 : Int32).toNatClampNeg)
theorem uin_X1_becomeLike_X1 : ∀ w ∈ wsX10, w ∈ wsX1_becomeLike := fun _ h => List.mem_cons_of_mem _ (List.mem_append_right _ h)
set_option maxHeartbeats 4000000 in
set_option maxRecDepth 100000 in
theorem k_X1_becomeLike (l : Launch) (D : va_G) (cyI cyZ : ClassId) (ha : Nat) (hn : Nat) (hc : Nat) (ja : Nat) (jn : Nat) (jc : Nat) (t0 : Tr) (t1 : Tr) (A : Nat → Prop) (sz : Nat) (hAe : A = va_A (wU cyI ha hn hc t0 ja jn jc t1) sz) : Met l yX1_becomeLike wsX1_becomeLike ({ frames := 1, cells := 0, slots := 0, locals := 64 } : Room) (pcM D cyI cyZ sz [.ref ha, .ref ja] (wU cyI ha hn hc t0 ja jn jc t1)) (mV D A (wU cyI ha hn hc (f_X1_becomeLike t0 t1) ja jn jc t1)) 0 0 A := by
  refine Met.ofW (cc := cX1_becomeLike) (maxL := 2) (ret := none) (by decide) rfl ?_
  intro p e s m args below meth c s₁ B hml hv
  obtain ⟨rfl, hsz, hP, hG, hD0⟩ := hv
  have hx := B.exec
  have hb := B.bytes
  have hr := B.returns
  have hts := atoms_spec (ws := wsX1_becomeLike) B.pre
  have hown : s.vm.findClass RX1 = some m.cls := findClass_of_methodNamed B.named
  have hlocks := B.notSynchronized
  subst hsz
  have hD : va_D A (wU cyI ha hn hc t0 ja jn jc t1) := by rw [hAe]; exact hD0.self
  have hA : ∀ q : Nat, s.heap.size ≤ q → A q := fun q h => by rw [hAe]; exact Or.inr h
  clear hAe hD0
  have hS : va_S nA s.heap s.heap [] := va_S.rf
  have hl := lv_entry ([.ref ha, .ref ja]) (n := 2) (Nat.le_of_ble_eq_true rfl)
  rw [lg_entry_eq]
  generalize (lg_sl ([.ref ha, .ref ja]) ++ List.replicate (2 - (lg_sl ([.ref ha, .ref ja])).length) Slot.unset).toArray = ls at hl ⊢
  have hl : lv_has ls 2 [(0, .ref ha), (1, .ref ja)] := hl
  have hP : va_P D vwCl (wU cyI ha hn hc t0 ja jn jc t1) s.heap := hP
  refine lv_aload_n hx hb dX1_becomeLike_0 rfl (lv_at hl 0 rfl) ?_
  refine lv_aload_n hx hb dX1_becomeLike_1 rfl (lv_at hl 1 rfl) ?_
  refine va_get (D := D) (ci := 1) (v := .int t1.1) (C := RX1) (T := TX1) (N := 4) hx hb hts uin_X1_becomeLike_X1 hown hG.1 hP 3 rfl rfl 0 (by decide) (hts (.fieldLink RX1 9 "TableSplice$Table" "columnSet" "I") (List.mem_of_getElem? (i := 1) rfl)) (fun _ h9 => h9) rfl dX1_becomeLike_2 ?_
  have hS := sw_n (B := A) hS
  refine va_put (D := D) (ci := 1) (v := .int t1.1) (ty := .int) (C := RX1) (T := TX1) (N := 4) hx hb hts uin_X1_becomeLike_X1 tyX1 tyX1_ok nmX1 hown hG.1 hP hD hS 0 rfl rfl 0 (by decide) (hts (.fieldLink RX1 9 "TableSplice$Table" "columnSet" "I") (List.mem_of_getElem? (i := 1) rfl)) (fun _ h9 => h9) rfl (by decide +kernel) rfl rfl (Nat.le_of_ble_eq_true rfl) dX1_becomeLike_5 (fun H locs hP hD hS => ?_)
  have hP : va_P D vwCl (wU cyI ha hn hc (t1.1, t0.2.1, t0.2.2.1, t0.2.2.2) ja jn jc t1) H := hP
  have hD : va_D A (wU cyI ha hn hc (t1.1, t0.2.1, t0.2.2.1, t0.2.2.2) ja jn jc t1) := hD
  refine lv_aload_n hx hb dX1_becomeLike_8 rfl (lv_at hl 0 rfl) ?_
  refine lv_aload_n hx hb dX1_becomeLike_9 rfl (lv_at hl 1 rfl) ?_
  refine va_get (D := D) (ci := 1) (v := .int t1.2.1) (C := RX1) (T := TX1) (N := 4) hx hb hts uin_X1_becomeLike_X1 hown hG.1 hP 3 rfl rfl 1 (by decide) (hts (.fieldLink RX1 15 "TableSplice$Table" "rowSet" "I") (List.mem_of_getElem? (i := 2) rfl)) (fun _ h9 => h9) rfl dX1_becomeLike_10 ?_
  refine va_put (D := D) (ci := 1) (v := .int t1.2.1) (ty := .int) (C := RX1) (T := TX1) (N := 4) hx hb hts uin_X1_becomeLike_X1 tyX1 tyX1_ok nmX1 hown hG.1 hP hD hS 0 rfl rfl 1 (by decide) (hts (.fieldLink RX1 15 "TableSplice$Table" "rowSet" "I") (List.mem_of_getElem? (i := 2) rfl)) (fun _ h9 => h9) rfl (by decide +kernel) rfl rfl (Nat.le_of_ble_eq_true rfl) dX1_becomeLike_13 (fun H locs hP hD hS => ?_)
  have hP : va_P D vwCl (wU cyI ha hn hc (t1.1, t1.2.1, t0.2.2.1, t0.2.2.2) ja jn jc t1) H := hP
  have hD : va_D A (wU cyI ha hn hc (t1.1, t1.2.1, t0.2.2.1, t0.2.2.2) ja jn jc t1) := hD
  refine lv_aload_n hx hb dX1_becomeLike_16 rfl (lv_at hl 1 rfl) ?_
  refine va_get (D := D) (ci := 1) (v := .ref jn) (C := RX1) (T := TX1) (N := 4) hx hb hts uin_X1_becomeLike_X1 hown hG.1 hP 3 rfl rfl 2 (by decide) (hts (.fieldLink RX1 18 "TableSplice$Table" "names" "[I") (List.mem_of_getElem? (i := 3) rfl)) (fun _ h9 => h9) rfl dX1_becomeLike_17 ?_
  refine lv_iconst (v := 0) hx hb dX1_becomeLike_20 (by decide) ?_
  refine lv_aload_n hx hb dX1_becomeLike_21 rfl (lv_at hl 0 rfl) ?_
  refine va_get (D := D) (ci := 1) (v := .ref hn) (C := RX1) (T := TX1) (N := 4) hx hb hts uin_X1_becomeLike_X1 hown hG.1 hP 0 rfl rfl 2 (by decide) (hts (.fieldLink RX1 18 "TableSplice$Table" "names" "[I") (List.mem_of_getElem? (i := 3) rfl)) (fun _ h9 => h9) rfl dX1_becomeLike_22 ?_
  refine lv_iconst (v := 0) hx hb dX1_becomeLike_25 (by decide) ?_
  refine lv_bipush (v := 8) hx hb dX1_becomeLike_26 (by decide) ?_
  refine va_copyi (rest := []) hx hb (hml.trans hl.1.symm) hown (hts (.methodLink RX1 65 arraycopyName) (List.mem_of_getElem? (i := 4) rfl)) (hts (.native arraycopyName) (List.mem_of_getElem? (i := 5) rfl)) (hts (.static arraycopyName) (List.mem_of_getElem? (i := 6) rfl)) (hts (.initialized "java/lang/System") (List.mem_of_getElem? (i := 7) rfl)) hG.1 hP hD hS 4 1 0 0 rfl rfl rfl rfl rfl (by decide) (by decide) (by decide) (by decide) (by decide) (fun _ _ => rfl) (Nat.le_of_ble_eq_true rfl) (Nat.le_of_ble_eq_true rfl) dX1_becomeLike_28 (fun H locs hP hD hS => ?_)
  have hP : va_P D vwCl (wU cyI ha hn hc (t1.1, t1.2.1, va_cpy t1.2.2.1 t0.2.2.1 (0 : Int32).toNatClampNeg (0 : Int32).toNatClampNeg (8 : Int32).toNatClampNeg, t0.2.2.2) ja jn jc t1) H := hP
  have hD : va_D A (wU cyI ha hn hc (t1.1, t1.2.1, va_cpy t1.2.2.1 t0.2.2.1 (0 : Int32).toNatClampNeg (0 : Int32).toNatClampNeg (8 : Int32).toNatClampNeg, t0.2.2.2) ja jn jc t1) := hD
  refine lv_aload_n hx hb dX1_becomeLike_31 rfl (lv_at hl 1 rfl) ?_
  refine va_get (D := D) (ci := 1) (v := .ref jc) (C := RX1) (T := TX1) (N := 4) hx hb hts uin_X1_becomeLike_X1 hown hG.1 hP 3 rfl rfl 3 (by decide) (hts (.fieldLink RX1 22 "TableSplice$Table" "cells" "[I") (List.mem_of_getElem? (i := 8) rfl)) (fun _ h9 => h9) rfl dX1_becomeLike_32 ?_
  refine lv_iconst (v := 0) hx hb dX1_becomeLike_35 (by decide) ?_
  refine lv_aload_n hx hb dX1_becomeLike_36 rfl (lv_at hl 0 rfl) ?_
  refine va_get (D := D) (ci := 1) (v := .ref hc) (C := RX1) (T := TX1) (N := 4) hx hb hts uin_X1_becomeLike_X1 hown hG.1 hP 0 rfl rfl 3 (by decide) (hts (.fieldLink RX1 22 "TableSplice$Table" "cells" "[I") (List.mem_of_getElem? (i := 8) rfl)) (fun _ h9 => h9) rfl dX1_becomeLike_37 ?_
  refine lv_iconst (v := 0) hx hb dX1_becomeLike_40 (by decide) ?_
  refine lv_sipush (v := 192) hx hb dX1_becomeLike_41 (by decide) ?_
  refine va_copyi (rest := []) hx hb (hml.trans hl.1.symm) hown (hts (.methodLink RX1 65 arraycopyName) (List.mem_of_getElem? (i := 4) rfl)) (hts (.native arraycopyName) (List.mem_of_getElem? (i := 5) rfl)) (hts (.static arraycopyName) (List.mem_of_getElem? (i := 6) rfl)) (hts (.initialized "java/lang/System") (List.mem_of_getElem? (i := 7) rfl)) hG.1 hP hD hS 5 2 0 0 rfl rfl rfl rfl rfl (by decide) (by decide) (by decide) (by decide) (by decide) (fun _ _ => rfl) (Nat.le_of_ble_eq_true rfl) (Nat.le_of_ble_eq_true rfl) dX1_becomeLike_44 (fun H locs hP hD hS => ?_)
  have hP : va_P D vwCl (wU cyI ha hn hc (t1.1, t1.2.1, va_cpy t1.2.2.1 t0.2.2.1 (0 : Int32).toNatClampNeg (0 : Int32).toNatClampNeg (8 : Int32).toNatClampNeg, va_cpy t1.2.2.2 t0.2.2.2 (0 : Int32).toNatClampNeg (0 : Int32).toNatClampNeg (192 : Int32).toNatClampNeg) ja jn jc t1) H := hP
  have hD : va_D A (wU cyI ha hn hc (t1.1, t1.2.1, va_cpy t1.2.2.1 t0.2.2.1 (0 : Int32).toNatClampNeg (0 : Int32).toNatClampNeg (8 : Int32).toNatClampNeg, va_cpy t1.2.2.2 t0.2.2.2 (0 : Int32).toNatClampNeg (0 : Int32).toNatClampNeg (192 : Int32).toNatClampNeg) ja jn jc t1) := hD
  have ef : f_X1_becomeLike t0 t1 = (t1.1, t1.2.1, va_cpy t1.2.2.1 t0.2.2.1 (0 : Int32).toNatClampNeg (0 : Int32).toNatClampNeg (8 : Int32).toNatClampNeg, va_cpy t1.2.2.2 t0.2.2.2 (0 : Int32).toNatClampNeg (0 : Int32).toNatClampNeg (192 : Int32).toNatClampNeg) := by rw [f_X1_becomeLike]
  exact W.vret hx hb hr (fun t ht hW => ⟨⟨(), rfl, trivial, by rw [ht, ef]; exact hP, by rw [ef]; exact hD⟩, hS.F ht⟩) hS.2.2 dX1_becomeLike_47
def f_X1_changedCellOf (t0 : Tr) (t1 : Tr) (p2 : Int32) (p3 : Int32) : Int32 := if (f_X1_hasCell t0 p2 p3) = 0 then 0 else (if (f_X1_hasCell t1 p2 p3) = 0 then 0 else (if (t0.2.2.2 ((p2 * 8) + p3).toNatClampNeg) = (t1.2.2.2 ((p2 * 8) + p3).toNatClampNeg) then 0 else 1))
theorem uin_X1_changedCellOf_X1 : ∀ w ∈ wsX10, w ∈ wsX1_changedCellOf := fun _ h => List.mem_cons_of_mem _ (List.mem_append_right _ h)
set_option maxHeartbeats 4000000 in
set_option maxRecDepth 100000 in
theorem k_X1_changedCellOf (l : Launch) (D : va_G) (cyI cyZ : ClassId) (ha : Nat) (hn : Nat) (hc : Nat) (ja : Nat) (jn : Nat) (jc : Nat) (t0 : Tr) (t1 : Tr) (p2 : Int32) (p3 : Int32) : Met l yX1_changedCellOf wsX1_changedCellOf ({ frames := 2, cells := 0, slots := 0, locals := 43 } : Room) (pcP D cyI cyZ [.ref ha, .ref ja, .int p2, .int p3] (wU cyI ha hn hc t0 ja jn jc t1)) (qI (f_X1_changedCellOf t0 t1 p2 p3)) 0 0 nA := by
  refine Met.ofW (cc := cX1_changedCellOf) (maxL := 5) (ret := (some .boolean)) (by decide) rfl ?_
  intro p e s m args below meth c s₁ B hml hv
  obtain ⟨rfl, hP, hG⟩ := hv
  have hx := B.exec
  have hb := B.bytes
  have hr := B.returns
  have hts := atoms_spec (ws := wsX1_changedCellOf) B.pre
  have hown : s.vm.findClass RX1 = some m.cls := findClass_of_methodNamed B.named
  have hlocks := B.notSynchronized
  have hS : va_S nA s.heap s.heap [] := va_S.rf
  have hl := lv_entry ([.ref ha, .ref ja, .int p2, .int p3]) (n := 5) (Nat.le_of_ble_eq_true rfl)
  rw [lg_entry_eq]
  generalize (lg_sl ([.ref ha, .ref ja, .int p2, .int p3]) ++ List.replicate (5 - (lg_sl ([.ref ha, .ref ja, .int p2, .int p3])).length) Slot.unset).toArray = ls at hl ⊢
  have hl : lv_has ls 5 [(0, .ref ha), (1, .ref ja), (2, .int p2), (3, .int p3)] := hl
  have hP : va_P D vwCl (wU cyI ha hn hc t0 ja jn jc t1) s.heap := hP
  refine lv_iload_n hx hb dX1_changedCellOf_0 rfl (lv_at hl 2 rfl) ?_
  refine lv_bipush (v := 8) hx hb dX1_changedCellOf_1 (by decide) ?_
  refine lv_imul hx hb dX1_changedCellOf_3 ?_
  refine lv_iload_n hx hb dX1_changedCellOf_4 rfl (lv_at hl 3 rfl) ?_
  refine lv_iadd hx hb dX1_changedCellOf_5 ?_
  refine lv_istore (lv' := [(4, .int ((p2 * 8) + p3)), (0, .ref ha), (1, .ref ja), (2, .int p2), (3, .int p3)]) hx hb dX1_changedCellOf_6 hl (by decide) rfl (fun ls hl => ?_)
  refine lv_aload_n hx hb dX1_changedCellOf_8 rfl (lv_at hl 1 rfl) ?_
  refine lv_iload_n hx hb dX1_changedCellOf_9 rfl (lv_at hl 3 rfl) ?_
  refine lv_iload_n hx hb dX1_changedCellOf_10 rfl (lv_at hl 4 rfl) ?_
  refine pr_i (va_runV (As := [.int p2, .int p3]) (rest := []) ⟨hx, hb, hml, hown, hts⟩ (k_X1_hasCell l D cyI cyZ ha hn hc t0 p2 p3) (cwV 2 hts gX1_changedCellOf_X1_hasCell rfl rfl rfl (by decide +kernel) ⟨Nat.le_of_ble_eq_true rfl, Nat.le_of_ble_eq_true rfl⟩) (prV hG (hP.sub (ws' := wT cyI ha hn hc t0) [0, 1, 2] rfl) (ci := 1) rfl rfl rfl) rfl rfl hl.1 rfl (lv_room (Nat.le_of_ble_eq_true rfl)) dX1_changedCellOf_11 ⟨Nat.zero_le _, Nat.zero_le _⟩) hS hP (fun H locs hP hS => ?_)
  refine lv_if_eq (tgt := 47) hx hb dX1_changedCellOf_14 (by decide) (fun c_14 => ?_) (fun c_14 => ?_)
  · refine lv_iconst (v := 0) hx hb dX1_changedCellOf_47 (by decide) ?_
    have ef : f_X1_changedCellOf t0 t1 p2 p3 = 0 := by rw [f_X1_changedCellOf, if_pos c_14]
    exact W.zret (v := 0) (ty := .boolean) hx hb hr rfl (fun t ht hW => ⟨⟨0, (), rfl, ef.symm, trivial⟩, hS.F ht⟩) hS.2.2 dX1_changedCellOf_48
  · refine lv_aload_n hx hb dX1_changedCellOf_17 rfl (lv_at hl 2 rfl) ?_
    refine lv_iload_n hx hb dX1_changedCellOf_18 rfl (lv_at hl 3 rfl) ?_
    refine lv_iload_n hx hb dX1_changedCellOf_19 rfl (lv_at hl 4 rfl) ?_
    refine pr_i (va_runV (As := [.int p2, .int p3]) (rest := []) ⟨hx, hb, hml, hown, hts⟩ (k_X1_hasCell l D cyI cyZ ja jn jc t1 p2 p3) (cwV 2 hts gX1_changedCellOf_X1_hasCell rfl rfl rfl (by decide +kernel) ⟨Nat.le_of_ble_eq_true rfl, Nat.le_of_ble_eq_true rfl⟩) (prV hG (hP.sub (ws' := wT cyI ja jn jc t1) [3, 4, 5] rfl) (ci := 1) rfl rfl rfl) rfl rfl hl.1 rfl (lv_room (Nat.le_of_ble_eq_true rfl)) dX1_changedCellOf_20 ⟨Nat.zero_le _, Nat.zero_le _⟩) hS hP (fun H locs hP hS => ?_)
    refine lv_if_eq (tgt := 47) hx hb dX1_changedCellOf_23 (by decide) (fun c_23 => ?_) (fun c_23 => ?_)
    · refine lv_iconst (v := 0) hx hb dX1_changedCellOf_47 (by decide) ?_
      have ef : f_X1_changedCellOf t0 t1 p2 p3 = 0 := by rw [f_X1_changedCellOf, if_neg c_14, if_pos c_23]
      exact W.zret (v := 0) (ty := .boolean) hx hb hr rfl (fun t ht hW => ⟨⟨0, (), rfl, ef.symm, trivial⟩, hS.F ht⟩) hS.2.2 dX1_changedCellOf_48
    · refine lv_aload_n hx hb dX1_changedCellOf_26 rfl (lv_at hl 1 rfl) ?_
      refine va_get (D := D) (ci := 1) (v := .ref hc) (C := RX1) (T := TX1) (N := 4) hx hb hts uin_X1_changedCellOf_X1 hown hG.1 hP 0 rfl rfl 3 (by decide) (hts (.fieldLink RX1 22 "TableSplice$Table" "cells" "[I") (List.mem_of_getElem? (i := 1) rfl)) (fun _ h9 => h9) rfl dX1_changedCellOf_27 ?_
      refine lv_iload hx hb dX1_changedCellOf_30 (lv_at hl 0 rfl) ?_
      refine va_iald hx hb hG.1 hP 2 0 rfl rfl (in_cell c_14) dX1_changedCellOf_32 ?_
      refine lv_aload_n hx hb dX1_changedCellOf_33 rfl (lv_at hl 2 rfl) ?_
      refine va_get (D := D) (ci := 1) (v := .ref jc) (C := RX1) (T := TX1) (N := 4) hx hb hts uin_X1_changedCellOf_X1 hown hG.1 hP 3 rfl rfl 3 (by decide) (hts (.fieldLink RX1 22 "TableSplice$Table" "cells" "[I") (List.mem_of_getElem? (i := 1) rfl)) (fun _ h9 => h9) rfl dX1_changedCellOf_34 ?_
      refine lv_iload hx hb dX1_changedCellOf_37 (lv_at hl 0 rfl) ?_
      refine va_iald hx hb hG.1 hP 5 0 rfl rfl (in_cell c_23) dX1_changedCellOf_39 ?_
      refine lv_icmp_eq (tgt := 47) hx hb dX1_changedCellOf_40 (by decide) (fun c_40 => ?_) (fun c_40 => ?_)
      · refine lv_iconst (v := 0) hx hb dX1_changedCellOf_47 (by decide) ?_
        have ef : f_X1_changedCellOf t0 t1 p2 p3 = 0 := by rw [f_X1_changedCellOf, if_neg c_14, if_neg c_23, if_pos c_40]
        exact W.zret (v := 0) (ty := .boolean) hx hb hr rfl (fun t ht hW => ⟨⟨0, (), rfl, ef.symm, trivial⟩, hS.F ht⟩) hS.2.2 dX1_changedCellOf_48
      · refine lv_iconst (v := 1) hx hb dX1_changedCellOf_43 (by decide) ?_
        refine lv_goto (tgt := 48) hx hb dX1_changedCellOf_44 (by decide) ?_
        have ef : f_X1_changedCellOf t0 t1 p2 p3 = 1 := by rw [f_X1_changedCellOf, if_neg c_14, if_neg c_23, if_neg c_40]
        exact W.zret (v := 1) (ty := .boolean) hx hb hr rfl (fun t ht hW => ⟨⟨1, (), rfl, ef.symm, trivial⟩, hS.F ht⟩) hS.2.2 dX1_changedCellOf_48
def f_X1_addedOrChangedCellOf (t0 : Tr) (t1 : Tr) (p2 : Int32) (p3 : Int32) : Int32 := if (f_X1_hasCell t0 p2 p3) = 0 then 0 else (if (f_X1_hasCell t1 p2 p3) = 0 then 1 else (if (f_X1_changedCellOf t0 t1 p2 p3) = 0 then 0 else 1))
theorem uin_X1_addedOrChangedCellOf_X1 : ∀ w ∈ wsX10, w ∈ wsX1_addedOrChangedCellOf := fun _ h => List.mem_cons_of_mem _ (List.mem_append_right _ h)
set_option maxHeartbeats 4000000 in
set_option maxRecDepth 100000 in
theorem k_X1_addedOrChangedCellOf (l : Launch) (D : va_G) (cyI cyZ : ClassId) (ha : Nat) (hn : Nat) (hc : Nat) (ja : Nat) (jn : Nat) (jc : Nat) (t0 : Tr) (t1 : Tr) (p2 : Int32) (p3 : Int32) : Met l yX1_addedOrChangedCellOf wsX1_addedOrChangedCellOf ({ frames := 3, cells := 0, slots := 0, locals := 67 } : Room) (pcP D cyI cyZ [.ref ha, .ref ja, .int p2, .int p3] (wU cyI ha hn hc t0 ja jn jc t1)) (qI (f_X1_addedOrChangedCellOf t0 t1 p2 p3)) 0 0 nA := by
  refine Met.ofW (cc := cX1_addedOrChangedCellOf) (maxL := 4) (ret := (some .boolean)) (by decide) rfl ?_
  intro p e s m args below meth c s₁ B hml hv
  obtain ⟨rfl, hP, hG⟩ := hv
  have hx := B.exec
  have hb := B.bytes
  have hr := B.returns
  have hts := atoms_spec (ws := wsX1_addedOrChangedCellOf) B.pre
  have hown : s.vm.findClass RX1 = some m.cls := findClass_of_methodNamed B.named
  have hlocks := B.notSynchronized
  have hS : va_S nA s.heap s.heap [] := va_S.rf
  have hl := lv_entry ([.ref ha, .ref ja, .int p2, .int p3]) (n := 4) (Nat.le_of_ble_eq_true rfl)
  rw [lg_entry_eq]
  generalize (lg_sl ([.ref ha, .ref ja, .int p2, .int p3]) ++ List.replicate (4 - (lg_sl ([.ref ha, .ref ja, .int p2, .int p3])).length) Slot.unset).toArray = ls at hl ⊢
  have hl : lv_has ls 4 [(0, .ref ha), (1, .ref ja), (2, .int p2), (3, .int p3)] := hl
  have hP : va_P D vwCl (wU cyI ha hn hc t0 ja jn jc t1) s.heap := hP
  refine lv_aload_n hx hb dX1_addedOrChangedCellOf_0 rfl (lv_at hl 0 rfl) ?_
  refine lv_iload_n hx hb dX1_addedOrChangedCellOf_1 rfl (lv_at hl 2 rfl) ?_
  refine lv_iload_n hx hb dX1_addedOrChangedCellOf_2 rfl (lv_at hl 3 rfl) ?_
  refine pr_i (va_runV (As := [.int p2, .int p3]) (rest := []) ⟨hx, hb, hml, hown, hts⟩ (k_X1_hasCell l D cyI cyZ ha hn hc t0 p2 p3) (cwV 2 hts gX1_addedOrChangedCellOf_X1_hasCell rfl rfl rfl (by decide +kernel) ⟨Nat.le_of_ble_eq_true rfl, Nat.le_of_ble_eq_true rfl⟩) (prV hG (hP.sub (ws' := wT cyI ha hn hc t0) [0, 1, 2] rfl) (ci := 1) rfl rfl rfl) rfl rfl hl.1 rfl (lv_room (Nat.le_of_ble_eq_true rfl)) dX1_addedOrChangedCellOf_3 ⟨Nat.zero_le _, Nat.zero_le _⟩) hS hP (fun H locs hP hS => ?_)
  refine lv_if_eq (tgt := 32) hx hb dX1_addedOrChangedCellOf_6 (by decide) (fun c_6 => ?_) (fun c_6 => ?_)
  · refine lv_iconst (v := 0) hx hb dX1_addedOrChangedCellOf_32 (by decide) ?_
    have ef : f_X1_addedOrChangedCellOf t0 t1 p2 p3 = 0 := by rw [f_X1_addedOrChangedCellOf, if_pos c_6]
    exact W.zret (v := 0) (ty := .boolean) hx hb hr rfl (fun t ht hW => ⟨⟨0, (), rfl, ef.symm, trivial⟩, hS.F ht⟩) hS.2.2 dX1_addedOrChangedCellOf_33
  · refine lv_aload_n hx hb dX1_addedOrChangedCellOf_9 rfl (lv_at hl 1 rfl) ?_
    refine lv_iload_n hx hb dX1_addedOrChangedCellOf_10 rfl (lv_at hl 2 rfl) ?_
    refine lv_iload_n hx hb dX1_addedOrChangedCellOf_11 rfl (lv_at hl 3 rfl) ?_
    refine pr_i (va_runV (As := [.int p2, .int p3]) (rest := []) ⟨hx, hb, hml, hown, hts⟩ (k_X1_hasCell l D cyI cyZ ja jn jc t1 p2 p3) (cwV 2 hts gX1_addedOrChangedCellOf_X1_hasCell rfl rfl rfl (by decide +kernel) ⟨Nat.le_of_ble_eq_true rfl, Nat.le_of_ble_eq_true rfl⟩) (prV hG (hP.sub (ws' := wT cyI ja jn jc t1) [3, 4, 5] rfl) (ci := 1) rfl rfl rfl) rfl rfl hl.1 rfl (lv_room (Nat.le_of_ble_eq_true rfl)) dX1_addedOrChangedCellOf_12 ⟨Nat.zero_le _, Nat.zero_le _⟩) hS hP (fun H locs hP hS => ?_)
    refine lv_if_eq (tgt := 28) hx hb dX1_addedOrChangedCellOf_15 (by decide) (fun c_15 => ?_) (fun c_15 => ?_)
    · refine lv_iconst (v := 1) hx hb dX1_addedOrChangedCellOf_28 (by decide) ?_
      refine lv_goto (tgt := 33) hx hb dX1_addedOrChangedCellOf_29 (by decide) ?_
      have ef : f_X1_addedOrChangedCellOf t0 t1 p2 p3 = 1 := by rw [f_X1_addedOrChangedCellOf, if_neg c_6, if_pos c_15]
      exact W.zret (v := 1) (ty := .boolean) hx hb hr rfl (fun t ht hW => ⟨⟨1, (), rfl, ef.symm, trivial⟩, hS.F ht⟩) hS.2.2 dX1_addedOrChangedCellOf_33
    · refine lv_aload_n hx hb dX1_addedOrChangedCellOf_18 rfl (lv_at hl 0 rfl) ?_
      refine lv_aload_n hx hb dX1_addedOrChangedCellOf_19 rfl (lv_at hl 1 rfl) ?_
      refine lv_iload_n hx hb dX1_addedOrChangedCellOf_20 rfl (lv_at hl 2 rfl) ?_
      refine lv_iload_n hx hb dX1_addedOrChangedCellOf_21 rfl (lv_at hl 3 rfl) ?_
      refine pr_i (va_runV (As := [.ref ja, .int p2, .int p3]) (rest := []) ⟨hx, hb, hml, hown, hts⟩ (k_X1_changedCellOf l D cyI cyZ ha hn hc ja jn jc t0 t1 p2 p3) (cwV 3 hts gX1_addedOrChangedCellOf_X1_changedCellOf rfl rfl rfl (by decide +kernel) ⟨Nat.le_of_ble_eq_true rfl, Nat.le_of_ble_eq_true rfl⟩) (prV hG hP (ci := 1) rfl rfl rfl) rfl rfl hl.1 rfl (lv_room (Nat.le_of_ble_eq_true rfl)) dX1_addedOrChangedCellOf_22 ⟨Nat.zero_le _, Nat.zero_le _⟩) hS hP (fun H locs hP hS => ?_)
      refine lv_if_eq (tgt := 32) hx hb dX1_addedOrChangedCellOf_25 (by decide) (fun c_25 => ?_) (fun c_25 => ?_)
      · refine lv_iconst (v := 0) hx hb dX1_addedOrChangedCellOf_32 (by decide) ?_
        have ef : f_X1_addedOrChangedCellOf t0 t1 p2 p3 = 0 := by rw [f_X1_addedOrChangedCellOf, if_neg c_6, if_neg c_15, if_pos c_25]
        exact W.zret (v := 0) (ty := .boolean) hx hb hr rfl (fun t ht hW => ⟨⟨0, (), rfl, ef.symm, trivial⟩, hS.F ht⟩) hS.2.2 dX1_addedOrChangedCellOf_33
      · refine lv_iconst (v := 1) hx hb dX1_addedOrChangedCellOf_28 (by decide) ?_
        refine lv_goto (tgt := 33) hx hb dX1_addedOrChangedCellOf_29 (by decide) ?_
        have ef : f_X1_addedOrChangedCellOf t0 t1 p2 p3 = 1 := by rw [f_X1_addedOrChangedCellOf, if_neg c_6, if_neg c_15, if_neg c_25]
        exact W.zret (v := 1) (ty := .boolean) hx hb hr rfl (fun t ht hW => ⟨⟨1, (), rfl, ef.symm, trivial⟩, hS.F ht⟩) hS.2.2 dX1_addedOrChangedCellOf_33
def f_X1_renamedColumnOf (t0 : Tr) (t1 : Tr) (p2 : Int32) : Int32 := if (f_X1_hasColumn t0 p2) = 0 then 0 else (if (f_X1_hasColumn t1 p2) = 0 then 0 else (if (f_X1_nameAt t0 p2) = (f_X1_nameAt t1 p2) then 0 else 1))
theorem uin_X1_renamedColumnOf_X1 : ∀ w ∈ wsX10, w ∈ wsX1_renamedColumnOf := fun _ h => List.mem_cons_of_mem _ (List.mem_append_right _ h)
set_option maxHeartbeats 4000000 in
set_option maxRecDepth 100000 in
theorem k_X1_renamedColumnOf (l : Launch) (D : va_G) (cyI cyZ : ClassId) (ha : Nat) (hn : Nat) (hc : Nat) (ja : Nat) (jn : Nat) (jc : Nat) (t0 : Tr) (t1 : Tr) (p2 : Int32) : Met l yX1_renamedColumnOf wsX1_renamedColumnOf ({ frames := 2, cells := 0, slots := 0, locals := 42 } : Room) (pcP D cyI cyZ [.ref ha, .ref ja, .int p2] (wU cyI ha hn hc t0 ja jn jc t1)) (qI (f_X1_renamedColumnOf t0 t1 p2)) 0 0 nA := by
  refine Met.ofW (cc := cX1_renamedColumnOf) (maxL := 3) (ret := (some .boolean)) (by decide) rfl ?_
  intro p e s m args below meth c s₁ B hml hv
  obtain ⟨rfl, hP, hG⟩ := hv
  have hx := B.exec
  have hb := B.bytes
  have hr := B.returns
  have hts := atoms_spec (ws := wsX1_renamedColumnOf) B.pre
  have hown : s.vm.findClass RX1 = some m.cls := findClass_of_methodNamed B.named
  have hlocks := B.notSynchronized
  have hS : va_S nA s.heap s.heap [] := va_S.rf
  have hl := lv_entry ([.ref ha, .ref ja, .int p2]) (n := 3) (Nat.le_of_ble_eq_true rfl)
  rw [lg_entry_eq]
  generalize (lg_sl ([.ref ha, .ref ja, .int p2]) ++ List.replicate (3 - (lg_sl ([.ref ha, .ref ja, .int p2])).length) Slot.unset).toArray = ls at hl ⊢
  have hl : lv_has ls 3 [(0, .ref ha), (1, .ref ja), (2, .int p2)] := hl
  have hP : va_P D vwCl (wU cyI ha hn hc t0 ja jn jc t1) s.heap := hP
  refine lv_aload_n hx hb dX1_renamedColumnOf_0 rfl (lv_at hl 0 rfl) ?_
  refine lv_iload_n hx hb dX1_renamedColumnOf_1 rfl (lv_at hl 2 rfl) ?_
  refine pr_i (va_runV (As := [.int p2]) (rest := []) ⟨hx, hb, hml, hown, hts⟩ (k_X1_hasColumn l D cyI cyZ ha hn hc t0 p2) (cwV 1 hts gX1_renamedColumnOf_X1_hasColumn rfl rfl rfl (by decide +kernel) ⟨Nat.le_of_ble_eq_true rfl, Nat.le_of_ble_eq_true rfl⟩) (prV hG (hP.sub (ws' := wT cyI ha hn hc t0) [0, 1, 2] rfl) (ci := 1) rfl rfl rfl) rfl rfl hl.1 rfl (lv_room (Nat.le_of_ble_eq_true rfl)) dX1_renamedColumnOf_2 ⟨Nat.zero_le _, Nat.zero_le _⟩) hS hP (fun H locs hP hS => ?_)
  refine lv_if_eq (tgt := 33) hx hb dX1_renamedColumnOf_5 (by decide) (fun c_5 => ?_) (fun c_5 => ?_)
  · refine lv_iconst (v := 0) hx hb dX1_renamedColumnOf_33 (by decide) ?_
    have ef : f_X1_renamedColumnOf t0 t1 p2 = 0 := by rw [f_X1_renamedColumnOf, if_pos c_5]
    exact W.zret (v := 0) (ty := .boolean) hx hb hr rfl (fun t ht hW => ⟨⟨0, (), rfl, ef.symm, trivial⟩, hS.F ht⟩) hS.2.2 dX1_renamedColumnOf_34
  · refine lv_aload_n hx hb dX1_renamedColumnOf_8 rfl (lv_at hl 1 rfl) ?_
    refine lv_iload_n hx hb dX1_renamedColumnOf_9 rfl (lv_at hl 2 rfl) ?_
    refine pr_i (va_runV (As := [.int p2]) (rest := []) ⟨hx, hb, hml, hown, hts⟩ (k_X1_hasColumn l D cyI cyZ ja jn jc t1 p2) (cwV 1 hts gX1_renamedColumnOf_X1_hasColumn rfl rfl rfl (by decide +kernel) ⟨Nat.le_of_ble_eq_true rfl, Nat.le_of_ble_eq_true rfl⟩) (prV hG (hP.sub (ws' := wT cyI ja jn jc t1) [3, 4, 5] rfl) (ci := 1) rfl rfl rfl) rfl rfl hl.1 rfl (lv_room (Nat.le_of_ble_eq_true rfl)) dX1_renamedColumnOf_10 ⟨Nat.zero_le _, Nat.zero_le _⟩) hS hP (fun H locs hP hS => ?_)
    refine lv_if_eq (tgt := 33) hx hb dX1_renamedColumnOf_13 (by decide) (fun c_13 => ?_) (fun c_13 => ?_)
    · refine lv_iconst (v := 0) hx hb dX1_renamedColumnOf_33 (by decide) ?_
      have ef : f_X1_renamedColumnOf t0 t1 p2 = 0 := by rw [f_X1_renamedColumnOf, if_neg c_5, if_pos c_13]
      exact W.zret (v := 0) (ty := .boolean) hx hb hr rfl (fun t ht hW => ⟨⟨0, (), rfl, ef.symm, trivial⟩, hS.F ht⟩) hS.2.2 dX1_renamedColumnOf_34
    · refine lv_aload_n hx hb dX1_renamedColumnOf_16 rfl (lv_at hl 0 rfl) ?_
      refine lv_iload_n hx hb dX1_renamedColumnOf_17 rfl (lv_at hl 2 rfl) ?_
      refine pr_i (va_runV (As := [.int p2]) (rest := []) ⟨hx, hb, hml, hown, hts⟩ (k_X1_nameAt l D cyI cyZ ha hn hc t0 p2) (cwV 1 hts gX1_renamedColumnOf_X1_nameAt rfl rfl rfl (by decide +kernel) ⟨Nat.le_of_ble_eq_true rfl, Nat.le_of_ble_eq_true rfl⟩) (prV hG (hP.sub (ws' := wT cyI ha hn hc t0) [0, 1, 2] rfl) (ci := 1) rfl rfl rfl) rfl rfl hl.1 rfl (lv_room (Nat.le_of_ble_eq_true rfl)) dX1_renamedColumnOf_18 ⟨Nat.zero_le _, Nat.zero_le _⟩) hS hP (fun H locs hP hS => ?_)
      refine lv_aload_n hx hb dX1_renamedColumnOf_21 rfl (lv_at hl 1 rfl) ?_
      refine lv_iload_n hx hb dX1_renamedColumnOf_22 rfl (lv_at hl 2 rfl) ?_
      refine pr_i (va_runV (As := [.int p2]) (rest := [.int (f_X1_nameAt t0 p2)]) ⟨hx, hb, hml, hown, hts⟩ (k_X1_nameAt l D cyI cyZ ja jn jc t1 p2) (cwV 1 hts gX1_renamedColumnOf_X1_nameAt rfl rfl rfl (by decide +kernel) ⟨Nat.le_of_ble_eq_true rfl, Nat.le_of_ble_eq_true rfl⟩) (prV hG (hP.sub (ws' := wT cyI ja jn jc t1) [3, 4, 5] rfl) (ci := 1) rfl rfl rfl) rfl rfl hl.1 rfl (lv_room (Nat.le_of_ble_eq_true rfl)) dX1_renamedColumnOf_23 ⟨Nat.zero_le _, Nat.zero_le _⟩) hS hP (fun H locs hP hS => ?_)
      refine lv_icmp_eq (tgt := 33) hx hb dX1_renamedColumnOf_26 (by decide) (fun c_26 => ?_) (fun c_26 => ?_)
      · refine lv_iconst (v := 0) hx hb dX1_renamedColumnOf_33 (by decide) ?_
        have ef : f_X1_renamedColumnOf t0 t1 p2 = 0 := by rw [f_X1_renamedColumnOf, if_neg c_5, if_neg c_13, if_pos c_26]
        exact W.zret (v := 0) (ty := .boolean) hx hb hr rfl (fun t ht hW => ⟨⟨0, (), rfl, ef.symm, trivial⟩, hS.F ht⟩) hS.2.2 dX1_renamedColumnOf_34
      · refine lv_iconst (v := 1) hx hb dX1_renamedColumnOf_29 (by decide) ?_
        refine lv_goto (tgt := 34) hx hb dX1_renamedColumnOf_30 (by decide) ?_
        have ef : f_X1_renamedColumnOf t0 t1 p2 = 1 := by rw [f_X1_renamedColumnOf, if_neg c_5, if_neg c_13, if_neg c_26]
        exact W.zret (v := 1) (ty := .boolean) hx hb hr rfl (fun t ht hW => ⟨⟨1, (), rfl, ef.symm, trivial⟩, hS.F ht⟩) hS.2.2 dX1_renamedColumnOf_34
def f_X1_changedColumnOf (t0 : Tr) (t1 : Tr) (p2 : Int32) : Int32 := if (f_X1_renamedColumnOf t0 t1 p2) = 0 then (if anyN (fun i => decide (¬ f_X1_changedCellOf t0 t1 (nI i) p2 = 0)) 24 = true then 1 else 0) else 1
theorem uin_X1_changedColumnOf_X1 : ∀ w ∈ wsX10, w ∈ wsX1_changedColumnOf := fun _ h => List.mem_cons_of_mem _ (List.mem_append_right _ h)
set_option maxHeartbeats 4000000 in
set_option maxRecDepth 100000 in
theorem k_X1_changedColumnOf (l : Launch) (D : va_G) (cyI cyZ : ClassId) (ha : Nat) (hn : Nat) (hc : Nat) (ja : Nat) (jn : Nat) (jc : Nat) (t0 : Tr) (t1 : Tr) (p2 : Int32) : Met l yX1_changedColumnOf wsX1_changedColumnOf ({ frames := 3, cells := 0, slots := 0, locals := 67 } : Room) (pcP D cyI cyZ [.ref ha, .ref ja, .int p2] (wU cyI ha hn hc t0 ja jn jc t1)) (qI (f_X1_changedColumnOf t0 t1 p2)) 0 0 nA := by
  refine Met.ofW (cc := cX1_changedColumnOf) (maxL := 4) (ret := (some .boolean)) (by decide) rfl ?_
  intro p e s m args below meth c s₁ B hml hv
  obtain ⟨rfl, hP, hG⟩ := hv
  have hx := B.exec
  have hb := B.bytes
  have hr := B.returns
  have hts := atoms_spec (ws := wsX1_changedColumnOf) B.pre
  have hown : s.vm.findClass RX1 = some m.cls := findClass_of_methodNamed B.named
  have hlocks := B.notSynchronized
  have hS : va_S nA s.heap s.heap [] := va_S.rf
  have hl := lv_entry ([.ref ha, .ref ja, .int p2]) (n := 4) (Nat.le_of_ble_eq_true rfl)
  rw [lg_entry_eq]
  generalize (lg_sl ([.ref ha, .ref ja, .int p2]) ++ List.replicate (4 - (lg_sl ([.ref ha, .ref ja, .int p2])).length) Slot.unset).toArray = ls at hl ⊢
  have hl : lv_has ls 4 [(0, .ref ha), (1, .ref ja), (2, .int p2)] := hl
  have hP : va_P D vwCl (wU cyI ha hn hc t0 ja jn jc t1) s.heap := hP
  refine lv_aload_n hx hb dX1_changedColumnOf_0 rfl (lv_at hl 0 rfl) ?_
  refine lv_aload_n hx hb dX1_changedColumnOf_1 rfl (lv_at hl 1 rfl) ?_
  refine lv_iload_n hx hb dX1_changedColumnOf_2 rfl (lv_at hl 2 rfl) ?_
  refine pr_i (va_runV (As := [.ref ja, .int p2]) (rest := []) ⟨hx, hb, hml, hown, hts⟩ (k_X1_renamedColumnOf l D cyI cyZ ha hn hc ja jn jc t0 t1 p2) (cwV 2 hts gX1_changedColumnOf_X1_renamedColumnOf rfl rfl rfl (by decide +kernel) ⟨Nat.le_of_ble_eq_true rfl, Nat.le_of_ble_eq_true rfl⟩) (prV hG hP (ci := 1) rfl rfl rfl) rfl rfl hl.1 rfl (lv_room (Nat.le_of_ble_eq_true rfl)) dX1_changedColumnOf_3 ⟨Nat.zero_le _, Nat.zero_le _⟩) hS hP (fun H locs hP hS => ?_)
  refine lv_if_eq (tgt := 11) hx hb dX1_changedColumnOf_6 (by decide) (fun c_6 => ?_) (fun c_6 => ?_)
  · refine lv_iconst (v := 0) hx hb dX1_changedColumnOf_11 (by decide) ?_
    refine lv_istore_n (lv' := [(3, .int 0), (0, .ref ha), (1, .ref ja), (2, .int p2)]) hx hb dX1_changedColumnOf_12 rfl hl (by decide) rfl (fun ls hl => ?_)
    have lp_a : ∀ (n ia : Nat), ia + n = 24 → (anyN (fun i => decide (¬ f_X1_changedCellOf t0 t1 (nI i) p2 = 0)) ia = false) → ∀ (H : Heap) (locs : List Loc), va_P D vwCl (wU cyI ha hn hc t0 ja jn jc t1) H → va_S nA s.heap H locs → ∀ (ls : Array Slot), lv_has ls 4 [(3, .int (nI ia)), (0, .ref ha), (1, .ref ja), (2, .int p2)] → W p l e (headSpec wsX1_changedColumnOf ({ frames := 3, cells := 0, slots := 0, locals := 67 } : Room)).room s m ([.ref ha, .ref ja, .int p2] : List Value).toArray below meth c H locs 0 0 (MQ below (qI (f_X1_changedColumnOf t0 t1 p2)) ([.ref ha, .ref ja, .int p2] : List Value).toArray s 0 0 nA) (F0 m 13 ls []) := by
      intro n
      induction n with
      | zero =>
        intro ia hi_a  ha_a H locs hP hS ls hl
        obtain rfl : 24 = ia := by omega
        refine lv_iload_n hx hb dX1_changedColumnOf_13 rfl (lv_at hl 0 rfl) ?_
        refine lv_bipush (v := 24) hx hb dX1_changedColumnOf_14 (by decide) ?_
        refine lv_icmp_ge (tgt := 37) hx hb dX1_changedColumnOf_16 (by decide) (fun c_16 => ?_) (fun c_16 => ?_)
        · have hb_a : ¬ anyN (fun i => decide (¬ f_X1_changedCellOf t0 t1 (nI i) p2 = 0)) 24 = true := fun z => by rw [ha_a] at z; cases z
          refine lv_iconst (v := 0) hx hb dX1_changedColumnOf_37 (by decide) ?_
          have ef : f_X1_changedColumnOf t0 t1 p2 = 0 := by rw [f_X1_changedColumnOf, if_pos c_6, if_neg hb_a]
          exact W.zret (v := 0) (ty := .boolean) hx hb hr rfl (fun t ht hW => ⟨⟨0, (), rfl, ef.symm, trivial⟩, hS.F ht⟩) hS.2.2 dX1_changedColumnOf_38
        · exact absurd (by decide) c_16
      | succ n ih_a =>
        intro ia hi_a  ha_a H locs hP hS ls hl
        have hj_a : ia < 24 := by omega
        refine lv_iload_n hx hb dX1_changedColumnOf_13 rfl (lv_at hl 0 rfl) ?_
        refine lv_bipush (v := 24) hx hb dX1_changedColumnOf_14 (by decide) ?_
        refine lv_icmp_ge (tgt := 37) hx hb dX1_changedColumnOf_16 (by decide) (fun c_16 => ?_) (fun c_16 => ?_)
        · exact absurd c_16 (nI_ge hj_a (by decide))
        · refine lv_aload_n hx hb dX1_changedColumnOf_19 rfl (lv_at hl 1 rfl) ?_
          refine lv_aload_n hx hb dX1_changedColumnOf_20 rfl (lv_at hl 2 rfl) ?_
          refine lv_iload_n hx hb dX1_changedColumnOf_21 rfl (lv_at hl 0 rfl) ?_
          refine lv_iload_n hx hb dX1_changedColumnOf_22 rfl (lv_at hl 3 rfl) ?_
          refine pr_i (va_runV (As := [.ref ja, .int (nI ia), .int p2]) (rest := []) ⟨hx, hb, hml, hown, hts⟩ (k_X1_changedCellOf l D cyI cyZ ha hn hc ja jn jc t0 t1 (nI ia) p2) (cwV 3 hts gX1_changedColumnOf_X1_changedCellOf rfl rfl rfl (by decide +kernel) ⟨Nat.le_of_ble_eq_true rfl, Nat.le_of_ble_eq_true rfl⟩) (prV hG hP (ci := 1) rfl rfl rfl) rfl rfl hl.1 rfl (lv_room (Nat.le_of_ble_eq_true rfl)) dX1_changedColumnOf_23 ⟨Nat.zero_le _, Nat.zero_le _⟩) hS hP (fun H locs hP hS => ?_)
          refine lv_if_eq (tgt := 31) hx hb dX1_changedColumnOf_26 (by decide) (fun c_26 => ?_) (fun c_26 => ?_)
          · refine lv_iinc (v := nI (ia + 1)) (lv' := [(3, .int (nI (ia + 1))), (0, .ref ha), (1, .ref ja), (2, .int p2)]) hx hb dX1_changedColumnOf_31 hl (k := 0) rfl (nI_1 _) (by decide) rfl (fun ls hl => ?_)
            refine lv_goto (tgt := 13) hx hb dX1_changedColumnOf_34 (by decide) ?_
            exact ih_a (ia + 1) (by omega)  (anyN_s ha_a (decide_eq_false (fun z => z c_26))) _ _ hP hS ls (lv_sub hl [0, 1, 2, 3] rfl)
          · have hh_a : anyN (fun i => decide (¬ f_X1_changedCellOf t0 t1 (nI i) p2 = 0)) 24 = true := anyN_t (decide_eq_true c_26) 24 hj_a
            refine lv_iconst (v := 1) hx hb dX1_changedColumnOf_29 (by decide) ?_
            have ef : f_X1_changedColumnOf t0 t1 p2 = 1 := by rw [f_X1_changedColumnOf, if_pos c_6, if_pos hh_a]
            exact W.zret (v := 1) (ty := .boolean) hx hb hr rfl (fun t ht hW => ⟨⟨1, (), rfl, ef.symm, trivial⟩, hS.F ht⟩) hS.2.2 dX1_changedColumnOf_30
    exact lp_a 24 0 (by omega)  rfl _ _ hP hS ls (lv_sub hl [0, 1, 2, 3] rfl)
  · refine lv_iconst (v := 1) hx hb dX1_changedColumnOf_9 (by decide) ?_
    have ef : f_X1_changedColumnOf t0 t1 p2 = 1 := by rw [f_X1_changedColumnOf, if_neg c_6]
    exact W.zret (v := 1) (ty := .boolean) hx hb hr rfl (fun t ht hW => ⟨⟨1, (), rfl, ef.symm, trivial⟩, hS.F ht⟩) hS.2.2 dX1_changedColumnOf_10
def f_X1_countCellsChanged_sa (t0 : Tr) (t1 : Tr) (p2 : Int32) (ia : Nat) (va_3 : Int32) : Int32 := if (f_X1_changedCellOf t0 t1 p2 (nI ia)) = 0 then va_3 else va_3 + 1
def f_X1_countCellsChanged (t0 : Tr) (t1 : Tr) (p2 : Int32) : Int32 := it (fun (i9 : Nat) (z9 : Int32) => f_X1_countCellsChanged_sa t0 t1 p2 i9 z9) 0 8
theorem uin_X1_countCellsChanged_X1 : ∀ w ∈ wsX10, w ∈ wsX1_countCellsChanged := fun _ h => List.mem_cons_of_mem _ (List.mem_append_right _ h)
set_option maxHeartbeats 4000000 in
set_option maxRecDepth 100000 in
theorem k_X1_countCellsChanged (l : Launch) (D : va_G) (cyI cyZ : ClassId) (ha : Nat) (hn : Nat) (hc : Nat) (ja : Nat) (jn : Nat) (jc : Nat) (t0 : Tr) (t1 : Tr) (p2 : Int32) : Met l yX1_countCellsChanged wsX1_countCellsChanged ({ frames := 3, cells := 0, slots := 0, locals := 67 } : Room) (pcP D cyI cyZ [.ref ha, .ref ja, .int p2] (wU cyI ha hn hc t0 ja jn jc t1)) (qI (f_X1_countCellsChanged t0 t1 p2)) 0 0 nA := by
  refine Met.ofW (cc := cX1_countCellsChanged) (maxL := 5) (ret := (some .int)) (by decide) rfl ?_
  intro p e s m args below meth c s₁ B hml hv
  obtain ⟨rfl, hP, hG⟩ := hv
  have hx := B.exec
  have hb := B.bytes
  have hr := B.returns
  have hts := atoms_spec (ws := wsX1_countCellsChanged) B.pre
  have hown : s.vm.findClass RX1 = some m.cls := findClass_of_methodNamed B.named
  have hlocks := B.notSynchronized
  have hS : va_S nA s.heap s.heap [] := va_S.rf
  have hl := lv_entry ([.ref ha, .ref ja, .int p2]) (n := 5) (Nat.le_of_ble_eq_true rfl)
  rw [lg_entry_eq]
  generalize (lg_sl ([.ref ha, .ref ja, .int p2]) ++ List.replicate (5 - (lg_sl ([.ref ha, .ref ja, .int p2])).length) Slot.unset).toArray = ls at hl ⊢
  have hl : lv_has ls 5 [(0, .ref ha), (1, .ref ja), (2, .int p2)] := hl
  have hP : va_P D vwCl (wU cyI ha hn hc t0 ja jn jc t1) s.heap := hP
  refine lv_iconst (v := 0) hx hb dX1_countCellsChanged_0 (by decide) ?_
  refine lv_istore_n (lv' := [(3, .int 0), (0, .ref ha), (1, .ref ja), (2, .int p2)]) hx hb dX1_countCellsChanged_1 rfl hl (by decide) rfl (fun ls hl => ?_)
  refine lv_iconst (v := 0) hx hb dX1_countCellsChanged_2 (by decide) ?_
  refine lv_istore (lv' := [(4, .int 0), (3, .int 0), (0, .ref ha), (1, .ref ja), (2, .int p2)]) hx hb dX1_countCellsChanged_3 hl (by decide) rfl (fun ls hl => ?_)
  have lp_a : ∀ (n ia : Nat), ia + n = 8 → ∀ (va_3 : Int32), va_3 = it (fun (i9 : Nat) (z9 : Int32) => f_X1_countCellsChanged_sa t0 t1 p2 i9 z9) 0 ia → ∀ (H : Heap) (locs : List Loc), va_P D vwCl (wU cyI ha hn hc t0 ja jn jc t1) H → va_S nA s.heap H locs → ∀ (ls : Array Slot), lv_has ls 5 [(4, .int (nI ia)), (3, .int va_3), (0, .ref ha), (1, .ref ja), (2, .int p2)] → W p l e (headSpec wsX1_countCellsChanged ({ frames := 3, cells := 0, slots := 0, locals := 67 } : Room)).room s m ([.ref ha, .ref ja, .int p2] : List Value).toArray below meth c H locs 0 0 (MQ below (qI (f_X1_countCellsChanged t0 t1 p2)) ([.ref ha, .ref ja, .int p2] : List Value).toArray s 0 0 nA) (F0 m 5 ls []) := by
    intro n
    induction n with
    | zero =>
      intro ia hi_a va_3 hs_a H locs hP hS ls hl
      obtain rfl : 8 = ia := by omega
      obtain rfl : va_3 = it (fun (i9 : Nat) (z9 : Int32) => f_X1_countCellsChanged_sa t0 t1 p2 i9 z9) 0 8 := hs_a
      refine lv_iload hx hb dX1_countCellsChanged_5 (lv_at hl 0 rfl) ?_
      refine lv_bipush (v := 8) hx hb dX1_countCellsChanged_7 (by decide) ?_
      refine lv_icmp_ge (tgt := 32) hx hb dX1_countCellsChanged_9 (by decide) (fun c_9 => ?_) (fun c_9 => ?_)
      · refine lv_iload_n hx hb dX1_countCellsChanged_32 rfl (lv_at hl 1 rfl) ?_
        have ef : f_X1_countCellsChanged t0 t1 p2 = it (fun (i9 : Nat) (z9 : Int32) => f_X1_countCellsChanged_sa t0 t1 p2 i9 z9) 0 8 := by rw [f_X1_countCellsChanged]
        exact W.iret (v := it (fun (i9 : Nat) (z9 : Int32) => f_X1_countCellsChanged_sa t0 t1 p2 i9 z9) 0 8) hx hb hr (fun t ht hW => ⟨⟨it (fun (i9 : Nat) (z9 : Int32) => f_X1_countCellsChanged_sa t0 t1 p2 i9 z9) 0 8, (), rfl, ef.symm, trivial⟩, hS.F ht⟩) hS.2.2 dX1_countCellsChanged_33
      · exact absurd (by decide) c_9
    | succ n ih_a =>
      intro ia hi_a va_3 hs_a H locs hP hS ls hl
      have hj_a : ia < 8 := by omega
      refine lv_iload hx hb dX1_countCellsChanged_5 (lv_at hl 0 rfl) ?_
      refine lv_bipush (v := 8) hx hb dX1_countCellsChanged_7 (by decide) ?_
      refine lv_icmp_ge (tgt := 32) hx hb dX1_countCellsChanged_9 (by decide) (fun c_9 => ?_) (fun c_9 => ?_)
      · exact absurd c_9 (nI_ge hj_a (by decide))
      · refine lv_aload_n hx hb dX1_countCellsChanged_12 rfl (lv_at hl 2 rfl) ?_
        refine lv_aload_n hx hb dX1_countCellsChanged_13 rfl (lv_at hl 3 rfl) ?_
        refine lv_iload_n hx hb dX1_countCellsChanged_14 rfl (lv_at hl 4 rfl) ?_
        refine lv_iload hx hb dX1_countCellsChanged_15 (lv_at hl 0 rfl) ?_
        refine pr_i (va_runV (As := [.ref ja, .int p2, .int (nI ia)]) (rest := []) ⟨hx, hb, hml, hown, hts⟩ (k_X1_changedCellOf l D cyI cyZ ha hn hc ja jn jc t0 t1 p2 (nI ia)) (cwV 3 hts gX1_countCellsChanged_X1_changedCellOf rfl rfl rfl (by decide +kernel) ⟨Nat.le_of_ble_eq_true rfl, Nat.le_of_ble_eq_true rfl⟩) (prV hG hP (ci := 1) rfl rfl rfl) rfl rfl hl.1 rfl (lv_room (Nat.le_of_ble_eq_true rfl)) dX1_countCellsChanged_17 ⟨Nat.zero_le _, Nat.zero_le _⟩) hS hP (fun H locs hP hS => ?_)
        refine lv_if_eq (tgt := 26) hx hb dX1_countCellsChanged_20 (by decide) (fun c_20 => ?_) (fun c_20 => ?_)
        · refine lv_iinc (v := nI (ia + 1)) (lv' := [(4, .int (nI (ia + 1))), (3, .int va_3), (0, .ref ha), (1, .ref ja), (2, .int p2)]) hx hb dX1_countCellsChanged_26 hl (k := 0) rfl (nI_1 _) (by decide) rfl (fun ls hl => ?_)
          refine lv_goto (tgt := 5) hx hb dX1_countCellsChanged_29 (by decide) ?_
          exact ih_a (ia + 1) (by omega) va_3 (it_s hs_a (by show f_X1_countCellsChanged_sa t0 t1 p2 ia va_3 = _; rw [f_X1_countCellsChanged_sa, if_pos c_20])) _ _ hP hS ls (lv_sub hl [0, 1, 2, 3, 4] rfl)
        · refine lv_iinc (v := va_3 + 1) (lv' := [(3, .int (va_3 + 1)), (4, .int (nI ia)), (0, .ref ha), (1, .ref ja), (2, .int p2)]) hx hb dX1_countCellsChanged_23 hl (k := 1) rfl rfl (by decide) rfl (fun ls hl => ?_)
          refine lv_iinc (v := nI (ia + 1)) (lv' := [(4, .int (nI (ia + 1))), (3, .int (va_3 + 1)), (0, .ref ha), (1, .ref ja), (2, .int p2)]) hx hb dX1_countCellsChanged_26 hl (k := 1) rfl (nI_1 _) (by decide) rfl (fun ls hl => ?_)
          refine lv_goto (tgt := 5) hx hb dX1_countCellsChanged_29 (by decide) ?_
          exact ih_a (ia + 1) (by omega) (va_3 + 1) (it_s hs_a (by show f_X1_countCellsChanged_sa t0 t1 p2 ia va_3 = _; rw [f_X1_countCellsChanged_sa, if_neg c_20])) _ _ hP hS ls (lv_sub hl [0, 1, 2, 3, 4] rfl)
  exact lp_a 8 0 (by omega) 0 rfl _ _ hP hS ls (lv_sub hl [0, 1, 2, 3, 4] rfl)
def f_X1_countChangesFrom_sb (t0 : Tr) (t1 : Tr) (ib : Nat) (vb_2 : Int32) : Int32 := vb_2 + (f_X1_countCellsChanged t0 t1 (nI ib))
def f_X1_countChangesFrom_sa (t0 : Tr) (t1 : Tr) (ia : Nat) (va_2 : Int32) : Int32 := if (f_X1_renamedColumnOf t0 t1 (nI ia)) = 0 then va_2 else va_2 + 1
def f_X1_countChangesFrom (t0 : Tr) (t1 : Tr) : Int32 := it (fun (i9 : Nat) (z9 : Int32) => f_X1_countChangesFrom_sb t0 t1 i9 z9) (it (fun (i9 : Nat) (z9 : Int32) => f_X1_countChangesFrom_sa t0 t1 i9 z9) ((f_J6_bitCount_0f7a4 (t0.1 ^^^ t1.1)) + (f_J6_bitCount_0f7a4 (t0.2.1 ^^^ t1.2.1))) 8) 24
theorem uin_X1_countChangesFrom_X1 : ∀ w ∈ wsX10, w ∈ wsX1_countChangesFrom := fun _ h => List.mem_cons_of_mem _ (List.mem_append_right _ h)
set_option maxHeartbeats 4000000 in
set_option maxRecDepth 100000 in
theorem k_X1_countChangesFrom (l : Launch) (D : va_G) (cyI cyZ : ClassId) (ha : Nat) (hn : Nat) (hc : Nat) (ja : Nat) (jn : Nat) (jc : Nat) (t0 : Tr) (t1 : Tr) : Met l yX1_countChangesFrom wsX1_countChangesFrom ({ frames := 4, cells := 0, slots := 0, locals := 91 } : Room) (pcP D cyI cyZ [.ref ha, .ref ja] (wU cyI ha hn hc t0 ja jn jc t1)) (qI (f_X1_countChangesFrom t0 t1)) 0 0 nA := by
  refine Met.ofW (cc := cX1_countChangesFrom) (maxL := 4) (ret := (some .int)) (by decide) rfl ?_
  intro p e s m args below meth c s₁ B hml hv
  obtain ⟨rfl, hP, hG⟩ := hv
  have hx := B.exec
  have hb := B.bytes
  have hr := B.returns
  have hts := atoms_spec (ws := wsX1_countChangesFrom) B.pre
  have hown : s.vm.findClass RX1 = some m.cls := findClass_of_methodNamed B.named
  have hlocks := B.notSynchronized
  have hS : va_S nA s.heap s.heap [] := va_S.rf
  have hl := lv_entry ([.ref ha, .ref ja]) (n := 4) (Nat.le_of_ble_eq_true rfl)
  rw [lg_entry_eq]
  generalize (lg_sl ([.ref ha, .ref ja]) ++ List.replicate (4 - (lg_sl ([.ref ha, .ref ja])).length) Slot.unset).toArray = ls at hl ⊢
  have hl : lv_has ls 4 [(0, .ref ha), (1, .ref ja)] := hl
  have hP : va_P D vwCl (wU cyI ha hn hc t0 ja jn jc t1) s.heap := hP
  refine lv_aload_n hx hb dX1_countChangesFrom_0 rfl (lv_at hl 0 rfl) ?_
  refine va_get (D := D) (ci := 1) (v := .int t0.1) (C := RX1) (T := TX1) (N := 4) hx hb hts uin_X1_countChangesFrom_X1 hown hG.1 hP 0 rfl rfl 0 (by decide) (hts (.fieldLink RX1 9 "TableSplice$Table" "columnSet" "I") (List.mem_of_getElem? (i := 1) rfl)) (fun _ h9 => h9) rfl dX1_countChangesFrom_1 ?_
  refine lv_aload_n hx hb dX1_countChangesFrom_4 rfl (lv_at hl 1 rfl) ?_
  refine va_get (D := D) (ci := 1) (v := .int t1.1) (C := RX1) (T := TX1) (N := 4) hx hb hts uin_X1_countChangesFrom_X1 hown hG.1 hP 3 rfl rfl 0 (by decide) (hts (.fieldLink RX1 9 "TableSplice$Table" "columnSet" "I") (List.mem_of_getElem? (i := 1) rfl)) (fun _ h9 => h9) rfl dX1_countChangesFrom_5 ?_
  refine lv_ixor hx hb dX1_countChangesFrom_8 ?_
  refine pr_i (va_runS (As := [.int (t0.1 ^^^ t1.1)]) (rest := []) ⟨hx, hb, hml, hown, hts⟩ (k_J6_bitCount_0f7a4 l D cyI cyZ (t0.1 ^^^ t1.1)) (va_cwS 1 hts gX1_countChangesFrom_J6_bitCount_0f7a4 rfl rfl rfl (by decide +kernel) ⟨Nat.le_of_ble_eq_true rfl, Nat.le_of_ble_eq_true rfl⟩) (prS hG (hP.sub (ws' := []) [] rfl)) rfl rfl hl.1 rfl (lv_room (Nat.le_of_ble_eq_true rfl)) dX1_countChangesFrom_9 ⟨Nat.zero_le _, Nat.zero_le _⟩) hS hP (fun H locs hP hS => ?_)
  refine lv_aload_n hx hb dX1_countChangesFrom_12 rfl (lv_at hl 0 rfl) ?_
  refine va_get (D := D) (ci := 1) (v := .int t0.2.1) (C := RX1) (T := TX1) (N := 4) hx hb hts uin_X1_countChangesFrom_X1 hown hG.1 hP 0 rfl rfl 1 (by decide) (hts (.fieldLink RX1 15 "TableSplice$Table" "rowSet" "I") (List.mem_of_getElem? (i := 2) rfl)) (fun _ h9 => h9) rfl dX1_countChangesFrom_13 ?_
  refine lv_aload_n hx hb dX1_countChangesFrom_16 rfl (lv_at hl 1 rfl) ?_
  refine va_get (D := D) (ci := 1) (v := .int t1.2.1) (C := RX1) (T := TX1) (N := 4) hx hb hts uin_X1_countChangesFrom_X1 hown hG.1 hP 3 rfl rfl 1 (by decide) (hts (.fieldLink RX1 15 "TableSplice$Table" "rowSet" "I") (List.mem_of_getElem? (i := 2) rfl)) (fun _ h9 => h9) rfl dX1_countChangesFrom_17 ?_
  refine lv_ixor hx hb dX1_countChangesFrom_20 ?_
  refine pr_i (va_runS (As := [.int (t0.2.1 ^^^ t1.2.1)]) (rest := [.int (f_J6_bitCount_0f7a4 (t0.1 ^^^ t1.1))]) ⟨hx, hb, hml, hown, hts⟩ (k_J6_bitCount_0f7a4 l D cyI cyZ (t0.2.1 ^^^ t1.2.1)) (va_cwS 1 hts gX1_countChangesFrom_J6_bitCount_0f7a4 rfl rfl rfl (by decide +kernel) ⟨Nat.le_of_ble_eq_true rfl, Nat.le_of_ble_eq_true rfl⟩) (prS hG (hP.sub (ws' := []) [] rfl)) rfl rfl hl.1 rfl (lv_room (Nat.le_of_ble_eq_true rfl)) dX1_countChangesFrom_21 ⟨Nat.zero_le _, Nat.zero_le _⟩) hS hP (fun H locs hP hS => ?_)
  refine lv_iadd hx hb dX1_countChangesFrom_24 ?_
  refine lv_istore_n (lv' := [(2, .int ((f_J6_bitCount_0f7a4 (t0.1 ^^^ t1.1)) + (f_J6_bitCount_0f7a4 (t0.2.1 ^^^ t1.2.1)))), (0, .ref ha), (1, .ref ja)]) hx hb dX1_countChangesFrom_25 rfl hl (by decide) rfl (fun ls hl => ?_)
  refine lv_iconst (v := 0) hx hb dX1_countChangesFrom_26 (by decide) ?_
  refine lv_istore_n (lv' := [(3, .int 0), (2, .int ((f_J6_bitCount_0f7a4 (t0.1 ^^^ t1.1)) + (f_J6_bitCount_0f7a4 (t0.2.1 ^^^ t1.2.1)))), (0, .ref ha), (1, .ref ja)]) hx hb dX1_countChangesFrom_27 rfl hl (by decide) rfl (fun ls hl => ?_)
  have lp_a : ∀ (n ia : Nat), ia + n = 8 → ∀ (va_2 : Int32), va_2 = it (fun (i9 : Nat) (z9 : Int32) => f_X1_countChangesFrom_sa t0 t1 i9 z9) ((f_J6_bitCount_0f7a4 (t0.1 ^^^ t1.1)) + (f_J6_bitCount_0f7a4 (t0.2.1 ^^^ t1.2.1))) ia → ∀ (H : Heap) (locs : List Loc), va_P D vwCl (wU cyI ha hn hc t0 ja jn jc t1) H → va_S nA s.heap H locs → ∀ (ls : Array Slot), lv_has ls 4 [(3, .int (nI ia)), (2, .int va_2), (0, .ref ha), (1, .ref ja)] → W p l e (headSpec wsX1_countChangesFrom ({ frames := 4, cells := 0, slots := 0, locals := 91 } : Room)).room s m ([.ref ha, .ref ja] : List Value).toArray below meth c H locs 0 0 (MQ below (qI (f_X1_countChangesFrom t0 t1)) ([.ref ha, .ref ja] : List Value).toArray s 0 0 nA) (F0 m 28 ls []) := by
    intro n
    induction n with
    | zero =>
      intro ia hi_a va_2 hs_a H locs hP hS ls hl
      obtain rfl : 8 = ia := by omega
      obtain rfl : va_2 = it (fun (i9 : Nat) (z9 : Int32) => f_X1_countChangesFrom_sa t0 t1 i9 z9) ((f_J6_bitCount_0f7a4 (t0.1 ^^^ t1.1)) + (f_J6_bitCount_0f7a4 (t0.2.1 ^^^ t1.2.1))) 8 := hs_a
      refine lv_iload_n hx hb dX1_countChangesFrom_28 rfl (lv_at hl 0 rfl) ?_
      refine lv_bipush (v := 8) hx hb dX1_countChangesFrom_29 (by decide) ?_
      refine lv_icmp_ge (tgt := 52) hx hb dX1_countChangesFrom_31 (by decide) (fun c_31 => ?_) (fun c_31 => ?_)
      · refine lv_iconst (v := 0) hx hb dX1_countChangesFrom_52 (by decide) ?_
        refine lv_istore_n (lv' := [(3, .int 0), (2, .int (it (fun (i9 : Nat) (z9 : Int32) => f_X1_countChangesFrom_sa t0 t1 i9 z9) ((f_J6_bitCount_0f7a4 (t0.1 ^^^ t1.1)) + (f_J6_bitCount_0f7a4 (t0.2.1 ^^^ t1.2.1))) 8)), (0, .ref ha), (1, .ref ja)]) hx hb dX1_countChangesFrom_53 rfl hl (by decide) rfl (fun ls hl => ?_)
        have lp_b : ∀ (n ib : Nat), ib + n = 24 → ∀ (vb_2 : Int32), vb_2 = it (fun (i9 : Nat) (z9 : Int32) => f_X1_countChangesFrom_sb t0 t1 i9 z9) (it (fun (i9 : Nat) (z9 : Int32) => f_X1_countChangesFrom_sa t0 t1 i9 z9) ((f_J6_bitCount_0f7a4 (t0.1 ^^^ t1.1)) + (f_J6_bitCount_0f7a4 (t0.2.1 ^^^ t1.2.1))) 8) ib → ∀ (H : Heap) (locs : List Loc), va_P D vwCl (wU cyI ha hn hc t0 ja jn jc t1) H → va_S nA s.heap H locs → ∀ (ls : Array Slot), lv_has ls 4 [(3, .int (nI ib)), (2, .int vb_2), (0, .ref ha), (1, .ref ja)] → W p l e (headSpec wsX1_countChangesFrom ({ frames := 4, cells := 0, slots := 0, locals := 91 } : Room)).room s m ([.ref ha, .ref ja] : List Value).toArray below meth c H locs 0 0 (MQ below (qI (f_X1_countChangesFrom t0 t1)) ([.ref ha, .ref ja] : List Value).toArray s 0 0 nA) (F0 m 54 ls []) := by
          intro n
          induction n with
          | zero =>
            intro ib hi_b vb_2 hs_b H locs hP hS ls hl
            obtain rfl : 24 = ib := by omega
            obtain rfl : vb_2 = it (fun (i9 : Nat) (z9 : Int32) => f_X1_countChangesFrom_sb t0 t1 i9 z9) (it (fun (i9 : Nat) (z9 : Int32) => f_X1_countChangesFrom_sa t0 t1 i9 z9) ((f_J6_bitCount_0f7a4 (t0.1 ^^^ t1.1)) + (f_J6_bitCount_0f7a4 (t0.2.1 ^^^ t1.2.1))) 8) 24 := hs_b
            refine lv_iload_n hx hb dX1_countChangesFrom_54 rfl (lv_at hl 0 rfl) ?_
            refine lv_bipush (v := 24) hx hb dX1_countChangesFrom_55 (by decide) ?_
            refine lv_icmp_ge (tgt := 75) hx hb dX1_countChangesFrom_57 (by decide) (fun c_57 => ?_) (fun c_57 => ?_)
            · refine lv_iload_n hx hb dX1_countChangesFrom_75 rfl (lv_at hl 1 rfl) ?_
              have ef : f_X1_countChangesFrom t0 t1 = it (fun (i9 : Nat) (z9 : Int32) => f_X1_countChangesFrom_sb t0 t1 i9 z9) (it (fun (i9 : Nat) (z9 : Int32) => f_X1_countChangesFrom_sa t0 t1 i9 z9) ((f_J6_bitCount_0f7a4 (t0.1 ^^^ t1.1)) + (f_J6_bitCount_0f7a4 (t0.2.1 ^^^ t1.2.1))) 8) 24 := by rw [f_X1_countChangesFrom]
              exact W.iret (v := it (fun (i9 : Nat) (z9 : Int32) => f_X1_countChangesFrom_sb t0 t1 i9 z9) (it (fun (i9 : Nat) (z9 : Int32) => f_X1_countChangesFrom_sa t0 t1 i9 z9) ((f_J6_bitCount_0f7a4 (t0.1 ^^^ t1.1)) + (f_J6_bitCount_0f7a4 (t0.2.1 ^^^ t1.2.1))) 8) 24) hx hb hr (fun t ht hW => ⟨⟨it (fun (i9 : Nat) (z9 : Int32) => f_X1_countChangesFrom_sb t0 t1 i9 z9) (it (fun (i9 : Nat) (z9 : Int32) => f_X1_countChangesFrom_sa t0 t1 i9 z9) ((f_J6_bitCount_0f7a4 (t0.1 ^^^ t1.1)) + (f_J6_bitCount_0f7a4 (t0.2.1 ^^^ t1.2.1))) 8) 24, (), rfl, ef.symm, trivial⟩, hS.F ht⟩) hS.2.2 dX1_countChangesFrom_76
            · exact absurd (by decide) c_57
          | succ n ih_b =>
            intro ib hi_b vb_2 hs_b H locs hP hS ls hl
            have hj_b : ib < 24 := by omega
            refine lv_iload_n hx hb dX1_countChangesFrom_54 rfl (lv_at hl 0 rfl) ?_
            refine lv_bipush (v := 24) hx hb dX1_countChangesFrom_55 (by decide) ?_
            refine lv_icmp_ge (tgt := 75) hx hb dX1_countChangesFrom_57 (by decide) (fun c_57 => ?_) (fun c_57 => ?_)
            · exact absurd c_57 (nI_ge hj_b (by decide))
            · refine lv_iload_n hx hb dX1_countChangesFrom_60 rfl (lv_at hl 1 rfl) ?_
              refine lv_aload_n hx hb dX1_countChangesFrom_61 rfl (lv_at hl 2 rfl) ?_
              refine lv_aload_n hx hb dX1_countChangesFrom_62 rfl (lv_at hl 3 rfl) ?_
              refine lv_iload_n hx hb dX1_countChangesFrom_63 rfl (lv_at hl 0 rfl) ?_
              refine pr_i (va_runV (As := [.ref ja, .int (nI ib)]) (rest := [.int vb_2]) ⟨hx, hb, hml, hown, hts⟩ (k_X1_countCellsChanged l D cyI cyZ ha hn hc ja jn jc t0 t1 (nI ib)) (cwV 2 hts gX1_countChangesFrom_X1_countCellsChanged rfl rfl rfl (by decide +kernel) ⟨Nat.le_of_ble_eq_true rfl, Nat.le_of_ble_eq_true rfl⟩) (prV hG hP (ci := 1) rfl rfl rfl) rfl rfl hl.1 rfl (lv_room (Nat.le_of_ble_eq_true rfl)) dX1_countChangesFrom_64 ⟨Nat.zero_le _, Nat.zero_le _⟩) hS hP (fun H locs hP hS => ?_)
              refine lv_iadd hx hb dX1_countChangesFrom_67 ?_
              refine lv_istore_n (lv' := [(2, .int (vb_2 + (f_X1_countCellsChanged t0 t1 (nI ib)))), (3, .int (nI ib)), (0, .ref ha), (1, .ref ja)]) hx hb dX1_countChangesFrom_68 rfl hl (by decide) rfl (fun ls hl => ?_)
              refine lv_iinc (v := nI (ib + 1)) (lv' := [(3, .int (nI (ib + 1))), (2, .int (vb_2 + (f_X1_countCellsChanged t0 t1 (nI ib)))), (0, .ref ha), (1, .ref ja)]) hx hb dX1_countChangesFrom_69 hl (k := 1) rfl (nI_1 _) (by decide) rfl (fun ls hl => ?_)
              refine lv_goto (tgt := 54) hx hb dX1_countChangesFrom_72 (by decide) ?_
              exact ih_b (ib + 1) (by omega) (vb_2 + (f_X1_countCellsChanged t0 t1 (nI ib))) (it_s hs_b (by show f_X1_countChangesFrom_sb t0 t1 ib vb_2 = _; rw [f_X1_countChangesFrom_sb])) _ _ hP hS ls (lv_sub hl [0, 1, 2, 3] rfl)
        exact lp_b 24 0 (by omega) (it (fun (i9 : Nat) (z9 : Int32) => f_X1_countChangesFrom_sa t0 t1 i9 z9) ((f_J6_bitCount_0f7a4 (t0.1 ^^^ t1.1)) + (f_J6_bitCount_0f7a4 (t0.2.1 ^^^ t1.2.1))) 8) rfl _ _ hP hS ls (lv_sub hl [0, 1, 2, 3] rfl)
      · exact absurd (by decide) c_31
    | succ n ih_a =>
      intro ia hi_a va_2 hs_a H locs hP hS ls hl
      have hj_a : ia < 8 := by omega
      refine lv_iload_n hx hb dX1_countChangesFrom_28 rfl (lv_at hl 0 rfl) ?_
      refine lv_bipush (v := 8) hx hb dX1_countChangesFrom_29 (by decide) ?_
      refine lv_icmp_ge (tgt := 52) hx hb dX1_countChangesFrom_31 (by decide) (fun c_31 => ?_) (fun c_31 => ?_)
      · exact absurd c_31 (nI_ge hj_a (by decide))
      · refine lv_aload_n hx hb dX1_countChangesFrom_34 rfl (lv_at hl 2 rfl) ?_
        refine lv_aload_n hx hb dX1_countChangesFrom_35 rfl (lv_at hl 3 rfl) ?_
        refine lv_iload_n hx hb dX1_countChangesFrom_36 rfl (lv_at hl 0 rfl) ?_
        refine pr_i (va_runV (As := [.ref ja, .int (nI ia)]) (rest := []) ⟨hx, hb, hml, hown, hts⟩ (k_X1_renamedColumnOf l D cyI cyZ ha hn hc ja jn jc t0 t1 (nI ia)) (cwV 2 hts gX1_countChangesFrom_X1_renamedColumnOf rfl rfl rfl (by decide +kernel) ⟨Nat.le_of_ble_eq_true rfl, Nat.le_of_ble_eq_true rfl⟩) (prV hG hP (ci := 1) rfl rfl rfl) rfl rfl hl.1 rfl (lv_room (Nat.le_of_ble_eq_true rfl)) dX1_countChangesFrom_37 ⟨Nat.zero_le _, Nat.zero_le _⟩) hS hP (fun H locs hP hS => ?_)
        refine lv_if_eq (tgt := 46) hx hb dX1_countChangesFrom_40 (by decide) (fun c_40 => ?_) (fun c_40 => ?_)
        · refine lv_iinc (v := nI (ia + 1)) (lv' := [(3, .int (nI (ia + 1))), (2, .int va_2), (0, .ref ha), (1, .ref ja)]) hx hb dX1_countChangesFrom_46 hl (k := 0) rfl (nI_1 _) (by decide) rfl (fun ls hl => ?_)
          refine lv_goto (tgt := 28) hx hb dX1_countChangesFrom_49 (by decide) ?_
          exact ih_a (ia + 1) (by omega) va_2 (it_s hs_a (by show f_X1_countChangesFrom_sa t0 t1 ia va_2 = _; rw [f_X1_countChangesFrom_sa, if_pos c_40])) _ _ hP hS ls (lv_sub hl [0, 1, 2, 3] rfl)
        · refine lv_iinc (v := va_2 + 1) (lv' := [(2, .int (va_2 + 1)), (3, .int (nI ia)), (0, .ref ha), (1, .ref ja)]) hx hb dX1_countChangesFrom_43 hl (k := 1) rfl rfl (by decide) rfl (fun ls hl => ?_)
          refine lv_iinc (v := nI (ia + 1)) (lv' := [(3, .int (nI (ia + 1))), (2, .int (va_2 + 1)), (0, .ref ha), (1, .ref ja)]) hx hb dX1_countChangesFrom_46 hl (k := 1) rfl (nI_1 _) (by decide) rfl (fun ls hl => ?_)
          refine lv_goto (tgt := 28) hx hb dX1_countChangesFrom_49 (by decide) ?_
          exact ih_a (ia + 1) (by omega) (va_2 + 1) (it_s hs_a (by show f_X1_countChangesFrom_sa t0 t1 ia va_2 = _; rw [f_X1_countChangesFrom_sa, if_neg c_40])) _ _ hP hS ls (lv_sub hl [0, 1, 2, 3] rfl)
  exact lp_a 8 0 (by omega) ((f_J6_bitCount_0f7a4 (t0.1 ^^^ t1.1)) + (f_J6_bitCount_0f7a4 (t0.2.1 ^^^ t1.2.1))) rfl _ _ hP hS ls (lv_sub hl [0, 1, 2, 3] rfl)
