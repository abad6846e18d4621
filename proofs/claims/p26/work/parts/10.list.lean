def f_X0_holds (z0 : Lr) (p1 : Int32) : Int32 := if p1 < 0 then 0 else (if z0.1 ≤ p1 then 0 else (if 424 ≤ p1 then 0 else 1))
theorem uin_X0_holds_X0 : ∀ w ∈ wsX00, w ∈ wsX0_holds := fun _ h => List.mem_cons_of_mem _ (List.mem_append_right _ h)
set_option maxHeartbeats 4000000 in
set_option maxRecDepth 100000 in
theorem k_X0_holds (l : Launch) (D : va_G) (cyI cyZ : ClassId) (ha : Nat) (hk : Nat) (hy : Nat) (hq : Nat) (hs : Nat) (z0 : Lr) (p1 : Int32) : Met l yX0_holds wsX0_holds ({ frames := 0, cells := 0, slots := 0, locals := 0 } : Room) (pcP D cyI cyZ [.ref ha, .int p1] (wL cyI cyZ ha hk hy hq hs z0)) (qI (f_X0_holds z0 p1)) 0 0 nA := by
  refine Met.ofW (cc := cX0_holds) (maxL := 2) (ret := (some .boolean)) (by decide) rfl ?_
  intro p e s m args below meth c s₁ B hml hv
  obtain ⟨rfl, hP, hG⟩ := hv
  have hx := B.exec
  have hb := B.bytes
  have hr := B.returns
  have hts := atoms_spec (ws := wsX0_holds) B.pre
  have hown : s.vm.findClass RX0 = some m.cls := findClass_of_methodNamed B.named
  have hlocks := B.notSynchronized
  have hS : va_S nA s.heap s.heap [] := va_S.rf
  have hl := lv_entry ([.ref ha, .int p1]) (n := 2) (Nat.le_of_ble_eq_true rfl)
  rw [lg_entry_eq]
  generalize (lg_sl ([.ref ha, .int p1]) ++ List.replicate (2 - (lg_sl ([.ref ha, .int p1])).length) Slot.unset).toArray = ls at hl ⊢
  have hl : lv_has ls 2 [(0, .ref ha), (1, .int p1)] := hl
  have hP : va_P D vwCl (wL cyI cyZ ha hk hy hq hs z0) s.heap := hP
  refine lv_iload_n hx hb dX0_holds_0 rfl (lv_at hl 1 rfl) ?_
  refine lv_if_lt (tgt := 23) hx hb dX0_holds_1 (by decide) (fun c_1 => ?_) (fun c_1 => ?_)
  · refine lv_iconst (v := 0) hx hb dX0_holds_23 (by decide) ?_
    have ef : f_X0_holds z0 p1 = 0 := by rw [f_X0_holds, if_pos c_1]
    exact W.zret (v := 0) (ty := .boolean) hx hb hr rfl (fun t ht hW => ⟨⟨0, (), rfl, ef.symm, trivial⟩, hS.F ht⟩) hS.2.2 dX0_holds_24
  · refine lv_iload_n hx hb dX0_holds_4 rfl (lv_at hl 1 rfl) ?_
    refine lv_aload_n hx hb dX0_holds_5 rfl (lv_at hl 0 rfl) ?_
    refine va_get (D := D) (ci := 0) (v := .int z0.1) (C := RX0) (T := TX0) (N := 6) hx hb hts uin_X0_holds_X0 hown hG.1 hP 0 rfl rfl 0 (by decide) (hts (.fieldLink RX0 9 "TableSplice$ConflictList" "size" "I") (List.mem_of_getElem? (i := 1) rfl)) (fun _ h9 => h9) rfl dX0_holds_6 ?_
    refine lv_icmp_ge (tgt := 23) hx hb dX0_holds_9 (by decide) (fun c_9 => ?_) (fun c_9 => ?_)
    · refine lv_iconst (v := 0) hx hb dX0_holds_23 (by decide) ?_
      have ef : f_X0_holds z0 p1 = 0 := by rw [f_X0_holds, if_neg c_1, if_pos c_9]
      exact W.zret (v := 0) (ty := .boolean) hx hb hr rfl (fun t ht hW => ⟨⟨0, (), rfl, ef.symm, trivial⟩, hS.F ht⟩) hS.2.2 dX0_holds_24
    · refine lv_iload_n hx hb dX0_holds_12 rfl (lv_at hl 1 rfl) ?_
      refine lv_sipush (v := 424) hx hb dX0_holds_13 (by decide) ?_
      refine lv_icmp_ge (tgt := 23) hx hb dX0_holds_16 (by decide) (fun c_16 => ?_) (fun c_16 => ?_)
      · refine lv_iconst (v := 0) hx hb dX0_holds_23 (by decide) ?_
        have ef : f_X0_holds z0 p1 = 0 := by rw [f_X0_holds, if_neg c_1, if_neg c_9, if_pos c_16]
        exact W.zret (v := 0) (ty := .boolean) hx hb hr rfl (fun t ht hW => ⟨⟨0, (), rfl, ef.symm, trivial⟩, hS.F ht⟩) hS.2.2 dX0_holds_24
      · refine lv_iconst (v := 1) hx hb dX0_holds_19 (by decide) ?_
        refine lv_goto (tgt := 24) hx hb dX0_holds_20 (by decide) ?_
        have ef : f_X0_holds z0 p1 = 1 := by rw [f_X0_holds, if_neg c_1, if_neg c_9, if_neg c_16]
        exact W.zret (v := 1) (ty := .boolean) hx hb hr rfl (fun t ht hW => ⟨⟨1, (), rfl, ef.symm, trivial⟩, hS.F ht⟩) hS.2.2 dX0_holds_24
theorem in_hold {z0 : Lr} {x : Int32} (h : ¬ f_X0_holds z0 x = 0) : vp_in x 424 := by
  rw [f_X0_holds] at h
  by_cases h1 : x < 0
  · rw [if_pos h1] at h; exact absurd rfl h
  · by_cases h2 : z0.1 ≤ x
    · rw [if_neg h1, if_pos h2] at h; exact absurd rfl h
    · by_cases h3 : 424 ≤ x
      · rw [if_neg h1, if_neg h2, if_pos h3] at h; exact absurd rfl h
      · exact vi_of (by decide) h1 h3
def f_X0_kindAt (z0 : Lr) (p1 : Int32) : Int32 := if (f_X0_holds z0 p1) = 0 then 0 else z0.2.2.1 (p1).toNatClampNeg
theorem uin_X0_kindAt_X0 : ∀ w ∈ wsX00, w ∈ wsX0_kindAt := fun _ h => List.mem_cons_of_mem _ (List.mem_append_right _ h)
set_option maxHeartbeats 4000000 in
set_option maxRecDepth 100000 in
theorem k_X0_kindAt (l : Launch) (D : va_G) (cyI cyZ : ClassId) (ha : Nat) (hk : Nat) (hy : Nat) (hq : Nat) (hs : Nat) (z0 : Lr) (p1 : Int32) : Met l yX0_kindAt wsX0_kindAt ({ frames := 1, cells := 0, slots := 0, locals := 21 } : Room) (pcP D cyI cyZ [.ref ha, .int p1] (wL cyI cyZ ha hk hy hq hs z0)) (qI (f_X0_kindAt z0 p1)) 0 0 nA := by
  refine Met.ofW (cc := cX0_kindAt) (maxL := 2) (ret := (some .int)) (by decide) rfl ?_
  intro p e s m args below meth c s₁ B hml hv
  obtain ⟨rfl, hP, hG⟩ := hv
  have hx := B.exec
  have hb := B.bytes
  have hr := B.returns
  have hts := atoms_spec (ws := wsX0_kindAt) B.pre
  have hown : s.vm.findClass RX0 = some m.cls := findClass_of_methodNamed B.named
  have hlocks := B.notSynchronized
  have hS : va_S nA s.heap s.heap [] := va_S.rf
  have hl := lv_entry ([.ref ha, .int p1]) (n := 2) (Nat.le_of_ble_eq_true rfl)
  rw [lg_entry_eq]
  generalize (lg_sl ([.ref ha, .int p1]) ++ List.replicate (2 - (lg_sl ([.ref ha, .int p1])).length) Slot.unset).toArray = ls at hl ⊢
  have hl : lv_has ls 2 [(0, .ref ha), (1, .int p1)] := hl
  have hP : va_P D vwCl (wL cyI cyZ ha hk hy hq hs z0) s.heap := hP
  refine lv_aload_n hx hb dX0_kindAt_0 rfl (lv_at hl 0 rfl) ?_
  refine lv_iload_n hx hb dX0_kindAt_1 rfl (lv_at hl 1 rfl) ?_
  refine pr_i (va_runV (As := [.int p1]) (rest := []) ⟨hx, hb, hml, hown, hts⟩ (k_X0_holds l D cyI cyZ ha hk hy hq hs z0 p1) (cwV 1 hts gX0_kindAt_X0_holds rfl rfl rfl (by decide +kernel) ⟨Nat.le_of_ble_eq_true rfl, Nat.le_of_ble_eq_true rfl⟩) (prV hG hP (ci := 0) rfl rfl rfl) rfl rfl hl.1 rfl (lv_room (Nat.le_of_ble_eq_true rfl)) dX0_kindAt_2 ⟨Nat.zero_le _, Nat.zero_le _⟩) hS hP (fun H locs hP hS => ?_)
  refine lv_if_eq (tgt := 17) hx hb dX0_kindAt_5 (by decide) (fun c_5 => ?_) (fun c_5 => ?_)
  · refine lv_iconst (v := 0) hx hb dX0_kindAt_17 (by decide) ?_
    have ef : f_X0_kindAt z0 p1 = 0 := by rw [f_X0_kindAt, if_pos c_5]
    exact W.iret (v := 0) hx hb hr (fun t ht hW => ⟨⟨0, (), rfl, ef.symm, trivial⟩, hS.F ht⟩) hS.2.2 dX0_kindAt_18
  · refine lv_aload_n hx hb dX0_kindAt_8 rfl (lv_at hl 0 rfl) ?_
    refine va_get (D := D) (ci := 0) (v := .ref hk) (C := RX0) (T := TX0) (N := 6) hx hb hts uin_X0_kindAt_X0 hown hG.1 hP 0 rfl rfl 2 (by decide) (hts (.fieldLink RX0 18 "TableSplice$ConflictList" "kinds" "[I") (List.mem_of_getElem? (i := 1) rfl)) (fun _ h9 => h9) rfl dX0_kindAt_9 ?_
    refine lv_iload_n hx hb dX0_kindAt_12 rfl (lv_at hl 1 rfl) ?_
    refine va_iald hx hb hG.1 hP 1 0 rfl rfl (in_hold c_5) dX0_kindAt_13 ?_
    refine lv_goto (tgt := 18) hx hb dX0_kindAt_14 (by decide) ?_
    have ef : f_X0_kindAt z0 p1 = z0.2.2.1 (p1).toNatClampNeg := by rw [f_X0_kindAt, if_neg c_5]
    exact W.iret (v := z0.2.2.1 (p1).toNatClampNeg) hx hb hr (fun t ht hW => ⟨⟨z0.2.2.1 (p1).toNatClampNeg, (), rfl, ef.symm, trivial⟩, hS.F ht⟩) hS.2.2 dX0_kindAt_18
def f_X0_keyAt (z0 : Lr) (p1 : Int32) : Int32 := if (f_X0_holds z0 p1) = 0 then (-1) else z0.2.2.2.1 (p1).toNatClampNeg
theorem uin_X0_keyAt_X0 : ∀ w ∈ wsX00, w ∈ wsX0_keyAt := fun _ h => List.mem_cons_of_mem _ (List.mem_append_right _ h)
set_option maxHeartbeats 4000000 in
set_option maxRecDepth 100000 in
theorem k_X0_keyAt (l : Launch) (D : va_G) (cyI cyZ : ClassId) (ha : Nat) (hk : Nat) (hy : Nat) (hq : Nat) (hs : Nat) (z0 : Lr) (p1 : Int32) : Met l yX0_keyAt wsX0_keyAt ({ frames := 1, cells := 0, slots := 0, locals := 21 } : Room) (pcP D cyI cyZ [.ref ha, .int p1] (wL cyI cyZ ha hk hy hq hs z0)) (qI (f_X0_keyAt z0 p1)) 0 0 nA := by
  refine Met.ofW (cc := cX0_keyAt) (maxL := 2) (ret := (some .int)) (by decide) rfl ?_
  intro p e s m args below meth c s₁ B hml hv
  obtain ⟨rfl, hP, hG⟩ := hv
  have hx := B.exec
  have hb := B.bytes
  have hr := B.returns
  have hts := atoms_spec (ws := wsX0_keyAt) B.pre
  have hown : s.vm.findClass RX0 = some m.cls := findClass_of_methodNamed B.named
  have hlocks := B.notSynchronized
  have hS : va_S nA s.heap s.heap [] := va_S.rf
  have hl := lv_entry ([.ref ha, .int p1]) (n := 2) (Nat.le_of_ble_eq_true rfl)
  rw [lg_entry_eq]
  generalize (lg_sl ([.ref ha, .int p1]) ++ List.replicate (2 - (lg_sl ([.ref ha, .int p1])).length) Slot.unset).toArray = ls at hl ⊢
  have hl : lv_has ls 2 [(0, .ref ha), (1, .int p1)] := hl
  have hP : va_P D vwCl (wL cyI cyZ ha hk hy hq hs z0) s.heap := hP
  refine lv_aload_n hx hb dX0_keyAt_0 rfl (lv_at hl 0 rfl) ?_
  refine lv_iload_n hx hb dX0_keyAt_1 rfl (lv_at hl 1 rfl) ?_
  refine pr_i (va_runV (As := [.int p1]) (rest := []) ⟨hx, hb, hml, hown, hts⟩ (k_X0_holds l D cyI cyZ ha hk hy hq hs z0 p1) (cwV 1 hts gX0_keyAt_X0_holds rfl rfl rfl (by decide +kernel) ⟨Nat.le_of_ble_eq_true rfl, Nat.le_of_ble_eq_true rfl⟩) (prV hG hP (ci := 0) rfl rfl rfl) rfl rfl hl.1 rfl (lv_room (Nat.le_of_ble_eq_true rfl)) dX0_keyAt_2 ⟨Nat.zero_le _, Nat.zero_le _⟩) hS hP (fun H locs hP hS => ?_)
  refine lv_if_eq (tgt := 17) hx hb dX0_keyAt_5 (by decide) (fun c_5 => ?_) (fun c_5 => ?_)
  · refine lv_iconst (v := (-1)) hx hb dX0_keyAt_17 (by decide) ?_
    have ef : f_X0_keyAt z0 p1 = (-1) := by rw [f_X0_keyAt, if_pos c_5]
    exact W.iret (v := (-1)) hx hb hr (fun t ht hW => ⟨⟨(-1), (), rfl, ef.symm, trivial⟩, hS.F ht⟩) hS.2.2 dX0_keyAt_18
  · refine lv_aload_n hx hb dX0_keyAt_8 rfl (lv_at hl 0 rfl) ?_
    refine va_get (D := D) (ci := 0) (v := .ref hy) (C := RX0) (T := TX0) (N := 6) hx hb hts uin_X0_keyAt_X0 hown hG.1 hP 0 rfl rfl 3 (by decide) (hts (.fieldLink RX0 22 "TableSplice$ConflictList" "keys" "[I") (List.mem_of_getElem? (i := 1) rfl)) (fun _ h9 => h9) rfl dX0_keyAt_9 ?_
    refine lv_iload_n hx hb dX0_keyAt_12 rfl (lv_at hl 1 rfl) ?_
    refine va_iald hx hb hG.1 hP 2 0 rfl rfl (in_hold c_5) dX0_keyAt_13 ?_
    refine lv_goto (tgt := 18) hx hb dX0_keyAt_14 (by decide) ?_
    have ef : f_X0_keyAt z0 p1 = z0.2.2.2.1 (p1).toNatClampNeg := by rw [f_X0_keyAt, if_neg c_5]
    exact W.iret (v := z0.2.2.2.1 (p1).toNatClampNeg) hx hb hr (fun t ht hW => ⟨⟨z0.2.2.2.1 (p1).toNatClampNeg, (), rfl, ef.symm, trivial⟩, hS.F ht⟩) hS.2.2 dX0_keyAt_18
def f_X0_columnAt (z0 : Lr) (p1 : Int32) : Int32 := if (f_X0_holds z0 p1) = 0 then (-1) else z0.2.2.2.2.1 (p1).toNatClampNeg
theorem uin_X0_columnAt_X0 : ∀ w ∈ wsX00, w ∈ wsX0_columnAt := fun _ h => List.mem_cons_of_mem _ (List.mem_append_right _ h)
set_option maxHeartbeats 4000000 in
set_option maxRecDepth 100000 in
theorem k_X0_columnAt (l : Launch) (D : va_G) (cyI cyZ : ClassId) (ha : Nat) (hk : Nat) (hy : Nat) (hq : Nat) (hs : Nat) (z0 : Lr) (p1 : Int32) : Met l yX0_columnAt wsX0_columnAt ({ frames := 1, cells := 0, slots := 0, locals := 21 } : Room) (pcP D cyI cyZ [.ref ha, .int p1] (wL cyI cyZ ha hk hy hq hs z0)) (qI (f_X0_columnAt z0 p1)) 0 0 nA := by
  refine Met.ofW (cc := cX0_columnAt) (maxL := 2) (ret := (some .int)) (by decide) rfl ?_
  intro p e s m args below meth c s₁ B hml hv
  obtain ⟨rfl, hP, hG⟩ := hv
  have hx := B.exec
  have hb := B.bytes
  have hr := B.returns
  have hts := atoms_spec (ws := wsX0_columnAt) B.pre
  have hown : s.vm.findClass RX0 = some m.cls := findClass_of_methodNamed B.named
  have hlocks := B.notSynchronized
  have hS : va_S nA s.heap s.heap [] := va_S.rf
  have hl := lv_entry ([.ref ha, .int p1]) (n := 2) (Nat.le_of_ble_eq_true rfl)
  rw [lg_entry_eq]
  generalize (lg_sl ([.ref ha, .int p1]) ++ List.replicate (2 - (lg_sl ([.ref ha, .int p1])).length) Slot.unset).toArray = ls at hl ⊢
  have hl : lv_has ls 2 [(0, .ref ha), (1, .int p1)] := hl
  have hP : va_P D vwCl (wL cyI cyZ ha hk hy hq hs z0) s.heap := hP
  refine lv_aload_n hx hb dX0_columnAt_0 rfl (lv_at hl 0 rfl) ?_
  refine lv_iload_n hx hb dX0_columnAt_1 rfl (lv_at hl 1 rfl) ?_
  refine pr_i (va_runV (As := [.int p1]) (rest := []) ⟨hx, hb, hml, hown, hts⟩ (k_X0_holds l D cyI cyZ ha hk hy hq hs z0 p1) (cwV 1 hts gX0_columnAt_X0_holds rfl rfl rfl (by decide +kernel) ⟨Nat.le_of_ble_eq_true rfl, Nat.le_of_ble_eq_true rfl⟩) (prV hG hP (ci := 0) rfl rfl rfl) rfl rfl hl.1 rfl (lv_room (Nat.le_of_ble_eq_true rfl)) dX0_columnAt_2 ⟨Nat.zero_le _, Nat.zero_le _⟩) hS hP (fun H locs hP hS => ?_)
  refine lv_if_eq (tgt := 17) hx hb dX0_columnAt_5 (by decide) (fun c_5 => ?_) (fun c_5 => ?_)
  · refine lv_iconst (v := (-1)) hx hb dX0_columnAt_17 (by decide) ?_
    have ef : f_X0_columnAt z0 p1 = (-1) := by rw [f_X0_columnAt, if_pos c_5]
    exact W.iret (v := (-1)) hx hb hr (fun t ht hW => ⟨⟨(-1), (), rfl, ef.symm, trivial⟩, hS.F ht⟩) hS.2.2 dX0_columnAt_18
  · refine lv_aload_n hx hb dX0_columnAt_8 rfl (lv_at hl 0 rfl) ?_
    refine va_get (D := D) (ci := 0) (v := .ref hq) (C := RX0) (T := TX0) (N := 6) hx hb hts uin_X0_columnAt_X0 hown hG.1 hP 0 rfl rfl 4 (by decide) (hts (.fieldLink RX0 25 "TableSplice$ConflictList" "columnNumbers" "[I") (List.mem_of_getElem? (i := 1) rfl)) (fun _ h9 => h9) rfl dX0_columnAt_9 ?_
    refine lv_iload_n hx hb dX0_columnAt_12 rfl (lv_at hl 1 rfl) ?_
    refine va_iald hx hb hG.1 hP 3 0 rfl rfl (in_hold c_5) dX0_columnAt_13 ?_
    refine lv_goto (tgt := 18) hx hb dX0_columnAt_14 (by decide) ?_
    have ef : f_X0_columnAt z0 p1 = z0.2.2.2.2.1 (p1).toNatClampNeg := by rw [f_X0_columnAt, if_neg c_5]
    exact W.iret (v := z0.2.2.2.2.1 (p1).toNatClampNeg) hx hb hr (fun t ht hW => ⟨⟨z0.2.2.2.2.1 (p1).toNatClampNeg, (), rfl, ef.symm, trivial⟩, hS.F ht⟩) hS.2.2 dX0_columnAt_18
def f_X0_isSettled (z0 : Lr) (p1 : Int32) : Int32 := if (f_X0_holds z0 p1) = 0 then 0 else (if (z0.2.2.2.2.2 (p1).toNatClampNeg) = 0 then 0 else 1)
theorem uin_X0_isSettled_X0 : ∀ w ∈ wsX00, w ∈ wsX0_isSettled := fun _ h => List.mem_cons_of_mem _ (List.mem_append_right _ h)
set_option maxHeartbeats 4000000 in
set_option maxRecDepth 100000 in
theorem k_X0_isSettled (l : Launch) (D : va_G) (cyI cyZ : ClassId) (ha : Nat) (hk : Nat) (hy : Nat) (hq : Nat) (hs : Nat) (z0 : Lr) (p1 : Int32) : Met l yX0_isSettled wsX0_isSettled ({ frames := 1, cells := 0, slots := 0, locals := 21 } : Room) (pcP D cyI cyZ [.ref ha, .int p1] (wL cyI cyZ ha hk hy hq hs z0)) (qI (f_X0_isSettled z0 p1)) 0 0 nA := by
  refine Met.ofW (cc := cX0_isSettled) (maxL := 2) (ret := (some .boolean)) (by decide) rfl ?_
  intro p e s m args below meth c s₁ B hml hv
  obtain ⟨rfl, hP, hG⟩ := hv
  have hx := B.exec
  have hb := B.bytes
  have hr := B.returns
  have hts := atoms_spec (ws := wsX0_isSettled) B.pre
  have hown : s.vm.findClass RX0 = some m.cls := findClass_of_methodNamed B.named
  have hlocks := B.notSynchronized
  have hS : va_S nA s.heap s.heap [] := va_S.rf
  have hl := lv_entry ([.ref ha, .int p1]) (n := 2) (Nat.le_of_ble_eq_true rfl)
  rw [lg_entry_eq]
  generalize (lg_sl ([.ref ha, .int p1]) ++ List.replicate (2 - (lg_sl ([.ref ha, .int p1])).length) Slot.unset).toArray = ls at hl ⊢
  have hl : lv_has ls 2 [(0, .ref ha), (1, .int p1)] := hl
  have hP : va_P D vwCl (wL cyI cyZ ha hk hy hq hs z0) s.heap := hP
  refine lv_aload_n hx hb dX0_isSettled_0 rfl (lv_at hl 0 rfl) ?_
  refine lv_iload_n hx hb dX0_isSettled_1 rfl (lv_at hl 1 rfl) ?_
  refine pr_i (va_runV (As := [.int p1]) (rest := []) ⟨hx, hb, hml, hown, hts⟩ (k_X0_holds l D cyI cyZ ha hk hy hq hs z0 p1) (cwV 1 hts gX0_isSettled_X0_holds rfl rfl rfl (by decide +kernel) ⟨Nat.le_of_ble_eq_true rfl, Nat.le_of_ble_eq_true rfl⟩) (prV hG hP (ci := 0) rfl rfl rfl) rfl rfl hl.1 rfl (lv_room (Nat.le_of_ble_eq_true rfl)) dX0_isSettled_2 ⟨Nat.zero_le _, Nat.zero_le _⟩) hS hP (fun H locs hP hS => ?_)
  refine lv_if_eq (tgt := 21) hx hb dX0_isSettled_5 (by decide) (fun c_5 => ?_) (fun c_5 => ?_)
  · refine lv_iconst (v := 0) hx hb dX0_isSettled_21 (by decide) ?_
    have ef : f_X0_isSettled z0 p1 = 0 := by rw [f_X0_isSettled, if_pos c_5]
    exact W.zret (v := 0) (ty := .boolean) hx hb hr rfl (fun t ht hW => ⟨⟨0, (), rfl, ef.symm, trivial⟩, hS.F ht⟩) hS.2.2 dX0_isSettled_22
  · refine lv_aload_n hx hb dX0_isSettled_8 rfl (lv_at hl 0 rfl) ?_
    refine va_get (D := D) (ci := 0) (v := .ref hs) (C := RX0) (T := TX0) (N := 6) hx hb hts uin_X0_isSettled_X0 hown hG.1 hP 0 rfl rfl 5 (by decide) (hts (.fieldLink RX0 28 "TableSplice$ConflictList" "settled" "[Z") (List.mem_of_getElem? (i := 1) rfl)) (fun _ h9 => h9) rfl dX0_isSettled_9 ?_
    refine lv_iload_n hx hb dX0_isSettled_12 rfl (lv_at hl 1 rfl) ?_
    refine va_zald hx hb hG.1 hP 4 1 rfl rfl (in_hold c_5) dX0_isSettled_13 ?_
    refine lv_if_eq (tgt := 21) hx hb dX0_isSettled_14 (by decide) (fun c_14 => ?_) (fun c_14 => ?_)
    · refine lv_iconst (v := 0) hx hb dX0_isSettled_21 (by decide) ?_
      have ef : f_X0_isSettled z0 p1 = 0 := by rw [f_X0_isSettled, if_neg c_5, if_pos c_14]
      exact W.zret (v := 0) (ty := .boolean) hx hb hr rfl (fun t ht hW => ⟨⟨0, (), rfl, ef.symm, trivial⟩, hS.F ht⟩) hS.2.2 dX0_isSettled_22
    · refine lv_iconst (v := 1) hx hb dX0_isSettled_17 (by decide) ?_
      refine lv_goto (tgt := 22) hx hb dX0_isSettled_18 (by decide) ?_
      have ef : f_X0_isSettled z0 p1 = 1 := by rw [f_X0_isSettled, if_neg c_5, if_neg c_14]
      exact W.zret (v := 1) (ty := .boolean) hx hb hr rfl (fun t ht hW => ⟨⟨1, (), rfl, ef.symm, trivial⟩, hS.F ht⟩) hS.2.2 dX0_isSettled_22
def f_X0_append (z0 : Lr) (p1 : Int32) (p2 : Int32) (p3 : Int32) : Lr := if z0.1 < 424 then ((z0.1 + 1, z0.2.1 + 1, upd z0.2.2.1 (z0.1).toNatClampNeg p1, upd z0.2.2.2.1 (z0.1).toNatClampNeg p2, upd z0.2.2.2.2.1 (z0.1).toNatClampNeg p3, upd z0.2.2.2.2.2 (z0.1).toNatClampNeg 0)) else (z0)
theorem uin_X0_append_X0 : ∀ w ∈ wsX00, w ∈ wsX0_append := fun _ h => List.mem_cons_of_mem _ (List.mem_append_right _ h)
set_option maxHeartbeats 4000000 in
set_option maxRecDepth 100000 in
theorem k_X0_append (l : Launch) (D : va_G) (cyI cyZ : ClassId) (ha : Nat) (hk : Nat) (hy : Nat) (hq : Nat) (hs : Nat) (z0 : Lr) (p1 : Int32) (p2 : Int32) (p3 : Int32) (A : Nat → Prop) (sz : Nat) (hAe : A = va_A (wL cyI cyZ ha hk hy hq hs z0) sz) (hn : ¬ z0.1 < 0) : Met l yX0_append wsX0_append ({ frames := 0, cells := 0, slots := 0, locals := 0 } : Room) (pcM D cyI cyZ sz [.ref ha, .int p1, .int p2, .int p3] (wL cyI cyZ ha hk hy hq hs z0)) (mV D A (wL cyI cyZ ha hk hy hq hs (f_X0_append z0 p1 p2 p3))) 0 0 A := by
  refine Met.ofW (cc := cX0_append) (maxL := 4) (ret := none) (by decide) rfl ?_
  intro p e s m args below meth c s₁ B hml hv
  obtain ⟨rfl, hsz, hP, hG, hD0⟩ := hv
  have hx := B.exec
  have hb := B.bytes
  have hr := B.returns
  have hts := atoms_spec (ws := wsX0_append) B.pre
  have hown : s.vm.findClass RX0 = some m.cls := findClass_of_methodNamed B.named
  have hlocks := B.notSynchronized
  subst hsz
  have hD : va_D A (wL cyI cyZ ha hk hy hq hs z0) := by rw [hAe]; exact hD0.self
  have hA : ∀ q : Nat, s.heap.size ≤ q → A q := fun q h => by rw [hAe]; exact Or.inr h
  clear hAe hD0
  have hS : va_S nA s.heap s.heap [] := va_S.rf
  have hl := lv_entry ([.ref ha, .int p1, .int p2, .int p3]) (n := 4) (Nat.le_of_ble_eq_true rfl)
  rw [lg_entry_eq]
  generalize (lg_sl ([.ref ha, .int p1, .int p2, .int p3]) ++ List.replicate (4 - (lg_sl ([.ref ha, .int p1, .int p2, .int p3])).length) Slot.unset).toArray = ls at hl ⊢
  have hl : lv_has ls 4 [(0, .ref ha), (1, .int p1), (2, .int p2), (3, .int p3)] := hl
  have hP : va_P D vwCl (wL cyI cyZ ha hk hy hq hs z0) s.heap := hP
  refine lv_aload_n hx hb dX0_append_0 rfl (lv_at hl 0 rfl) ?_
  refine va_get (D := D) (ci := 0) (v := .int z0.1) (C := RX0) (T := TX0) (N := 6) hx hb hts uin_X0_append_X0 hown hG.1 hP 0 rfl rfl 0 (by decide) (hts (.fieldLink RX0 9 "TableSplice$ConflictList" "size" "I") (List.mem_of_getElem? (i := 1) rfl)) (fun _ h9 => h9) rfl dX0_append_1 ?_
  refine lv_sipush (v := 424) hx hb dX0_append_4 (by decide) ?_
  refine lv_icmp_lt (tgt := 11) hx hb dX0_append_7 (by decide) (fun c_7 => ?_) (fun c_7 => ?_)
  · refine lv_aload_n hx hb dX0_append_11 rfl (lv_at hl 0 rfl) ?_
    refine va_get (D := D) (ci := 0) (v := .ref hk) (C := RX0) (T := TX0) (N := 6) hx hb hts uin_X0_append_X0 hown hG.1 hP 0 rfl rfl 2 (by decide) (hts (.fieldLink RX0 18 "TableSplice$ConflictList" "kinds" "[I") (List.mem_of_getElem? (i := 2) rfl)) (fun _ h9 => h9) rfl dX0_append_12 ?_
    refine lv_aload_n hx hb dX0_append_15 rfl (lv_at hl 0 rfl) ?_
    refine va_get (D := D) (ci := 0) (v := .int z0.1) (C := RX0) (T := TX0) (N := 6) hx hb hts uin_X0_append_X0 hown hG.1 hP 0 rfl rfl 0 (by decide) (hts (.fieldLink RX0 9 "TableSplice$ConflictList" "size" "I") (List.mem_of_getElem? (i := 1) rfl)) (fun _ h9 => h9) rfl dX0_append_16 ?_
    refine lv_iload_n hx hb dX0_append_19 rfl (lv_at hl 1 rfl) ?_
    have hS := sw_n (B := A) hS
    refine va_iast hx hb hG.1 hP hD hS 1 0 rfl rfl (vi_of (N := 424) (by decide) hn (Int32.not_le.mpr c_7)) dX0_append_20 (fun H locs hP hD hS => ?_)
    have hP : va_P D vwCl (wL cyI cyZ ha hk hy hq hs (z0.1, z0.2.1, upd z0.2.2.1 (z0.1).toNatClampNeg p1, z0.2.2.2.1, z0.2.2.2.2.1, z0.2.2.2.2.2)) H := hP
    have hD : va_D A (wL cyI cyZ ha hk hy hq hs (z0.1, z0.2.1, upd z0.2.2.1 (z0.1).toNatClampNeg p1, z0.2.2.2.1, z0.2.2.2.2.1, z0.2.2.2.2.2)) := hD
    refine lv_aload_n hx hb dX0_append_21 rfl (lv_at hl 0 rfl) ?_
    refine va_get (D := D) (ci := 0) (v := .ref hy) (C := RX0) (T := TX0) (N := 6) hx hb hts uin_X0_append_X0 hown hG.1 hP 0 rfl rfl 3 (by decide) (hts (.fieldLink RX0 22 "TableSplice$ConflictList" "keys" "[I") (List.mem_of_getElem? (i := 3) rfl)) (fun _ h9 => h9) rfl dX0_append_22 ?_
    refine lv_aload_n hx hb dX0_append_25 rfl (lv_at hl 0 rfl) ?_
    refine va_get (D := D) (ci := 0) (v := .int z0.1) (C := RX0) (T := TX0) (N := 6) hx hb hts uin_X0_append_X0 hown hG.1 hP 0 rfl rfl 0 (by decide) (hts (.fieldLink RX0 9 "TableSplice$ConflictList" "size" "I") (List.mem_of_getElem? (i := 1) rfl)) (fun _ h9 => h9) rfl dX0_append_26 ?_
    refine lv_iload_n hx hb dX0_append_29 rfl (lv_at hl 2 rfl) ?_
    refine va_iast hx hb hG.1 hP hD hS 2 0 rfl rfl (vi_of (N := 424) (by decide) hn (Int32.not_le.mpr c_7)) dX0_append_30 (fun H locs hP hD hS => ?_)
    have hP : va_P D vwCl (wL cyI cyZ ha hk hy hq hs (z0.1, z0.2.1, upd z0.2.2.1 (z0.1).toNatClampNeg p1, upd z0.2.2.2.1 (z0.1).toNatClampNeg p2, z0.2.2.2.2.1, z0.2.2.2.2.2)) H := hP
    have hD : va_D A (wL cyI cyZ ha hk hy hq hs (z0.1, z0.2.1, upd z0.2.2.1 (z0.1).toNatClampNeg p1, upd z0.2.2.2.1 (z0.1).toNatClampNeg p2, z0.2.2.2.2.1, z0.2.2.2.2.2)) := hD
    refine lv_aload_n hx hb dX0_append_31 rfl (lv_at hl 0 rfl) ?_
    refine va_get (D := D) (ci := 0) (v := .ref hq) (C := RX0) (T := TX0) (N := 6) hx hb hts uin_X0_append_X0 hown hG.1 hP 0 rfl rfl 4 (by decide) (hts (.fieldLink RX0 25 "TableSplice$ConflictList" "columnNumbers" "[I") (List.mem_of_getElem? (i := 4) rfl)) (fun _ h9 => h9) rfl dX0_append_32 ?_
    refine lv_aload_n hx hb dX0_append_35 rfl (lv_at hl 0 rfl) ?_
    refine va_get (D := D) (ci := 0) (v := .int z0.1) (C := RX0) (T := TX0) (N := 6) hx hb hts uin_X0_append_X0 hown hG.1 hP 0 rfl rfl 0 (by decide) (hts (.fieldLink RX0 9 "TableSplice$ConflictList" "size" "I") (List.mem_of_getElem? (i := 1) rfl)) (fun _ h9 => h9) rfl dX0_append_36 ?_
    refine lv_iload_n hx hb dX0_append_39 rfl (lv_at hl 3 rfl) ?_
    refine va_iast hx hb hG.1 hP hD hS 3 0 rfl rfl (vi_of (N := 424) (by decide) hn (Int32.not_le.mpr c_7)) dX0_append_40 (fun H locs hP hD hS => ?_)
    have hP : va_P D vwCl (wL cyI cyZ ha hk hy hq hs (z0.1, z0.2.1, upd z0.2.2.1 (z0.1).toNatClampNeg p1, upd z0.2.2.2.1 (z0.1).toNatClampNeg p2, upd z0.2.2.2.2.1 (z0.1).toNatClampNeg p3, z0.2.2.2.2.2)) H := hP
    have hD : va_D A (wL cyI cyZ ha hk hy hq hs (z0.1, z0.2.1, upd z0.2.2.1 (z0.1).toNatClampNeg p1, upd z0.2.2.2.1 (z0.1).toNatClampNeg p2, upd z0.2.2.2.2.1 (z0.1).toNatClampNeg p3, z0.2.2.2.2.2)) := hD
    refine lv_aload_n hx hb dX0_append_41 rfl (lv_at hl 0 rfl) ?_
    refine va_get (D := D) (ci := 0) (v := .ref hs) (C := RX0) (T := TX0) (N := 6) hx hb hts uin_X0_append_X0 hown hG.1 hP 0 rfl rfl 5 (by decide) (hts (.fieldLink RX0 28 "TableSplice$ConflictList" "settled" "[Z") (List.mem_of_getElem? (i := 5) rfl)) (fun _ h9 => h9) rfl dX0_append_42 ?_
    refine lv_aload_n hx hb dX0_append_45 rfl (lv_at hl 0 rfl) ?_
    refine va_get (D := D) (ci := 0) (v := .int z0.1) (C := RX0) (T := TX0) (N := 6) hx hb hts uin_X0_append_X0 hown hG.1 hP 0 rfl rfl 0 (by decide) (hts (.fieldLink RX0 9 "TableSplice$ConflictList" "size" "I") (List.mem_of_getElem? (i := 1) rfl)) (fun _ h9 => h9) rfl dX0_append_46 ?_
    refine lv_iconst (v := 0) hx hb dX0_append_49 (by decide) ?_
    refine va_zast hx hb hG.1 hP hD hS 4 1 rfl rfl (vi_of (N := 424) (by decide) hn (Int32.not_le.mpr c_7)) dX0_append_50 (fun H locs hP hD hS => ?_)
    have hP : va_P D vwCl (wL cyI cyZ ha hk hy hq hs (z0.1, z0.2.1, upd z0.2.2.1 (z0.1).toNatClampNeg p1, upd z0.2.2.2.1 (z0.1).toNatClampNeg p2, upd z0.2.2.2.2.1 (z0.1).toNatClampNeg p3, upd z0.2.2.2.2.2 (z0.1).toNatClampNeg 0)) H := hP
    have hD : va_D A (wL cyI cyZ ha hk hy hq hs (z0.1, z0.2.1, upd z0.2.2.1 (z0.1).toNatClampNeg p1, upd z0.2.2.2.1 (z0.1).toNatClampNeg p2, upd z0.2.2.2.2.1 (z0.1).toNatClampNeg p3, upd z0.2.2.2.2.2 (z0.1).toNatClampNeg 0)) := hD
    refine lv_aload_n hx hb dX0_append_51 rfl (lv_at hl 0 rfl) ?_
    refine lv_dup hx hb dX0_append_52 rfl ?_
    refine va_get (D := D) (ci := 0) (v := .int z0.1) (C := RX0) (T := TX0) (N := 6) hx hb hts uin_X0_append_X0 hown hG.1 hP 0 rfl rfl 0 (by decide) (hts (.fieldLink RX0 9 "TableSplice$ConflictList" "size" "I") (List.mem_of_getElem? (i := 1) rfl)) (fun _ h9 => h9) rfl dX0_append_53 ?_
    refine lv_iconst (v := 1) hx hb dX0_append_56 (by decide) ?_
    refine lv_iadd hx hb dX0_append_57 ?_
    refine va_put (D := D) (ci := 0) (v := .int (z0.1 + 1)) (ty := .int) (C := RX0) (T := TX0) (N := 6) hx hb hts uin_X0_append_X0 tyX0 tyX0_ok nmX0 hown hG.1 hP hD hS 0 rfl rfl 0 (by decide) (hts (.fieldLink RX0 9 "TableSplice$ConflictList" "size" "I") (List.mem_of_getElem? (i := 1) rfl)) (fun _ h9 => h9) rfl (by decide +kernel) rfl rfl (Nat.le_of_ble_eq_true rfl) dX0_append_58 (fun H locs hP hD hS => ?_)
    have hP : va_P D vwCl (wL cyI cyZ ha hk hy hq hs (z0.1 + 1, z0.2.1, upd z0.2.2.1 (z0.1).toNatClampNeg p1, upd z0.2.2.2.1 (z0.1).toNatClampNeg p2, upd z0.2.2.2.2.1 (z0.1).toNatClampNeg p3, upd z0.2.2.2.2.2 (z0.1).toNatClampNeg 0)) H := hP
    have hD : va_D A (wL cyI cyZ ha hk hy hq hs (z0.1 + 1, z0.2.1, upd z0.2.2.1 (z0.1).toNatClampNeg p1, upd z0.2.2.2.1 (z0.1).toNatClampNeg p2, upd z0.2.2.2.2.1 (z0.1).toNatClampNeg p3, upd z0.2.2.2.2.2 (z0.1).toNatClampNeg 0)) := hD
    refine lv_aload_n hx hb dX0_append_61 rfl (lv_at hl 0 rfl) ?_
    refine lv_dup hx hb dX0_append_62 rfl ?_
    refine va_get (D := D) (ci := 0) (v := .int z0.2.1) (C := RX0) (T := TX0) (N := 6) hx hb hts uin_X0_append_X0 hown hG.1 hP 0 rfl rfl 1 (by decide) (hts (.fieldLink RX0 15 "TableSplice$ConflictList" "openCount" "I") (List.mem_of_getElem? (i := 6) rfl)) (fun _ h9 => h9) rfl dX0_append_63 ?_
    refine lv_iconst (v := 1) hx hb dX0_append_66 (by decide) ?_
    refine lv_iadd hx hb dX0_append_67 ?_
    refine va_put (D := D) (ci := 0) (v := .int (z0.2.1 + 1)) (ty := .int) (C := RX0) (T := TX0) (N := 6) hx hb hts uin_X0_append_X0 tyX0 tyX0_ok nmX0 hown hG.1 hP hD hS 0 rfl rfl 1 (by decide) (hts (.fieldLink RX0 15 "TableSplice$ConflictList" "openCount" "I") (List.mem_of_getElem? (i := 6) rfl)) (fun _ h9 => h9) rfl (by decide +kernel) rfl rfl (Nat.le_of_ble_eq_true rfl) dX0_append_68 (fun H locs hP hD hS => ?_)
    have hP : va_P D vwCl (wL cyI cyZ ha hk hy hq hs (z0.1 + 1, z0.2.1 + 1, upd z0.2.2.1 (z0.1).toNatClampNeg p1, upd z0.2.2.2.1 (z0.1).toNatClampNeg p2, upd z0.2.2.2.2.1 (z0.1).toNatClampNeg p3, upd z0.2.2.2.2.2 (z0.1).toNatClampNeg 0)) H := hP
    have hD : va_D A (wL cyI cyZ ha hk hy hq hs (z0.1 + 1, z0.2.1 + 1, upd z0.2.2.1 (z0.1).toNatClampNeg p1, upd z0.2.2.2.1 (z0.1).toNatClampNeg p2, upd z0.2.2.2.2.1 (z0.1).toNatClampNeg p3, upd z0.2.2.2.2.2 (z0.1).toNatClampNeg 0)) := hD
    have ef : f_X0_append z0 p1 p2 p3 = (z0.1 + 1, z0.2.1 + 1, upd z0.2.2.1 (z0.1).toNatClampNeg p1, upd z0.2.2.2.1 (z0.1).toNatClampNeg p2, upd z0.2.2.2.2.1 (z0.1).toNatClampNeg p3, upd z0.2.2.2.2.2 (z0.1).toNatClampNeg 0) := by rw [f_X0_append, if_pos c_7]
    exact W.vret hx hb hr (fun t ht hW => ⟨⟨(), rfl, trivial, by rw [ht, ef]; exact hP, by rw [ef]; exact hD⟩, hS.F ht⟩) hS.2.2 dX0_append_71
  · have hS := sw_n (B := A) hS
    have ef : f_X0_append z0 p1 p2 p3 = z0 := by rw [f_X0_append, if_neg c_7]
    exact W.vret hx hb hr (fun t ht hW => ⟨⟨(), rfl, trivial, by rw [ht, ef]; exact hP, by rw [ef]; exact hD⟩, hS.F ht⟩) hS.2.2 dX0_append_10
def f_X0_markSettled (z0 : Lr) (p1 : Int32) : Lr := if (f_X0_holds z0 p1) = 0 then (z0) else (if (z0.2.2.2.2.2 (p1).toNatClampNeg) = 0 then ((z0.1, z0.2.1 - 1, z0.2.2.1, z0.2.2.2.1, z0.2.2.2.2.1, upd z0.2.2.2.2.2 (p1).toNatClampNeg 1)) else (z0))
theorem uin_X0_markSettled_X0 : ∀ w ∈ wsX00, w ∈ wsX0_markSettled := fun _ h => List.mem_cons_of_mem _ (List.mem_append_right _ h)
set_option maxHeartbeats 4000000 in
set_option maxRecDepth 100000 in
theorem k_X0_markSettled (l : Launch) (D : va_G) (cyI cyZ : ClassId) (ha : Nat) (hk : Nat) (hy : Nat) (hq : Nat) (hs : Nat) (z0 : Lr) (p1 : Int32) (A : Nat → Prop) (sz : Nat) (hAe : A = va_A (wL cyI cyZ ha hk hy hq hs z0) sz) : Met l yX0_markSettled wsX0_markSettled ({ frames := 1, cells := 0, slots := 0, locals := 21 } : Room) (pcM D cyI cyZ sz [.ref ha, .int p1] (wL cyI cyZ ha hk hy hq hs z0)) (mV D A (wL cyI cyZ ha hk hy hq hs (f_X0_markSettled z0 p1))) 0 0 A := by
  refine Met.ofW (cc := cX0_markSettled) (maxL := 2) (ret := none) (by decide) rfl ?_
  intro p e s m args below meth c s₁ B hml hv
  obtain ⟨rfl, hsz, hP, hG, hD0⟩ := hv
  have hx := B.exec
  have hb := B.bytes
  have hr := B.returns
  have hts := atoms_spec (ws := wsX0_markSettled) B.pre
  have hown : s.vm.findClass RX0 = some m.cls := findClass_of_methodNamed B.named
  have hlocks := B.notSynchronized
  subst hsz
  have hD : va_D A (wL cyI cyZ ha hk hy hq hs z0) := by rw [hAe]; exact hD0.self
  have hA : ∀ q : Nat, s.heap.size ≤ q → A q := fun q h => by rw [hAe]; exact Or.inr h
  clear hAe hD0
  have hS : va_S nA s.heap s.heap [] := va_S.rf
  have hl := lv_entry ([.ref ha, .int p1]) (n := 2) (Nat.le_of_ble_eq_true rfl)
  rw [lg_entry_eq]
  generalize (lg_sl ([.ref ha, .int p1]) ++ List.replicate (2 - (lg_sl ([.ref ha, .int p1])).length) Slot.unset).toArray = ls at hl ⊢
  have hl : lv_has ls 2 [(0, .ref ha), (1, .int p1)] := hl
  have hP : va_P D vwCl (wL cyI cyZ ha hk hy hq hs z0) s.heap := hP
  refine lv_aload_n hx hb dX0_markSettled_0 rfl (lv_at hl 0 rfl) ?_
  refine lv_iload_n hx hb dX0_markSettled_1 rfl (lv_at hl 1 rfl) ?_
  refine pr_i (va_runV (As := [.int p1]) (rest := []) ⟨hx, hb, hml, hown, hts⟩ (k_X0_holds l D cyI cyZ ha hk hy hq hs z0 p1) (cwV 1 hts gX0_markSettled_X0_holds rfl rfl rfl (by decide +kernel) ⟨Nat.le_of_ble_eq_true rfl, Nat.le_of_ble_eq_true rfl⟩) (prV hG hP (ci := 0) rfl rfl rfl) rfl rfl hl.1 rfl (lv_room (Nat.le_of_ble_eq_true rfl)) dX0_markSettled_2 ⟨Nat.zero_le _, Nat.zero_le _⟩) hS hP (fun H locs hP hS => ?_)
  refine lv_if_eq (tgt := 34) hx hb dX0_markSettled_5 (by decide) (fun c_5 => ?_) (fun c_5 => ?_)
  · have hS := sw_n (B := A) hS
    have ef : f_X0_markSettled z0 p1 = z0 := by rw [f_X0_markSettled, if_pos c_5]
    exact W.vret hx hb hr (fun t ht hW => ⟨⟨(), rfl, trivial, by rw [ht, ef]; exact hP, by rw [ef]; exact hD⟩, hS.F ht⟩) hS.2.2 dX0_markSettled_34
  · refine lv_aload_n hx hb dX0_markSettled_8 rfl (lv_at hl 0 rfl) ?_
    refine va_get (D := D) (ci := 0) (v := .ref hs) (C := RX0) (T := TX0) (N := 6) hx hb hts uin_X0_markSettled_X0 hown hG.1 hP 0 rfl rfl 5 (by decide) (hts (.fieldLink RX0 28 "TableSplice$ConflictList" "settled" "[Z") (List.mem_of_getElem? (i := 1) rfl)) (fun _ h9 => h9) rfl dX0_markSettled_9 ?_
    refine lv_iload_n hx hb dX0_markSettled_12 rfl (lv_at hl 1 rfl) ?_
    refine va_zald hx hb hG.1 hP 4 1 rfl rfl (in_hold c_5) dX0_markSettled_13 ?_
    refine lv_if_ne (tgt := 34) hx hb dX0_markSettled_14 (by decide) (fun c_14 => ?_) (fun c_14 => ?_)
    · have hS := sw_n (B := A) hS
      have ef : f_X0_markSettled z0 p1 = z0 := by rw [f_X0_markSettled, if_neg c_5, if_neg c_14]
      exact W.vret hx hb hr (fun t ht hW => ⟨⟨(), rfl, trivial, by rw [ht, ef]; exact hP, by rw [ef]; exact hD⟩, hS.F ht⟩) hS.2.2 dX0_markSettled_34
    · refine lv_aload_n hx hb dX0_markSettled_17 rfl (lv_at hl 0 rfl) ?_
      refine va_get (D := D) (ci := 0) (v := .ref hs) (C := RX0) (T := TX0) (N := 6) hx hb hts uin_X0_markSettled_X0 hown hG.1 hP 0 rfl rfl 5 (by decide) (hts (.fieldLink RX0 28 "TableSplice$ConflictList" "settled" "[Z") (List.mem_of_getElem? (i := 1) rfl)) (fun _ h9 => h9) rfl dX0_markSettled_18 ?_
      refine lv_iload_n hx hb dX0_markSettled_21 rfl (lv_at hl 1 rfl) ?_
      refine lv_iconst (v := 1) hx hb dX0_markSettled_22 (by decide) ?_
      have hS := sw_n (B := A) hS
      refine va_zast hx hb hG.1 hP hD hS 4 1 rfl rfl (in_hold c_5) dX0_markSettled_23 (fun H locs hP hD hS => ?_)
      have hP : va_P D vwCl (wL cyI cyZ ha hk hy hq hs (z0.1, z0.2.1, z0.2.2.1, z0.2.2.2.1, z0.2.2.2.2.1, upd z0.2.2.2.2.2 (p1).toNatClampNeg 1)) H := hP
      have hD : va_D A (wL cyI cyZ ha hk hy hq hs (z0.1, z0.2.1, z0.2.2.1, z0.2.2.2.1, z0.2.2.2.2.1, upd z0.2.2.2.2.2 (p1).toNatClampNeg 1)) := hD
      refine lv_aload_n hx hb dX0_markSettled_24 rfl (lv_at hl 0 rfl) ?_
      refine lv_dup hx hb dX0_markSettled_25 rfl ?_
      refine va_get (D := D) (ci := 0) (v := .int z0.2.1) (C := RX0) (T := TX0) (N := 6) hx hb hts uin_X0_markSettled_X0 hown hG.1 hP 0 rfl rfl 1 (by decide) (hts (.fieldLink RX0 15 "TableSplice$ConflictList" "openCount" "I") (List.mem_of_getElem? (i := 2) rfl)) (fun _ h9 => h9) rfl dX0_markSettled_26 ?_
      refine lv_iconst (v := 1) hx hb dX0_markSettled_29 (by decide) ?_
      refine lv_isub hx hb dX0_markSettled_30 ?_
      refine va_put (D := D) (ci := 0) (v := .int (z0.2.1 - 1)) (ty := .int) (C := RX0) (T := TX0) (N := 6) hx hb hts uin_X0_markSettled_X0 tyX0 tyX0_ok nmX0 hown hG.1 hP hD hS 0 rfl rfl 1 (by decide) (hts (.fieldLink RX0 15 "TableSplice$ConflictList" "openCount" "I") (List.mem_of_getElem? (i := 2) rfl)) (fun _ h9 => h9) rfl (by decide +kernel) rfl rfl (Nat.le_of_ble_eq_true rfl) dX0_markSettled_31 (fun H locs hP hD hS => ?_)
      have hP : va_P D vwCl (wL cyI cyZ ha hk hy hq hs (z0.1, z0.2.1 - 1, z0.2.2.1, z0.2.2.2.1, z0.2.2.2.2.1, upd z0.2.2.2.2.2 (p1).toNatClampNeg 1)) H := hP
      have hD : va_D A (wL cyI cyZ ha hk hy hq hs (z0.1, z0.2.1 - 1, z0.2.2.1, z0.2.2.2.1, z0.2.2.2.2.1, upd z0.2.2.2.2.2 (p1).toNatClampNeg 1)) := hD
      have ef : f_X0_markSettled z0 p1 = (z0.1, z0.2.1 - 1, z0.2.2.1, z0.2.2.2.1, z0.2.2.2.2.1, upd z0.2.2.2.2.2 (p1).toNatClampNeg 1) := by rw [f_X0_markSettled, if_neg c_5, if_pos c_14]
      exact W.vret hx hb hr (fun t ht hW => ⟨⟨(), rfl, trivial, by rw [ht, ef]; exact hP, by rw [ef]; exact hD⟩, hS.F ht⟩) hS.2.2 dX0_markSettled_34
def f_X0_becomeEmpty (z0 : Lr) : Lr := (0, 0, z0.2.2.1, z0.2.2.2.1, z0.2.2.2.2.1, z0.2.2.2.2.2)
theorem uin_X0_becomeEmpty_X0 : ∀ w ∈ wsX00, w ∈ wsX0_becomeEmpty := fun _ h => List.mem_cons_of_mem _ (List.mem_append_right _ h)
set_option maxHeartbeats 4000000 in
set_option maxRecDepth 100000 in
theorem k_X0_becomeEmpty (l : Launch) (D : va_G) (cyI cyZ : ClassId) (ha : Nat) (hk : Nat) (hy : Nat) (hq : Nat) (hs : Nat) (z0 : Lr) (A : Nat → Prop) (sz : Nat) (hAe : A = va_A (wL cyI cyZ ha hk hy hq hs z0) sz) : Met l yX0_becomeEmpty wsX0_becomeEmpty ({ frames := 0, cells := 0, slots := 0, locals := 0 } : Room) (pcM D cyI cyZ sz [.ref ha] (wL cyI cyZ ha hk hy hq hs z0)) (mV D A (wL cyI cyZ ha hk hy hq hs (f_X0_becomeEmpty z0))) 0 0 A := by
  refine Met.ofW (cc := cX0_becomeEmpty) (maxL := 1) (ret := none) (by decide) rfl ?_
  intro p e s m args below meth c s₁ B hml hv
  obtain ⟨rfl, hsz, hP, hG, hD0⟩ := hv
  have hx := B.exec
  have hb := B.bytes
  have hr := B.returns
  have hts := atoms_spec (ws := wsX0_becomeEmpty) B.pre
  have hown : s.vm.findClass RX0 = some m.cls := findClass_of_methodNamed B.named
  have hlocks := B.notSynchronized
  subst hsz
  have hD : va_D A (wL cyI cyZ ha hk hy hq hs z0) := by rw [hAe]; exact hD0.self
  have hA : ∀ q : Nat, s.heap.size ≤ q → A q := fun q h => by rw [hAe]; exact Or.inr h
  clear hAe hD0
  have hS : va_S nA s.heap s.heap [] := va_S.rf
  have hl := lv_entry ([.ref ha]) (n := 1) (Nat.le_of_ble_eq_true rfl)
  rw [lg_entry_eq]
  generalize (lg_sl ([.ref ha]) ++ List.replicate (1 - (lg_sl ([.ref ha])).length) Slot.unset).toArray = ls at hl ⊢
  have hl : lv_has ls 1 [(0, .ref ha)] := hl
  have hP : va_P D vwCl (wL cyI cyZ ha hk hy hq hs z0) s.heap := hP
  refine lv_aload_n hx hb dX0_becomeEmpty_0 rfl (lv_at hl 0 rfl) ?_
  refine lv_iconst (v := 0) hx hb dX0_becomeEmpty_1 (by decide) ?_
  have hS := sw_n (B := A) hS
  refine va_put (D := D) (ci := 0) (v := .int 0) (ty := .int) (C := RX0) (T := TX0) (N := 6) hx hb hts uin_X0_becomeEmpty_X0 tyX0 tyX0_ok nmX0 hown hG.1 hP hD hS 0 rfl rfl 0 (by decide) (hts (.fieldLink RX0 9 "TableSplice$ConflictList" "size" "I") (List.mem_of_getElem? (i := 1) rfl)) (fun _ h9 => h9) rfl (by decide +kernel) rfl rfl (Nat.le_of_ble_eq_true rfl) dX0_becomeEmpty_2 (fun H locs hP hD hS => ?_)
  have hP : va_P D vwCl (wL cyI cyZ ha hk hy hq hs (0, z0.2.1, z0.2.2.1, z0.2.2.2.1, z0.2.2.2.2.1, z0.2.2.2.2.2)) H := hP
  have hD : va_D A (wL cyI cyZ ha hk hy hq hs (0, z0.2.1, z0.2.2.1, z0.2.2.2.1, z0.2.2.2.2.1, z0.2.2.2.2.2)) := hD
  refine lv_aload_n hx hb dX0_becomeEmpty_5 rfl (lv_at hl 0 rfl) ?_
  refine lv_iconst (v := 0) hx hb dX0_becomeEmpty_6 (by decide) ?_
  refine va_put (D := D) (ci := 0) (v := .int 0) (ty := .int) (C := RX0) (T := TX0) (N := 6) hx hb hts uin_X0_becomeEmpty_X0 tyX0 tyX0_ok nmX0 hown hG.1 hP hD hS 0 rfl rfl 1 (by decide) (hts (.fieldLink RX0 15 "TableSplice$ConflictList" "openCount" "I") (List.mem_of_getElem? (i := 2) rfl)) (fun _ h9 => h9) rfl (by decide +kernel) rfl rfl (Nat.le_of_ble_eq_true rfl) dX0_becomeEmpty_7 (fun H locs hP hD hS => ?_)
  have hP : va_P D vwCl (wL cyI cyZ ha hk hy hq hs (0, 0, z0.2.2.1, z0.2.2.2.1, z0.2.2.2.2.1, z0.2.2.2.2.2)) H := hP
  have hD : va_D A (wL cyI cyZ ha hk hy hq hs (0, 0, z0.2.2.1, z0.2.2.2.1, z0.2.2.2.2.1, z0.2.2.2.2.2)) := hD
  have ef : f_X0_becomeEmpty z0 = (0, 0, z0.2.2.1, z0.2.2.2.1, z0.2.2.2.2.1, z0.2.2.2.2.2) := by rw [f_X0_becomeEmpty]
  exact W.vret hx hb hr (fun t ht hW => ⟨⟨(), rfl, trivial, by rw [ht, ef]; exact hP, by rw [ef]; exact hD⟩, hS.F ht⟩) hS.2.2 dX0_becomeEmpty_10
