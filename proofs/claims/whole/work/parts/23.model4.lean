def f_X3_merged (p1 : Int32) (p2 : Int32) (p3 : Int32) : Int32 := if (p1 &&& 6) = 6 then 1 else (if p1 = 2 then 1 else (if p1 = 4 then 1 else (if p1 = 3 then (if p2 = 0 then (if p1 = 5 then (if p3 = 0 then 0 else 2) else 0) else 2) else (if p1 = 5 then (if p3 = 0 then 0 else 2) else 0))))
set_option maxHeartbeats 4000000 in
set_option maxRecDepth 100000 in
theorem k_X3_merged (l : Launch) (D : va_G) (cyI cyZ : ClassId) (p1 : Int32) (p2 : Int32) (p3 : Int32) : Met l yX3_merged wsX3_merged ({ frames := 0, cells := 0, slots := 0, locals := 0 } : Room) (pcP D cyI cyZ [.int p1, .int p2, .int p3] ([])) (qI (f_X3_merged p1 p2 p3)) 0 0 nA := by
  refine Met.ofW (cc := cX3_merged) (maxL := 3) (ret := (some .int)) (by decide) rfl ?_
  intro p e s m args below meth c s₁ B hml hv
  obtain ⟨rfl, hP, hG⟩ := hv
  have hx := B.exec
  have hb := B.bytes
  have hr := B.returns
  have hts := atoms_spec (ws := wsX3_merged) B.pre
  have hown : s.vm.findClass RX3 = some m.cls := findClass_of_methodNamed B.named
  have hlocks := B.notSynchronized
  have hS : va_S nA s.heap s.heap [] := va_S.rf
  have hl := lv_entry ([.int p1, .int p2, .int p3]) (n := 3) (Nat.le_of_ble_eq_true rfl)
  rw [lg_entry_eq]
  generalize (lg_sl ([.int p1, .int p2, .int p3]) ++ List.replicate (3 - (lg_sl ([.int p1, .int p2, .int p3])).length) Slot.unset).toArray = ls at hl ⊢
  have hl : lv_has ls 3 [(0, .int p1), (1, .int p2), (2, .int p3)] := hl
  have hP : va_P D vwCl ([]) s.heap := hP
  refine lv_iload_n hx hb dX3_merged_0 rfl (lv_at hl 0 rfl) ?_
  refine lv_bipush (v := 6) hx hb dX3_merged_1 (by decide) ?_
  refine lv_iand hx hb dX3_merged_3 ?_
  refine lv_bipush (v := 6) hx hb dX3_merged_4 (by decide) ?_
  refine lv_icmp_eq (tgt := 19) hx hb dX3_merged_6 (by decide) (fun c_6 => ?_) (fun c_6 => ?_)
  · refine lv_iconst (v := 1) hx hb dX3_merged_19 (by decide) ?_
    have ef : f_X3_merged p1 p2 p3 = 1 := by rw [f_X3_merged, if_pos c_6]
    exact W.iret (v := 1) hx hb hr (fun t ht hW => ⟨⟨1, (), rfl, ef.symm, trivial⟩, hS.F ht⟩) hS.2.2 dX3_merged_20
  · refine lv_iload_n hx hb dX3_merged_9 rfl (lv_at hl 0 rfl) ?_
    refine lv_iconst (v := 2) hx hb dX3_merged_10 (by decide) ?_
    refine lv_icmp_eq (tgt := 19) hx hb dX3_merged_11 (by decide) (fun c_11 => ?_) (fun c_11 => ?_)
    · refine lv_iconst (v := 1) hx hb dX3_merged_19 (by decide) ?_
      have ef : f_X3_merged p1 p2 p3 = 1 := by rw [f_X3_merged, if_neg c_6, if_pos c_11]
      exact W.iret (v := 1) hx hb hr (fun t ht hW => ⟨⟨1, (), rfl, ef.symm, trivial⟩, hS.F ht⟩) hS.2.2 dX3_merged_20
    · refine lv_iload_n hx hb dX3_merged_14 rfl (lv_at hl 0 rfl) ?_
      refine lv_iconst (v := 4) hx hb dX3_merged_15 (by decide) ?_
      refine lv_icmp_ne (tgt := 21) hx hb dX3_merged_16 (by decide) (fun c_16 => ?_) (fun c_16 => ?_)
      · refine lv_iload_n hx hb dX3_merged_21 rfl (lv_at hl 0 rfl) ?_
        refine lv_iconst (v := 3) hx hb dX3_merged_22 (by decide) ?_
        refine lv_icmp_ne (tgt := 30) hx hb dX3_merged_23 (by decide) (fun c_23 => ?_) (fun c_23 => ?_)
        · refine lv_iload_n hx hb dX3_merged_30 rfl (lv_at hl 0 rfl) ?_
          refine lv_iconst (v := 5) hx hb dX3_merged_31 (by decide) ?_
          refine lv_icmp_ne (tgt := 43) hx hb dX3_merged_32 (by decide) (fun c_32 => ?_) (fun c_32 => ?_)
          · refine lv_iconst (v := 0) hx hb dX3_merged_43 (by decide) ?_
            have ef : f_X3_merged p1 p2 p3 = 0 := by rw [f_X3_merged, if_neg c_6, if_neg c_11, if_neg c_16, if_neg c_23, if_neg c_32]
            exact W.iret (v := 0) hx hb hr (fun t ht hW => ⟨⟨0, (), rfl, ef.symm, trivial⟩, hS.F ht⟩) hS.2.2 dX3_merged_44
          · refine lv_iload_n hx hb dX3_merged_35 rfl (lv_at hl 2 rfl) ?_
            refine lv_if_eq (tgt := 43) hx hb dX3_merged_36 (by decide) (fun c_36 => ?_) (fun c_36 => ?_)
            · refine lv_iconst (v := 0) hx hb dX3_merged_43 (by decide) ?_
              have ef : f_X3_merged p1 p2 p3 = 0 := by rw [f_X3_merged, if_neg c_6, if_neg c_11, if_neg c_16, if_neg c_23, if_pos c_32, if_pos c_36]
              exact W.iret (v := 0) hx hb hr (fun t ht hW => ⟨⟨0, (), rfl, ef.symm, trivial⟩, hS.F ht⟩) hS.2.2 dX3_merged_44
            · refine lv_iconst (v := 2) hx hb dX3_merged_39 (by decide) ?_
              refine lv_goto (tgt := 44) hx hb dX3_merged_40 (by decide) ?_
              have ef : f_X3_merged p1 p2 p3 = 2 := by rw [f_X3_merged, if_neg c_6, if_neg c_11, if_neg c_16, if_neg c_23, if_pos c_32, if_neg c_36]
              exact W.iret (v := 2) hx hb hr (fun t ht hW => ⟨⟨2, (), rfl, ef.symm, trivial⟩, hS.F ht⟩) hS.2.2 dX3_merged_44
        · refine lv_iload_n hx hb dX3_merged_26 rfl (lv_at hl 1 rfl) ?_
          refine lv_if_ne (tgt := 39) hx hb dX3_merged_27 (by decide) (fun c_27 => ?_) (fun c_27 => ?_)
          · refine lv_iconst (v := 2) hx hb dX3_merged_39 (by decide) ?_
            refine lv_goto (tgt := 44) hx hb dX3_merged_40 (by decide) ?_
            have ef : f_X3_merged p1 p2 p3 = 2 := by rw [f_X3_merged, if_neg c_6, if_neg c_11, if_neg c_16, if_pos c_23, if_neg c_27]
            exact W.iret (v := 2) hx hb hr (fun t ht hW => ⟨⟨2, (), rfl, ef.symm, trivial⟩, hS.F ht⟩) hS.2.2 dX3_merged_44
          · refine lv_iload_n hx hb dX3_merged_30 rfl (lv_at hl 0 rfl) ?_
            refine lv_iconst (v := 5) hx hb dX3_merged_31 (by decide) ?_
            refine lv_icmp_ne (tgt := 43) hx hb dX3_merged_32 (by decide) (fun c_32 => ?_) (fun c_32 => ?_)
            · refine lv_iconst (v := 0) hx hb dX3_merged_43 (by decide) ?_
              have ef : f_X3_merged p1 p2 p3 = 0 := by rw [f_X3_merged, if_neg c_6, if_neg c_11, if_neg c_16, if_pos c_23, if_pos c_27, if_neg c_32]
              exact W.iret (v := 0) hx hb hr (fun t ht hW => ⟨⟨0, (), rfl, ef.symm, trivial⟩, hS.F ht⟩) hS.2.2 dX3_merged_44
            · refine lv_iload_n hx hb dX3_merged_35 rfl (lv_at hl 2 rfl) ?_
              refine lv_if_eq (tgt := 43) hx hb dX3_merged_36 (by decide) (fun c_36 => ?_) (fun c_36 => ?_)
              · refine lv_iconst (v := 0) hx hb dX3_merged_43 (by decide) ?_
                have ef : f_X3_merged p1 p2 p3 = 0 := by rw [f_X3_merged, if_neg c_6, if_neg c_11, if_neg c_16, if_pos c_23, if_pos c_27, if_pos c_32, if_pos c_36]
                exact W.iret (v := 0) hx hb hr (fun t ht hW => ⟨⟨0, (), rfl, ef.symm, trivial⟩, hS.F ht⟩) hS.2.2 dX3_merged_44
              · refine lv_iconst (v := 2) hx hb dX3_merged_39 (by decide) ?_
                refine lv_goto (tgt := 44) hx hb dX3_merged_40 (by decide) ?_
                have ef : f_X3_merged p1 p2 p3 = 2 := by rw [f_X3_merged, if_neg c_6, if_neg c_11, if_neg c_16, if_pos c_23, if_pos c_27, if_pos c_32, if_neg c_36]
                exact W.iret (v := 2) hx hb hr (fun t ht hW => ⟨⟨2, (), rfl, ef.symm, trivial⟩, hS.F ht⟩) hS.2.2 dX3_merged_44
      · refine lv_iconst (v := 1) hx hb dX3_merged_19 (by decide) ?_
        have ef : f_X3_merged p1 p2 p3 = 1 := by rw [f_X3_merged, if_neg c_6, if_neg c_11, if_pos c_16]
        exact W.iret (v := 1) hx hb hr (fun t ht hW => ⟨⟨1, (), rfl, ef.symm, trivial⟩, hS.F ht⟩) hS.2.2 dX3_merged_20
def f_X3_mergedColumn (mc : Nat → Int32) (mw : Nat → Int32) (mn : Nat → Int32) (me : Nat → Int32) (p1 : Int32) : Int32 := if (f_X3_hasColumn mc 0 p1) = 0 then (if (f_X3_hasColumn mc 1 p1) = 0 then (if (f_X3_hasColumn mc 2 p1) = 0 then f_X3_merged ((0 ||| 0) ||| 0) (f_X3_changedColumn mc mw mn me 1 p1) (f_X3_changedColumn mc mw mn me 2 p1) else f_X3_merged ((0 ||| 0) ||| 4) (f_X3_changedColumn mc mw mn me 1 p1) (f_X3_changedColumn mc mw mn me 2 p1)) else (if (f_X3_hasColumn mc 2 p1) = 0 then f_X3_merged ((0 ||| 2) ||| 0) (f_X3_changedColumn mc mw mn me 1 p1) (f_X3_changedColumn mc mw mn me 2 p1) else f_X3_merged ((0 ||| 2) ||| 4) (f_X3_changedColumn mc mw mn me 1 p1) (f_X3_changedColumn mc mw mn me 2 p1))) else (if (f_X3_hasColumn mc 1 p1) = 0 then (if (f_X3_hasColumn mc 2 p1) = 0 then f_X3_merged ((1 ||| 0) ||| 0) (f_X3_changedColumn mc mw mn me 1 p1) (f_X3_changedColumn mc mw mn me 2 p1) else f_X3_merged ((1 ||| 0) ||| 4) (f_X3_changedColumn mc mw mn me 1 p1) (f_X3_changedColumn mc mw mn me 2 p1)) else (if (f_X3_hasColumn mc 2 p1) = 0 then f_X3_merged ((1 ||| 2) ||| 0) (f_X3_changedColumn mc mw mn me 1 p1) (f_X3_changedColumn mc mw mn me 2 p1) else f_X3_merged ((1 ||| 2) ||| 4) (f_X3_changedColumn mc mw mn me 1 p1) (f_X3_changedColumn mc mw mn me 2 p1)))
theorem uin_X3_mergedColumn_X3 : ∀ w ∈ wsX30, w ∈ wsX3_mergedColumn := fun _ h => List.mem_cons_of_mem _ (List.mem_append_right _ h)
set_option maxHeartbeats 4000000 in
set_option maxRecDepth 100000 in
theorem k_X3_mergedColumn (l : Launch) (D : va_G) (cyI cyZ : ClassId) (ad : Nat → Nat) (mc : Nat → Int32) (mw : Nat → Int32) (mn : Nat → Int32) (me : Nat → Int32) (mu : Nat → Int32) (mr : Nat → Int32) (mz : Kr) (mf : Int32) (mt : Int32) (p1 : Int32) (hi1 : vp_in p1 8) : Met l yX3_mergedColumn wsX3_mergedColumn ({ frames := 4, cells := 0, slots := 0, locals := 92 } : Room) (pcP D cyI cyZ [.ref (ad 0), .int p1] (wN cyI cyZ ad mc mw mn me mu mr mz mf mt)) (qI (f_X3_mergedColumn mc mw mn me p1)) 0 0 nA := by
  refine Met.ofW (cc := cX3_mergedColumn) (maxL := 3) (ret := (some .int)) (by decide) rfl ?_
  intro p e s m args below meth c s₁ B hml hv
  obtain ⟨rfl, hP, hG⟩ := hv
  have hx := B.exec
  have hb := B.bytes
  have hr := B.returns
  have hts := atoms_spec (ws := wsX3_mergedColumn) B.pre
  have hown : s.vm.findClass RX3 = some m.cls := findClass_of_methodNamed B.named
  have hlocks := B.notSynchronized
  have hS : va_S nA s.heap s.heap [] := va_S.rf
  have hl := lv_entry ([.ref (ad 0), .int p1]) (n := 3) (Nat.le_of_ble_eq_true rfl)
  rw [lg_entry_eq]
  generalize (lg_sl ([.ref (ad 0), .int p1]) ++ List.replicate (3 - (lg_sl ([.ref (ad 0), .int p1])).length) Slot.unset).toArray = ls at hl ⊢
  have hl : lv_has ls 3 [(0, .ref (ad 0)), (1, .int p1)] := hl
  have hP : va_P D vwCl (wN cyI cyZ ad mc mw mn me mu mr mz mf mt) s.heap := hP
  refine lv_aload_n hx hb dX3_mergedColumn_0 rfl (lv_at hl 0 rfl) ?_
  refine lv_iconst (v := 0) hx hb dX3_mergedColumn_1 (by decide) ?_
  refine lv_iload_n hx hb dX3_mergedColumn_2 rfl (lv_at hl 1 rfl) ?_
  refine pr_i (va_runV (As := [.int 0, .int p1]) (rest := []) ⟨hx, hb, hml, hown, hts⟩ (k_X3_hasColumn l D cyI cyZ ad mc mw mn me mu mr mz mf mt 0 p1 (vi_mono (vp_in_nI (n := 0) (N := 1) (by decide) (by decide)) (by decide))) (cwV 2 hts gX3_mergedColumn_X3_hasColumn rfl rfl rfl (by decide +kernel) ⟨Nat.le_of_ble_eq_true rfl, Nat.le_of_ble_eq_true rfl⟩) (prV hG hP (ci := 3) rfl rfl rfl) rfl rfl hl.1 rfl (lv_room (Nat.le_of_ble_eq_true rfl)) dX3_mergedColumn_3 ⟨Nat.zero_le _, Nat.zero_le _⟩) hS hP (fun H locs hP hS => ?_)
  refine lv_if_eq (tgt := 13) hx hb dX3_mergedColumn_6 (by decide) (fun c_6 => ?_) (fun c_6 => ?_)
  · refine lv_iconst (v := 0) hx hb dX3_mergedColumn_13 (by decide) ?_
    refine lv_aload_n hx hb dX3_mergedColumn_14 rfl (lv_at hl 0 rfl) ?_
    refine lv_iconst (v := 1) hx hb dX3_mergedColumn_15 (by decide) ?_
    refine lv_iload_n hx hb dX3_mergedColumn_16 rfl (lv_at hl 1 rfl) ?_
    refine pr_i (va_runV (As := [.int 1, .int p1]) (rest := [.int 0]) ⟨hx, hb, hml, hown, hts⟩ (k_X3_hasColumn l D cyI cyZ ad mc mw mn me mu mr mz mf mt 1 p1 (vi_mono (vp_in_nI (n := 1) (N := 2) (by decide) (by decide)) (by decide))) (cwV 2 hts gX3_mergedColumn_X3_hasColumn rfl rfl rfl (by decide +kernel) ⟨Nat.le_of_ble_eq_true rfl, Nat.le_of_ble_eq_true rfl⟩) (prV hG hP (ci := 3) rfl rfl rfl) rfl rfl hl.1 rfl (lv_room (Nat.le_of_ble_eq_true rfl)) dX3_mergedColumn_17 ⟨Nat.zero_le _, Nat.zero_le _⟩) hS hP (fun H locs hP hS => ?_)
    refine lv_if_eq (tgt := 27) hx hb dX3_mergedColumn_20 (by decide) (fun c_20 => ?_) (fun c_20 => ?_)
    · refine lv_iconst (v := 0) hx hb dX3_mergedColumn_27 (by decide) ?_
      refine lv_ior hx hb dX3_mergedColumn_28 ?_
      refine lv_aload_n hx hb dX3_mergedColumn_29 rfl (lv_at hl 0 rfl) ?_
      refine lv_iconst (v := 2) hx hb dX3_mergedColumn_30 (by decide) ?_
      refine lv_iload_n hx hb dX3_mergedColumn_31 rfl (lv_at hl 1 rfl) ?_
      refine pr_i (va_runV (As := [.int 2, .int p1]) (rest := [.int (0 ||| 0)]) ⟨hx, hb, hml, hown, hts⟩ (k_X3_hasColumn l D cyI cyZ ad mc mw mn me mu mr mz mf mt 2 p1 (vi_mono (vp_in_nI (n := 2) (N := 3) (by decide) (by decide)) (by decide))) (cwV 2 hts gX3_mergedColumn_X3_hasColumn rfl rfl rfl (by decide +kernel) ⟨Nat.le_of_ble_eq_true rfl, Nat.le_of_ble_eq_true rfl⟩) (prV hG hP (ci := 3) rfl rfl rfl) rfl rfl hl.1 rfl (lv_room (Nat.le_of_ble_eq_true rfl)) dX3_mergedColumn_32 ⟨Nat.zero_le _, Nat.zero_le _⟩) hS hP (fun H locs hP hS => ?_)
      refine lv_if_eq (tgt := 42) hx hb dX3_mergedColumn_35 (by decide) (fun c_35 => ?_) (fun c_35 => ?_)
      · refine lv_iconst (v := 0) hx hb dX3_mergedColumn_42 (by decide) ?_
        refine lv_ior hx hb dX3_mergedColumn_43 ?_
        refine lv_istore_n (lv' := [(2, .int ((0 ||| 0) ||| 0)), (0, .ref (ad 0)), (1, .int p1)]) hx hb dX3_mergedColumn_44 rfl hl (by decide) rfl (fun ls hl => ?_)
        refine lv_iload_n hx hb dX3_mergedColumn_45 rfl (lv_at hl 0 rfl) ?_
        refine lv_aload_n hx hb dX3_mergedColumn_46 rfl (lv_at hl 1 rfl) ?_
        refine lv_iconst (v := 1) hx hb dX3_mergedColumn_47 (by decide) ?_
        refine lv_iload_n hx hb dX3_mergedColumn_48 rfl (lv_at hl 2 rfl) ?_
        refine pr_i (va_runV (As := [.int 1, .int p1]) (rest := [.int ((0 ||| 0) ||| 0)]) ⟨hx, hb, hml, hown, hts⟩ (k_X3_changedColumn l D cyI cyZ ad mc mw mn me mu mr mz mf mt 1 p1 (vi_mono (vp_in_nI (n := 1) (N := 2) (by decide) (by decide)) (by decide)) hi1) (cwV 2 hts gX3_mergedColumn_X3_changedColumn rfl rfl rfl (by decide +kernel) ⟨Nat.le_of_ble_eq_true rfl, Nat.le_of_ble_eq_true rfl⟩) (prV hG hP (ci := 3) rfl rfl rfl) rfl rfl hl.1 rfl (lv_room (Nat.le_of_ble_eq_true rfl)) dX3_mergedColumn_49 ⟨Nat.zero_le _, Nat.zero_le _⟩) hS hP (fun H locs hP hS => ?_)
        refine lv_aload_n hx hb dX3_mergedColumn_52 rfl (lv_at hl 1 rfl) ?_
        refine lv_iconst (v := 2) hx hb dX3_mergedColumn_53 (by decide) ?_
        refine lv_iload_n hx hb dX3_mergedColumn_54 rfl (lv_at hl 2 rfl) ?_
        refine pr_i (va_runV (As := [.int 2, .int p1]) (rest := [.int (f_X3_changedColumn mc mw mn me 1 p1), .int ((0 ||| 0) ||| 0)]) ⟨hx, hb, hml, hown, hts⟩ (k_X3_changedColumn l D cyI cyZ ad mc mw mn me mu mr mz mf mt 2 p1 (vi_mono (vp_in_nI (n := 2) (N := 3) (by decide) (by decide)) (by decide)) hi1) (cwV 2 hts gX3_mergedColumn_X3_changedColumn rfl rfl rfl (by decide +kernel) ⟨Nat.le_of_ble_eq_true rfl, Nat.le_of_ble_eq_true rfl⟩) (prV hG hP (ci := 3) rfl rfl rfl) rfl rfl hl.1 rfl (lv_room (Nat.le_of_ble_eq_true rfl)) dX3_mergedColumn_55 ⟨Nat.zero_le _, Nat.zero_le _⟩) hS hP (fun H locs hP hS => ?_)
        refine pr_i (va_runS (As := [.int ((0 ||| 0) ||| 0), .int (f_X3_changedColumn mc mw mn me 1 p1), .int (f_X3_changedColumn mc mw mn me 2 p1)]) (rest := []) ⟨hx, hb, hml, hown, hts⟩ (k_X3_merged l D cyI cyZ ((0 ||| 0) ||| 0) (f_X3_changedColumn mc mw mn me 1 p1) (f_X3_changedColumn mc mw mn me 2 p1)) (va_cwS 3 hts gX3_mergedColumn_X3_merged rfl rfl rfl (by decide +kernel) ⟨Nat.le_of_ble_eq_true rfl, Nat.le_of_ble_eq_true rfl⟩) (prS hG (hP.sub (ws' := []) [] rfl)) rfl rfl hl.1 rfl (lv_room (Nat.le_of_ble_eq_true rfl)) dX3_mergedColumn_58 ⟨Nat.zero_le _, Nat.zero_le _⟩) hS hP (fun H locs hP hS => ?_)
        have ef : f_X3_mergedColumn mc mw mn me p1 = f_X3_merged ((0 ||| 0) ||| 0) (f_X3_changedColumn mc mw mn me 1 p1) (f_X3_changedColumn mc mw mn me 2 p1) := by rw [f_X3_mergedColumn, if_pos c_6, if_pos c_20, if_pos c_35]
        exact W.iret (v := f_X3_merged ((0 ||| 0) ||| 0) (f_X3_changedColumn mc mw mn me 1 p1) (f_X3_changedColumn mc mw mn me 2 p1)) hx hb hr (fun t ht hW => ⟨⟨f_X3_merged ((0 ||| 0) ||| 0) (f_X3_changedColumn mc mw mn me 1 p1) (f_X3_changedColumn mc mw mn me 2 p1), (), rfl, ef.symm, trivial⟩, hS.F ht⟩) hS.2.2 dX3_mergedColumn_61
      · refine lv_iconst (v := 4) hx hb dX3_mergedColumn_38 (by decide) ?_
        refine lv_goto (tgt := 43) hx hb dX3_mergedColumn_39 (by decide) ?_
        refine lv_ior hx hb dX3_mergedColumn_43 ?_
        refine lv_istore_n (lv' := [(2, .int ((0 ||| 0) ||| 4)), (0, .ref (ad 0)), (1, .int p1)]) hx hb dX3_mergedColumn_44 rfl hl (by decide) rfl (fun ls hl => ?_)
        refine lv_iload_n hx hb dX3_mergedColumn_45 rfl (lv_at hl 0 rfl) ?_
        refine lv_aload_n hx hb dX3_mergedColumn_46 rfl (lv_at hl 1 rfl) ?_
        refine lv_iconst (v := 1) hx hb dX3_mergedColumn_47 (by decide) ?_
        refine lv_iload_n hx hb dX3_mergedColumn_48 rfl (lv_at hl 2 rfl) ?_
        refine pr_i (va_runV (As := [.int 1, .int p1]) (rest := [.int ((0 ||| 0) ||| 4)]) ⟨hx, hb, hml, hown, hts⟩ (k_X3_changedColumn l D cyI cyZ ad mc mw mn me mu mr mz mf mt 1 p1 (vi_mono (vp_in_nI (n := 1) (N := 2) (by decide) (by decide)) (by decide)) hi1) (cwV 2 hts gX3_mergedColumn_X3_changedColumn rfl rfl rfl (by decide +kernel) ⟨Nat.le_of_ble_eq_true rfl, Nat.le_of_ble_eq_true rfl⟩) (prV hG hP (ci := 3) rfl rfl rfl) rfl rfl hl.1 rfl (lv_room (Nat.le_of_ble_eq_true rfl)) dX3_mergedColumn_49 ⟨Nat.zero_le _, Nat.zero_le _⟩) hS hP (fun H locs hP hS => ?_)
        refine lv_aload_n hx hb dX3_mergedColumn_52 rfl (lv_at hl 1 rfl) ?_
        refine lv_iconst (v := 2) hx hb dX3_mergedColumn_53 (by decide) ?_
        refine lv_iload_n hx hb dX3_mergedColumn_54 rfl (lv_at hl 2 rfl) ?_
        refine pr_i (va_runV (As := [.int 2, .int p1]) (rest := [.int (f_X3_changedColumn mc mw mn me 1 p1), .int ((0 ||| 0) ||| 4)]) ⟨hx, hb, hml, hown, hts⟩ (k_X3_changedColumn l D cyI cyZ ad mc mw mn me mu mr mz mf mt 2 p1 (vi_mono (vp_in_nI (n := 2) (N := 3) (by decide) (by decide)) (by decide)) hi1) (cwV 2 hts gX3_mergedColumn_X3_changedColumn rfl rfl rfl (by decide +kernel) ⟨Nat.le_of_ble_eq_true rfl, Nat.le_of_ble_eq_true rfl⟩) (prV hG hP (ci := 3) rfl rfl rfl) rfl rfl hl.1 rfl (lv_room (Nat.le_of_ble_eq_true rfl)) dX3_mergedColumn_55 ⟨Nat.zero_le _, Nat.zero_le _⟩) hS hP (fun H locs hP hS => ?_)
        refine pr_i (va_runS (As := [.int ((0 ||| 0) ||| 4), .int (f_X3_changedColumn mc mw mn me 1 p1), .int (f_X3_changedColumn mc mw mn me 2 p1)]) (rest := []) ⟨hx, hb, hml, hown, hts⟩ (k_X3_merged l D cyI cyZ ((0 ||| 0) ||| 4) (f_X3_changedColumn mc mw mn me 1 p1) (f_X3_changedColumn mc mw mn me 2 p1)) (va_cwS 3 hts gX3_mergedColumn_X3_merged rfl rfl rfl (by decide +kernel) ⟨Nat.le_of_ble_eq_true rfl, Nat.le_of_ble_eq_true rfl⟩) (prS hG (hP.sub (ws' := []) [] rfl)) rfl rfl hl.1 rfl (lv_room (Nat.le_of_ble_eq_true rfl)) dX3_mergedColumn_58 ⟨Nat.zero_le _, Nat.zero_le _⟩) hS hP (fun H locs hP hS => ?_)
        have ef : f_X3_mergedColumn mc mw mn me p1 = f_X3_merged ((0 ||| 0) ||| 4) (f_X3_changedColumn mc mw mn me 1 p1) (f_X3_changedColumn mc mw mn me 2 p1) := by rw [f_X3_mergedColumn, if_pos c_6, if_pos c_20, if_neg c_35]
        exact W.iret (v := f_X3_merged ((0 ||| 0) ||| 4) (f_X3_changedColumn mc mw mn me 1 p1) (f_X3_changedColumn mc mw mn me 2 p1)) hx hb hr (fun t ht hW => ⟨⟨f_X3_merged ((0 ||| 0) ||| 4) (f_X3_changedColumn mc mw mn me 1 p1) (f_X3_changedColumn mc mw mn me 2 p1), (), rfl, ef.symm, trivial⟩, hS.F ht⟩) hS.2.2 dX3_mergedColumn_61
    · refine lv_iconst (v := 2) hx hb dX3_mergedColumn_23 (by decide) ?_
      refine lv_goto (tgt := 28) hx hb dX3_mergedColumn_24 (by decide) ?_
      refine lv_ior hx hb dX3_mergedColumn_28 ?_
      refine lv_aload_n hx hb dX3_mergedColumn_29 rfl (lv_at hl 0 rfl) ?_
      refine lv_iconst (v := 2) hx hb dX3_mergedColumn_30 (by decide) ?_
      refine lv_iload_n hx hb dX3_mergedColumn_31 rfl (lv_at hl 1 rfl) ?_
      refine pr_i (va_runV (As := [.int 2, .int p1]) (rest := [.int (0 ||| 2)]) ⟨hx, hb, hml, hown, hts⟩ (k_X3_hasColumn l D cyI cyZ ad mc mw mn me mu mr mz mf mt 2 p1 (vi_mono (vp_in_nI (n := 2) (N := 3) (by decide) (by decide)) (by decide))) (cwV 2 hts gX3_mergedColumn_X3_hasColumn rfl rfl rfl (by decide +kernel) ⟨Nat.le_of_ble_eq_true rfl, Nat.le_of_ble_eq_true rfl⟩) (prV hG hP (ci := 3) rfl rfl rfl) rfl rfl hl.1 rfl (lv_room (Nat.le_of_ble_eq_true rfl)) dX3_mergedColumn_32 ⟨Nat.zero_le _, Nat.zero_le _⟩) hS hP (fun H locs hP hS => ?_)
      refine lv_if_eq (tgt := 42) hx hb dX3_mergedColumn_35 (by decide) (fun c_35 => ?_) (fun c_35 => ?_)
      · refine lv_iconst (v := 0) hx hb dX3_mergedColumn_42 (by decide) ?_
        refine lv_ior hx hb dX3_mergedColumn_43 ?_
        refine lv_istore_n (lv' := [(2, .int ((0 ||| 2) ||| 0)), (0, .ref (ad 0)), (1, .int p1)]) hx hb dX3_mergedColumn_44 rfl hl (by decide) rfl (fun ls hl => ?_)
        refine lv_iload_n hx hb dX3_mergedColumn_45 rfl (lv_at hl 0 rfl) ?_
        refine lv_aload_n hx hb dX3_mergedColumn_46 rfl (lv_at hl 1 rfl) ?_
        refine lv_iconst (v := 1) hx hb dX3_mergedColumn_47 (by decide) ?_
        refine lv_iload_n hx hb dX3_mergedColumn_48 rfl (lv_at hl 2 rfl) ?_
        refine pr_i (va_runV (As := [.int 1, .int p1]) (rest := [.int ((0 ||| 2) ||| 0)]) ⟨hx, hb, hml, hown, hts⟩ (k_X3_changedColumn l D cyI cyZ ad mc mw mn me mu mr mz mf mt 1 p1 (vi_mono (vp_in_nI (n := 1) (N := 2) (by decide) (by decide)) (by decide)) hi1) (cwV 2 hts gX3_mergedColumn_X3_changedColumn rfl rfl rfl (by decide +kernel) ⟨Nat.le_of_ble_eq_true rfl, Nat.le_of_ble_eq_true rfl⟩) (prV hG hP (ci := 3) rfl rfl rfl) rfl rfl hl.1 rfl (lv_room (Nat.le_of_ble_eq_true rfl)) dX3_mergedColumn_49 ⟨Nat.zero_le _, Nat.zero_le _⟩) hS hP (fun H locs hP hS => ?_)
        refine lv_aload_n hx hb dX3_mergedColumn_52 rfl (lv_at hl 1 rfl) ?_
        refine lv_iconst (v := 2) hx hb dX3_mergedColumn_53 (by decide) ?_
        refine lv_iload_n hx hb dX3_mergedColumn_54 rfl (lv_at hl 2 rfl) ?_
        refine pr_i (va_runV (As := [.int 2, .int p1]) (rest := [.int (f_X3_changedColumn mc mw mn me 1 p1), .int ((0 ||| 2) ||| 0)]) ⟨hx, hb, hml, hown, hts⟩ (k_X3_changedColumn l D cyI cyZ ad mc mw mn me mu mr mz mf mt 2 p1 (vi_mono (vp_in_nI (n := 2) (N := 3) (by decide) (by decide)) (by decide)) hi1) (cwV 2 hts gX3_mergedColumn_X3_changedColumn rfl rfl rfl (by decide +kernel) ⟨Nat.le_of_ble_eq_true rfl, Nat.le_of_ble_eq_true rfl⟩) (prV hG hP (ci := 3) rfl rfl rfl) rfl rfl hl.1 rfl (lv_room (Nat.le_of_ble_eq_true rfl)) dX3_mergedColumn_55 ⟨Nat.zero_le _, Nat.zero_le _⟩) hS hP (fun H locs hP hS => ?_)
        refine pr_i (va_runS (As := [.int ((0 ||| 2) ||| 0), .int (f_X3_changedColumn mc mw mn me 1 p1), .int (f_X3_changedColumn mc mw mn me 2 p1)]) (rest := []) ⟨hx, hb, hml, hown, hts⟩ (k_X3_merged l D cyI cyZ ((0 ||| 2) ||| 0) (f_X3_changedColumn mc mw mn me 1 p1) (f_X3_changedColumn mc mw mn me 2 p1)) (va_cwS 3 hts gX3_mergedColumn_X3_merged rfl rfl rfl (by decide +kernel) ⟨Nat.le_of_ble_eq_true rfl, Nat.le_of_ble_eq_true rfl⟩) (prS hG (hP.sub (ws' := []) [] rfl)) rfl rfl hl.1 rfl (lv_room (Nat.le_of_ble_eq_true rfl)) dX3_mergedColumn_58 ⟨Nat.zero_le _, Nat.zero_le _⟩) hS hP (fun H locs hP hS => ?_)
        have ef : f_X3_mergedColumn mc mw mn me p1 = f_X3_merged ((0 ||| 2) ||| 0) (f_X3_changedColumn mc mw mn me 1 p1) (f_X3_changedColumn mc mw mn me 2 p1) := by rw [f_X3_mergedColumn, if_pos c_6, if_neg c_20, if_pos c_35]
        exact W.iret (v := f_X3_merged ((0 ||| 2) ||| 0) (f_X3_changedColumn mc mw mn me 1 p1) (f_X3_changedColumn mc mw mn me 2 p1)) hx hb hr (fun t ht hW => ⟨⟨f_X3_merged ((0 ||| 2) ||| 0) (f_X3_changedColumn mc mw mn me 1 p1) (f_X3_changedColumn mc mw mn me 2 p1), (), rfl, ef.symm, trivial⟩, hS.F ht⟩) hS.2.2 dX3_mergedColumn_61
      · refine lv_iconst (v := 4) hx hb dX3_mergedColumn_38 (by decide) ?_
        refine lv_goto (tgt := 43) hx hb dX3_mergedColumn_39 (by decide) ?_
        refine lv_ior hx hb dX3_mergedColumn_43 ?_
        refine lv_istore_n (lv' := [(2, .int ((0 ||| 2) ||| 4)), (0, .ref (ad 0)), (1, .int p1)]) hx hb dX3_mergedColumn_44 rfl hl (by decide) rfl (fun ls hl => ?_)
        refine lv_iload_n hx hb dX3_mergedColumn_45 rfl (lv_at hl 0 rfl) ?_
        refine lv_aload_n hx hb dX3_mergedColumn_46 rfl (lv_at hl 1 rfl) ?_
        refine lv_iconst (v := 1) hx hb dX3_mergedColumn_47 (by decide) ?_
        refine lv_iload_n hx hb dX3_mergedColumn_48 rfl (lv_at hl 2 rfl) ?_
        refine pr_i (va_runV (As := [.int 1, .int p1]) (rest := [.int ((0 ||| 2) ||| 4)]) ⟨hx, hb, hml, hown, hts⟩ (k_X3_changedColumn l D cyI cyZ ad mc mw mn me mu mr mz mf mt 1 p1 (vi_mono (vp_in_nI (n := 1) (N := 2) (by decide) (by decide)) (by decide)) hi1) (cwV 2 hts gX3_mergedColumn_X3_changedColumn rfl rfl rfl (by decide +kernel) ⟨Nat.le_of_ble_eq_true rfl, Nat.le_of_ble_eq_true rfl⟩) (prV hG hP (ci := 3) rfl rfl rfl) rfl rfl hl.1 rfl (lv_room (Nat.le_of_ble_eq_true rfl)) dX3_mergedColumn_49 ⟨Nat.zero_le _, Nat.zero_le _⟩) hS hP (fun H locs hP hS => ?_)
        refine lv_aload_n hx hb dX3_mergedColumn_52 rfl (lv_at hl 1 rfl) ?_
        refine lv_iconst (v := 2) hx hb dX3_mergedColumn_53 (by decide) ?_
        refine lv_iload_n hx hb dX3_mergedColumn_54 rfl (lv_at hl 2 rfl) ?_
        refine pr_i (va_runV (As := [.int 2, .int p1]) (rest := [.int (f_X3_changedColumn mc mw mn me 1 p1), .int ((0 ||| 2) ||| 4)]) ⟨hx, hb, hml, hown, hts⟩ (k_X3_changedColumn l D cyI cyZ ad mc mw mn me mu mr mz mf mt 2 p1 (vi_mono (vp_in_nI (n := 2) (N := 3) (by decide) (by decide)) (by decide)) hi1) (cwV 2 hts gX3_mergedColumn_X3_changedColumn rfl rfl rfl (by decide +kernel) ⟨Nat.le_of_ble_eq_true rfl, Nat.le_of_ble_eq_true rfl⟩) (prV hG hP (ci := 3) rfl rfl rfl) rfl rfl hl.1 rfl (lv_room (Nat.le_of_ble_eq_true rfl)) dX3_mergedColumn_55 ⟨Nat.zero_le _, Nat.zero_le _⟩) hS hP (fun H locs hP hS => ?_)
        refine pr_i (va_runS (As := [.int ((0 ||| 2) ||| 4), .int (f_X3_changedColumn mc mw mn me 1 p1), .int (f_X3_changedColumn mc mw mn me 2 p1)]) (rest := []) ⟨hx, hb, hml, hown, hts⟩ (k_X3_merged l D cyI cyZ ((0 ||| 2) ||| 4) (f_X3_changedColumn mc mw mn me 1 p1) (f_X3_changedColumn mc mw mn me 2 p1)) (va_cwS 3 hts gX3_mergedColumn_X3_merged rfl rfl rfl (by decide +kernel) ⟨Nat.le_of_ble_eq_true rfl, Nat.le_of_ble_eq_true rfl⟩) (prS hG (hP.sub (ws' := []) [] rfl)) rfl rfl hl.1 rfl (lv_room (Nat.le_of_ble_eq_true rfl)) dX3_mergedColumn_58 ⟨Nat.zero_le _, Nat.zero_le _⟩) hS hP (fun H locs hP hS => ?_)
        have ef : f_X3_mergedColumn mc mw mn me p1 = f_X3_merged ((0 ||| 2) ||| 4) (f_X3_changedColumn mc mw mn me 1 p1) (f_X3_changedColumn mc mw mn me 2 p1) := by rw [f_X3_mergedColumn, if_pos c_6, if_neg c_20, if_neg c_35]
        exact W.iret (v := f_X3_merged ((0 ||| 2) ||| 4) (f_X3_changedColumn mc mw mn me 1 p1) (f_X3_changedColumn mc mw mn me 2 p1)) hx hb hr (fun t ht hW => ⟨⟨f_X3_merged ((0 ||| 2) ||| 4) (f_X3_changedColumn mc mw mn me 1 p1) (f_X3_changedColumn mc mw mn me 2 p1), (), rfl, ef.symm, trivial⟩, hS.F ht⟩) hS.2.2 dX3_mergedColumn_61
  · refine lv_iconst (v := 1) hx hb dX3_mergedColumn_9 (by decide) ?_
    refine lv_goto (tgt := 14) hx hb dX3_mergedColumn_10 (by decide) ?_
    refine lv_aload_n hx hb dX3_mergedColumn_14 rfl (lv_at hl 0 rfl) ?_
    refine lv_iconst (v := 1) hx hb dX3_mergedColumn_15 (by decide) ?_
    refine lv_iload_n hx hb dX3_mergedColumn_16 rfl (lv_at hl 1 rfl) ?_
    refine pr_i (va_runV (As := [.int 1, .int p1]) (rest := [.int 1]) ⟨hx, hb, hml, hown, hts⟩ (k_X3_hasColumn l D cyI cyZ ad mc mw mn me mu mr mz mf mt 1 p1 (vi_mono (vp_in_nI (n := 1) (N := 2) (by decide) (by decide)) (by decide))) (cwV 2 hts gX3_mergedColumn_X3_hasColumn rfl rfl rfl (by decide +kernel) ⟨Nat.le_of_ble_eq_true rfl, Nat.le_of_ble_eq_true rfl⟩) (prV hG hP (ci := 3) rfl rfl rfl) rfl rfl hl.1 rfl (lv_room (Nat.le_of_ble_eq_true rfl)) dX3_mergedColumn_17 ⟨Nat.zero_le _, Nat.zero_le _⟩) hS hP (fun H locs hP hS => ?_)
    refine lv_if_eq (tgt := 27) hx hb dX3_mergedColumn_20 (by decide) (fun c_20 => ?_) (fun c_20 => ?_)
    · refine lv_iconst (v := 0) hx hb dX3_mergedColumn_27 (by decide) ?_
      refine lv_ior hx hb dX3_mergedColumn_28 ?_
      refine lv_aload_n hx hb dX3_mergedColumn_29 rfl (lv_at hl 0 rfl) ?_
      refine lv_iconst (v := 2) hx hb dX3_mergedColumn_30 (by decide) ?_
      refine lv_iload_n hx hb dX3_mergedColumn_31 rfl (lv_at hl 1 rfl) ?_
      refine pr_i (va_runV (As := [.int 2, .int p1]) (rest := [.int (1 ||| 0)]) ⟨hx, hb, hml, hown, hts⟩ (k_X3_hasColumn l D cyI cyZ ad mc mw mn me mu mr mz mf mt 2 p1 (vi_mono (vp_in_nI (n := 2) (N := 3) (by decide) (by decide)) (by decide))) (cwV 2 hts gX3_mergedColumn_X3_hasColumn rfl rfl rfl (by decide +kernel) ⟨Nat.le_of_ble_eq_true rfl, Nat.le_of_ble_eq_true rfl⟩) (prV hG hP (ci := 3) rfl rfl rfl) rfl rfl hl.1 rfl (lv_room (Nat.le_of_ble_eq_true rfl)) dX3_mergedColumn_32 ⟨Nat.zero_le _, Nat.zero_le _⟩) hS hP (fun H locs hP hS => ?_)
      refine lv_if_eq (tgt := 42) hx hb dX3_mergedColumn_35 (by decide) (fun c_35 => ?_) (fun c_35 => ?_)
      · refine lv_iconst (v := 0) hx hb dX3_mergedColumn_42 (by decide) ?_
        refine lv_ior hx hb dX3_mergedColumn_43 ?_
        refine lv_istore_n (lv' := [(2, .int ((1 ||| 0) ||| 0)), (0, .ref (ad 0)), (1, .int p1)]) hx hb dX3_mergedColumn_44 rfl hl (by decide) rfl (fun ls hl => ?_)
        refine lv_iload_n hx hb dX3_mergedColumn_45 rfl (lv_at hl 0 rfl) ?_
        refine lv_aload_n hx hb dX3_mergedColumn_46 rfl (lv_at hl 1 rfl) ?_
        refine lv_iconst (v := 1) hx hb dX3_mergedColumn_47 (by decide) ?_
        refine lv_iload_n hx hb dX3_mergedColumn_48 rfl (lv_at hl 2 rfl) ?_
        refine pr_i (va_runV (As := [.int 1, .int p1]) (rest := [.int ((1 ||| 0) ||| 0)]) ⟨hx, hb, hml, hown, hts⟩ (k_X3_changedColumn l D cyI cyZ ad mc mw mn me mu mr mz mf mt 1 p1 (vi_mono (vp_in_nI (n := 1) (N := 2) (by decide) (by decide)) (by decide)) hi1) (cwV 2 hts gX3_mergedColumn_X3_changedColumn rfl rfl rfl (by decide +kernel) ⟨Nat.le_of_ble_eq_true rfl, Nat.le_of_ble_eq_true rfl⟩) (prV hG hP (ci := 3) rfl rfl rfl) rfl rfl hl.1 rfl (lv_room (Nat.le_of_ble_eq_true rfl)) dX3_mergedColumn_49 ⟨Nat.zero_le _, Nat.zero_le _⟩) hS hP (fun H locs hP hS => ?_)
        refine lv_aload_n hx hb dX3_mergedColumn_52 rfl (lv_at hl 1 rfl) ?_
        refine lv_iconst (v := 2) hx hb dX3_mergedColumn_53 (by decide) ?_
        refine lv_iload_n hx hb dX3_mergedColumn_54 rfl (lv_at hl 2 rfl) ?_
        refine pr_i (va_runV (As := [.int 2, .int p1]) (rest := [.int (f_X3_changedColumn mc mw mn me 1 p1), .int ((1 ||| 0) ||| 0)]) ⟨hx, hb, hml, hown, hts⟩ (k_X3_changedColumn l D cyI cyZ ad mc mw mn me mu mr mz mf mt 2 p1 (vi_mono (vp_in_nI (n := 2) (N := 3) (by decide) (by decide)) (by decide)) hi1) (cwV 2 hts gX3_mergedColumn_X3_changedColumn rfl rfl rfl (by decide +kernel) ⟨Nat.le_of_ble_eq_true rfl, Nat.le_of_ble_eq_true rfl⟩) (prV hG hP (ci := 3) rfl rfl rfl) rfl rfl hl.1 rfl (lv_room (Nat.le_of_ble_eq_true rfl)) dX3_mergedColumn_55 ⟨Nat.zero_le _, Nat.zero_le _⟩) hS hP (fun H locs hP hS => ?_)
        refine pr_i (va_runS (As := [.int ((1 ||| 0) ||| 0), .int (f_X3_changedColumn mc mw mn me 1 p1), .int (f_X3_changedColumn mc mw mn me 2 p1)]) (rest := []) ⟨hx, hb, hml, hown, hts⟩ (k_X3_merged l D cyI cyZ ((1 ||| 0) ||| 0) (f_X3_changedColumn mc mw mn me 1 p1) (f_X3_changedColumn mc mw mn me 2 p1)) (va_cwS 3 hts gX3_mergedColumn_X3_merged rfl rfl rfl (by decide +kernel) ⟨Nat.le_of_ble_eq_true rfl, Nat.le_of_ble_eq_true rfl⟩) (prS hG (hP.sub (ws' := []) [] rfl)) rfl rfl hl.1 rfl (lv_room (Nat.le_of_ble_eq_true rfl)) dX3_mergedColumn_58 ⟨Nat.zero_le _, Nat.zero_le _⟩) hS hP (fun H locs hP hS => ?_)
        have ef : f_X3_mergedColumn mc mw mn me p1 = f_X3_merged ((1 ||| 0) ||| 0) (f_X3_changedColumn mc mw mn me 1 p1) (f_X3_changedColumn mc mw mn me 2 p1) := by rw [f_X3_mergedColumn, if_neg c_6, if_pos c_20, if_pos c_35]
        exact W.iret (v := f_X3_merged ((1 ||| 0) ||| 0) (f_X3_changedColumn mc mw mn me 1 p1) (f_X3_changedColumn mc mw mn me 2 p1)) hx hb hr (fun t ht hW => ⟨⟨f_X3_merged ((1 ||| 0) ||| 0) (f_X3_changedColumn mc mw mn me 1 p1) (f_X3_changedColumn mc mw mn me 2 p1), (), rfl, ef.symm, trivial⟩, hS.F ht⟩) hS.2.2 dX3_mergedColumn_61
      · refine lv_iconst (v := 4) hx hb dX3_mergedColumn_38 (by decide) ?_
        refine lv_goto (tgt := 43) hx hb dX3_mergedColumn_39 (by decide) ?_
        refine lv_ior hx hb dX3_mergedColumn_43 ?_
        refine lv_istore_n (lv' := [(2, .int ((1 ||| 0) ||| 4)), (0, .ref (ad 0)), (1, .int p1)]) hx hb dX3_mergedColumn_44 rfl hl (by decide) rfl (fun ls hl => ?_)
        refine lv_iload_n hx hb dX3_mergedColumn_45 rfl (lv_at hl 0 rfl) ?_
        refine lv_aload_n hx hb dX3_mergedColumn_46 rfl (lv_at hl 1 rfl) ?_
        refine lv_iconst (v := 1) hx hb dX3_mergedColumn_47 (by decide) ?_
        refine lv_iload_n hx hb dX3_mergedColumn_48 rfl (lv_at hl 2 rfl) ?_
        refine pr_i (va_runV (As := [.int 1, .int p1]) (rest := [.int ((1 ||| 0) ||| 4)]) ⟨hx, hb, hml, hown, hts⟩ (k_X3_changedColumn l D cyI cyZ ad mc mw mn me mu mr mz mf mt 1 p1 (vi_mono (vp_in_nI (n := 1) (N := 2) (by decide) (by decide)) (by decide)) hi1) (cwV 2 hts gX3_mergedColumn_X3_changedColumn rfl rfl rfl (by decide +kernel) ⟨Nat.le_of_ble_eq_true rfl, Nat.le_of_ble_eq_true rfl⟩) (prV hG hP (ci := 3) rfl rfl rfl) rfl rfl hl.1 rfl (lv_room (Nat.le_of_ble_eq_true rfl)) dX3_mergedColumn_49 ⟨Nat.zero_le _, Nat.zero_le _⟩) hS hP (fun H locs hP hS => ?_)
        refine lv_aload_n hx hb dX3_mergedColumn_52 rfl (lv_at hl 1 rfl) ?_
        refine lv_iconst (v := 2) hx hb dX3_mergedColumn_53 (by decide) ?_
        refine lv_iload_n hx hb dX3_mergedColumn_54 rfl (lv_at hl 2 rfl) ?_
        refine pr_i (va_runV (As := [.int 2, .int p1]) (rest := [.int (f_X3_changedColumn mc mw mn me 1 p1), .int ((1 ||| 0) ||| 4)]) ⟨hx, hb, hml, hown, hts⟩ (k_X3_changedColumn l D cyI cyZ ad mc mw mn me mu mr mz mf mt 2 p1 (vi_mono (vp_in_nI (n := 2) (N := 3) (by decide) (by decide)) (by decide)) hi1) (cwV 2 hts gX3_mergedColumn_X3_changedColumn rfl rfl rfl (by decide +kernel) ⟨Nat.le_of_ble_eq_true rfl, Nat.le_of_ble_eq_true rfl⟩) (prV hG hP (ci := 3) rfl rfl rfl) rfl rfl hl.1 rfl (lv_room (Nat.le_of_ble_eq_true rfl)) dX3_mergedColumn_55 ⟨Nat.zero_le _, Nat.zero_le _⟩) hS hP (fun H locs hP hS => ?_)
        refine pr_i (va_runS (As := [.int ((1 ||| 0) ||| 4), .int (f_X3_changedColumn mc mw mn me 1 p1), .int (f_X3_changedColumn mc mw mn me 2 p1)]) (rest := []) ⟨hx, hb, hml, hown, hts⟩ (k_X3_merged l D cyI cyZ ((1 ||| 0) ||| 4) (f_X3_changedColumn mc mw mn me 1 p1) (f_X3_changedColumn mc mw mn me 2 p1)) (va_cwS 3 hts gX3_mergedColumn_X3_merged rfl rfl rfl (by decide +kernel) ⟨Nat.le_of_ble_eq_true rfl, Nat.le_of_ble_eq_true rfl⟩) (prS hG (hP.sub (ws' := []) [] rfl)) rfl rfl hl.1 rfl (lv_room (Nat.le_of_ble_eq_true rfl)) dX3_mergedColumn_58 ⟨Nat.zero_le _, Nat.zero_le _⟩) hS hP (fun H locs hP hS => ?_)
        have ef : f_X3_mergedColumn mc mw mn me p1 = f_X3_merged ((1 ||| 0) ||| 4) (f_X3_changedColumn mc mw mn me 1 p1) (f_X3_changedColumn mc mw mn me 2 p1) := by rw [f_X3_mergedColumn, if_neg c_6, if_pos c_20, if_neg c_35]
        exact W.iret (v := f_X3_merged ((1 ||| 0) ||| 4) (f_X3_changedColumn mc mw mn me 1 p1) (f_X3_changedColumn mc mw mn me 2 p1)) hx hb hr (fun t ht hW => ⟨⟨f_X3_merged ((1 ||| 0) ||| 4) (f_X3_changedColumn mc mw mn me 1 p1) (f_X3_changedColumn mc mw mn me 2 p1), (), rfl, ef.symm, trivial⟩, hS.F ht⟩) hS.2.2 dX3_mergedColumn_61
    · refine lv_iconst (v := 2) hx hb dX3_mergedColumn_23 (by decide) ?_
      refine lv_goto (tgt := 28) hx hb dX3_mergedColumn_24 (by decide) ?_
      refine lv_ior hx hb dX3_mergedColumn_28 ?_
      refine lv_aload_n hx hb dX3_mergedColumn_29 rfl (lv_at hl 0 rfl) ?_
      refine lv_iconst (v := 2) hx hb dX3_mergedColumn_30 (by decide) ?_
      refine lv_iload_n hx hb dX3_mergedColumn_31 rfl (lv_at hl 1 rfl) ?_
      refine pr_i (va_runV (As := [.int 2, .int p1]) (rest := [.int (1 ||| 2)]) ⟨hx, hb, hml, hown, hts⟩ (k_X3_hasColumn l D cyI cyZ ad mc mw mn me mu mr mz mf mt 2 p1 (vi_mono (vp_in_nI (n := 2) (N := 3) (by decide) (by decide)) (by decide))) (cwV 2 hts gX3_mergedColumn_X3_hasColumn rfl rfl rfl (by decide +kernel) ⟨Nat.le_of_ble_eq_true rfl, Nat.le_of_ble_eq_true rfl⟩) (prV hG hP (ci := 3) rfl rfl rfl) rfl rfl hl.1 rfl (lv_room (Nat.le_of_ble_eq_true rfl)) dX3_mergedColumn_32 ⟨Nat.zero_le _, Nat.zero_le _⟩) hS hP (fun H locs hP hS => ?_)
      refine lv_if_eq (tgt := 42) hx hb dX3_mergedColumn_35 (by decide) (fun c_35 => ?_) (fun c_35 => ?_)
      · refine lv_iconst (v := 0) hx hb dX3_mergedColumn_42 (by decide) ?_
        refine lv_ior hx hb dX3_mergedColumn_43 ?_
        refine lv_istore_n (lv' := [(2, .int ((1 ||| 2) ||| 0)), (0, .ref (ad 0)), (1, .int p1)]) hx hb dX3_mergedColumn_44 rfl hl (by decide) rfl (fun ls hl => ?_)
        refine lv_iload_n hx hb dX3_mergedColumn_45 rfl (lv_at hl 0 rfl) ?_
        refine lv_aload_n hx hb dX3_mergedColumn_46 rfl (lv_at hl 1 rfl) ?_
        refine lv_iconst (v := 1) hx hb dX3_mergedColumn_47 (by decide) ?_
        refine lv_iload_n hx hb dX3_mergedColumn_48 rfl (lv_at hl 2 rfl) ?_
        refine pr_i (va_runV (As := [.int 1, .int p1]) (rest := [.int ((1 ||| 2) ||| 0)]) ⟨hx, hb, hml, hown, hts⟩ (k_X3_changedColumn l D cyI cyZ ad mc mw mn me mu mr mz mf mt 1 p1 (vi_mono (vp_in_nI (n := 1) (N := 2) (by decide) (by decide)) (by decide)) hi1) (cwV 2 hts gX3_mergedColumn_X3_changedColumn rfl rfl rfl (by decide +kernel) ⟨Nat.le_of_ble_eq_true rfl, Nat.le_of_ble_eq_true rfl⟩) (prV hG hP (ci := 3) rfl rfl rfl) rfl rfl hl.1 rfl (lv_room (Nat.le_of_ble_eq_true rfl)) dX3_mergedColumn_49 ⟨Nat.zero_le _, Nat.zero_le _⟩) hS hP (fun H locs hP hS => ?_)
        refine lv_aload_n hx hb dX3_mergedColumn_52 rfl (lv_at hl 1 rfl) ?_
        refine lv_iconst (v := 2) hx hb dX3_mergedColumn_53 (by decide) ?_
        refine lv_iload_n hx hb dX3_mergedColumn_54 rfl (lv_at hl 2 rfl) ?_
        refine pr_i (va_runV (As := [.int 2, .int p1]) (rest := [.int (f_X3_changedColumn mc mw mn me 1 p1), .int ((1 ||| 2) ||| 0)]) ⟨hx, hb, hml, hown, hts⟩ (k_X3_changedColumn l D cyI cyZ ad mc mw mn me mu mr mz mf mt 2 p1 (vi_mono (vp_in_nI (n := 2) (N := 3) (by decide) (by decide)) (by decide)) hi1) (cwV 2 hts gX3_mergedColumn_X3_changedColumn rfl rfl rfl (by decide +kernel) ⟨Nat.le_of_ble_eq_true rfl, Nat.le_of_ble_eq_true rfl⟩) (prV hG hP (ci := 3) rfl rfl rfl) rfl rfl hl.1 rfl (lv_room (Nat.le_of_ble_eq_true rfl)) dX3_mergedColumn_55 ⟨Nat.zero_le _, Nat.zero_le _⟩) hS hP (fun H locs hP hS => ?_)
        refine pr_i (va_runS (As := [.int ((1 ||| 2) ||| 0), .int (f_X3_changedColumn mc mw mn me 1 p1), .int (f_X3_changedColumn mc mw mn me 2 p1)]) (rest := []) ⟨hx, hb, hml, hown, hts⟩ (k_X3_merged l D cyI cyZ ((1 ||| 2) ||| 0) (f_X3_changedColumn mc mw mn me 1 p1) (f_X3_changedColumn mc mw mn me 2 p1)) (va_cwS 3 hts gX3_mergedColumn_X3_merged rfl rfl rfl (by decide +kernel) ⟨Nat.le_of_ble_eq_true rfl, Nat.le_of_ble_eq_true rfl⟩) (prS hG (hP.sub (ws' := []) [] rfl)) rfl rfl hl.1 rfl (lv_room (Nat.le_of_ble_eq_true rfl)) dX3_mergedColumn_58 ⟨Nat.zero_le _, Nat.zero_le _⟩) hS hP (fun H locs hP hS => ?_)
        have ef : f_X3_mergedColumn mc mw mn me p1 = f_X3_merged ((1 ||| 2) ||| 0) (f_X3_changedColumn mc mw mn me 1 p1) (f_X3_changedColumn mc mw mn me 2 p1) := by rw [f_X3_mergedColumn, if_neg c_6, if_neg c_20, if_pos c_35]
        exact W.iret (v := f_X3_merged ((1 ||| 2) ||| 0) (f_X3_changedColumn mc mw mn me 1 p1) (f_X3_changedColumn mc mw mn me 2 p1)) hx hb hr (fun t ht hW => ⟨⟨f_X3_merged ((1 ||| 2) ||| 0) (f_X3_changedColumn mc mw mn me 1 p1) (f_X3_changedColumn mc mw mn me 2 p1), (), rfl, ef.symm, trivial⟩, hS.F ht⟩) hS.2.2 dX3_mergedColumn_61
      · refine lv_iconst (v := 4) hx hb dX3_mergedColumn_38 (by decide) ?_
        refine lv_goto (tgt := 43) hx hb dX3_mergedColumn_39 (by decide) ?_
        refine lv_ior hx hb dX3_mergedColumn_43 ?_
        refine lv_istore_n (lv' := [(2, .int ((1 ||| 2) ||| 4)), (0, .ref (ad 0)), (1, .int p1)]) hx hb dX3_mergedColumn_44 rfl hl (by decide) rfl (fun ls hl => ?_)
        refine lv_iload_n hx hb dX3_mergedColumn_45 rfl (lv_at hl 0 rfl) ?_
        refine lv_aload_n hx hb dX3_mergedColumn_46 rfl (lv_at hl 1 rfl) ?_
        refine lv_iconst (v := 1) hx hb dX3_mergedColumn_47 (by decide) ?_
        refine lv_iload_n hx hb dX3_mergedColumn_48 rfl (lv_at hl 2 rfl) ?_
        refine pr_i (va_runV (As := [.int 1, .int p1]) (rest := [.int ((1 ||| 2) ||| 4)]) ⟨hx, hb, hml, hown, hts⟩ (k_X3_changedColumn l D cyI cyZ ad mc mw mn me mu mr mz mf mt 1 p1 (vi_mono (vp_in_nI (n := 1) (N := 2) (by decide) (by decide)) (by decide)) hi1) (cwV 2 hts gX3_mergedColumn_X3_changedColumn rfl rfl rfl (by decide +kernel) ⟨Nat.le_of_ble_eq_true rfl, Nat.le_of_ble_eq_true rfl⟩) (prV hG hP (ci := 3) rfl rfl rfl) rfl rfl hl.1 rfl (lv_room (Nat.le_of_ble_eq_true rfl)) dX3_mergedColumn_49 ⟨Nat.zero_le _, Nat.zero_le _⟩) hS hP (fun H locs hP hS => ?_)
        refine lv_aload_n hx hb dX3_mergedColumn_52 rfl (lv_at hl 1 rfl) ?_
        refine lv_iconst (v := 2) hx hb dX3_mergedColumn_53 (by decide) ?_
        refine lv_iload_n hx hb dX3_mergedColumn_54 rfl (lv_at hl 2 rfl) ?_
        refine pr_i (va_runV (As := [.int 2, .int p1]) (rest := [.int (f_X3_changedColumn mc mw mn me 1 p1), .int ((1 ||| 2) ||| 4)]) ⟨hx, hb, hml, hown, hts⟩ (k_X3_changedColumn l D cyI cyZ ad mc mw mn me mu mr mz mf mt 2 p1 (vi_mono (vp_in_nI (n := 2) (N := 3) (by decide) (by decide)) (by decide)) hi1) (cwV 2 hts gX3_mergedColumn_X3_changedColumn rfl rfl rfl (by decide +kernel) ⟨Nat.le_of_ble_eq_true rfl, Nat.le_of_ble_eq_true rfl⟩) (prV hG hP (ci := 3) rfl rfl rfl) rfl rfl hl.1 rfl (lv_room (Nat.le_of_ble_eq_true rfl)) dX3_mergedColumn_55 ⟨Nat.zero_le _, Nat.zero_le _⟩) hS hP (fun H locs hP hS => ?_)
        refine pr_i (va_runS (As := [.int ((1 ||| 2) ||| 4), .int (f_X3_changedColumn mc mw mn me 1 p1), .int (f_X3_changedColumn mc mw mn me 2 p1)]) (rest := []) ⟨hx, hb, hml, hown, hts⟩ (k_X3_merged l D cyI cyZ ((1 ||| 2) ||| 4) (f_X3_changedColumn mc mw mn me 1 p1) (f_X3_changedColumn mc mw mn me 2 p1)) (va_cwS 3 hts gX3_mergedColumn_X3_merged rfl rfl rfl (by decide +kernel) ⟨Nat.le_of_ble_eq_true rfl, Nat.le_of_ble_eq_true rfl⟩) (prS hG (hP.sub (ws' := []) [] rfl)) rfl rfl hl.1 rfl (lv_room (Nat.le_of_ble_eq_true rfl)) dX3_mergedColumn_58 ⟨Nat.zero_le _, Nat.zero_le _⟩) hS hP (fun H locs hP hS => ?_)
        have ef : f_X3_mergedColumn mc mw mn me p1 = f_X3_merged ((1 ||| 2) ||| 4) (f_X3_changedColumn mc mw mn me 1 p1) (f_X3_changedColumn mc mw mn me 2 p1) := by rw [f_X3_mergedColumn, if_neg c_6, if_neg c_20, if_neg c_35]
        exact W.iret (v := f_X3_merged ((1 ||| 2) ||| 4) (f_X3_changedColumn mc mw mn me 1 p1) (f_X3_changedColumn mc mw mn me 2 p1)) hx hb hr (fun t ht hW => ⟨⟨f_X3_merged ((1 ||| 2) ||| 4) (f_X3_changedColumn mc mw mn me 1 p1) (f_X3_changedColumn mc mw mn me 2 p1), (), rfl, ef.symm, trivial⟩, hS.F ht⟩) hS.2.2 dX3_mergedColumn_61
def f_X3_mergedRow (mc : Nat → Int32) (mw : Nat → Int32) (me : Nat → Int32) (p1 : Int32) : Int32 := if (f_X3_hasRow mw 0 p1) = 0 then (if (f_X3_hasRow mw 1 p1) = 0 then (if (f_X3_hasRow mw 2 p1) = 0 then f_X3_merged ((0 ||| 0) ||| 0) (f_X3_changedRow mc mw me 1 p1) (f_X3_changedRow mc mw me 2 p1) else f_X3_merged ((0 ||| 0) ||| 4) (f_X3_changedRow mc mw me 1 p1) (f_X3_changedRow mc mw me 2 p1)) else (if (f_X3_hasRow mw 2 p1) = 0 then f_X3_merged ((0 ||| 2) ||| 0) (f_X3_changedRow mc mw me 1 p1) (f_X3_changedRow mc mw me 2 p1) else f_X3_merged ((0 ||| 2) ||| 4) (f_X3_changedRow mc mw me 1 p1) (f_X3_changedRow mc mw me 2 p1))) else (if (f_X3_hasRow mw 1 p1) = 0 then (if (f_X3_hasRow mw 2 p1) = 0 then f_X3_merged ((1 ||| 0) ||| 0) (f_X3_changedRow mc mw me 1 p1) (f_X3_changedRow mc mw me 2 p1) else f_X3_merged ((1 ||| 0) ||| 4) (f_X3_changedRow mc mw me 1 p1) (f_X3_changedRow mc mw me 2 p1)) else (if (f_X3_hasRow mw 2 p1) = 0 then f_X3_merged ((1 ||| 2) ||| 0) (f_X3_changedRow mc mw me 1 p1) (f_X3_changedRow mc mw me 2 p1) else f_X3_merged ((1 ||| 2) ||| 4) (f_X3_changedRow mc mw me 1 p1) (f_X3_changedRow mc mw me 2 p1)))
theorem uin_X3_mergedRow_X3 : ∀ w ∈ wsX30, w ∈ wsX3_mergedRow := fun _ h => List.mem_cons_of_mem _ (List.mem_append_right _ h)
set_option maxHeartbeats 4000000 in
set_option maxRecDepth 100000 in
theorem k_X3_mergedRow (l : Launch) (D : va_G) (cyI cyZ : ClassId) (ad : Nat → Nat) (mc : Nat → Int32) (mw : Nat → Int32) (mn : Nat → Int32) (me : Nat → Int32) (mu : Nat → Int32) (mr : Nat → Int32) (mz : Kr) (mf : Int32) (mt : Int32) (p1 : Int32) (hi1 : vp_in p1 24) : Met l yX3_mergedRow wsX3_mergedRow ({ frames := 4, cells := 0, slots := 0, locals := 92 } : Room) (pcP D cyI cyZ [.ref (ad 0), .int p1] (wN cyI cyZ ad mc mw mn me mu mr mz mf mt)) (qI (f_X3_mergedRow mc mw me p1)) 0 0 nA := by
  refine Met.ofW (cc := cX3_mergedRow) (maxL := 3) (ret := (some .int)) (by decide) rfl ?_
  intro p e s m args below meth c s₁ B hml hv
  obtain ⟨rfl, hP, hG⟩ := hv
  have hx := B.exec
  have hb := B.bytes
  have hr := B.returns
  have hts := atoms_spec (ws := wsX3_mergedRow) B.pre
  have hown : s.vm.findClass RX3 = some m.cls := findClass_of_methodNamed B.named
  have hlocks := B.notSynchronized
  have hS : va_S nA s.heap s.heap [] := va_S.rf
  have hl := lv_entry ([.ref (ad 0), .int p1]) (n := 3) (Nat.le_of_ble_eq_true rfl)
  rw [lg_entry_eq]
  generalize (lg_sl ([.ref (ad 0), .int p1]) ++ List.replicate (3 - (lg_sl ([.ref (ad 0), .int p1])).length) Slot.unset).toArray = ls at hl ⊢
  have hl : lv_has ls 3 [(0, .ref (ad 0)), (1, .int p1)] := hl
  have hP : va_P D vwCl (wN cyI cyZ ad mc mw mn me mu mr mz mf mt) s.heap := hP
  refine lv_aload_n hx hb dX3_mergedRow_0 rfl (lv_at hl 0 rfl) ?_
  refine lv_iconst (v := 0) hx hb dX3_mergedRow_1 (by decide) ?_
  refine lv_iload_n hx hb dX3_mergedRow_2 rfl (lv_at hl 1 rfl) ?_
  refine pr_i (va_runV (As := [.int 0, .int p1]) (rest := []) ⟨hx, hb, hml, hown, hts⟩ (k_X3_hasRow l D cyI cyZ ad mc mw mn me mu mr mz mf mt 0 p1 (vi_mono (vp_in_nI (n := 0) (N := 1) (by decide) (by decide)) (by decide))) (cwV 2 hts gX3_mergedRow_X3_hasRow rfl rfl rfl (by decide +kernel) ⟨Nat.le_of_ble_eq_true rfl, Nat.le_of_ble_eq_true rfl⟩) (prV hG hP (ci := 3) rfl rfl rfl) rfl rfl hl.1 rfl (lv_room (Nat.le_of_ble_eq_true rfl)) dX3_mergedRow_3 ⟨Nat.zero_le _, Nat.zero_le _⟩) hS hP (fun H locs hP hS => ?_)
  refine lv_if_eq (tgt := 13) hx hb dX3_mergedRow_6 (by decide) (fun c_6 => ?_) (fun c_6 => ?_)
  · refine lv_iconst (v := 0) hx hb dX3_mergedRow_13 (by decide) ?_
    refine lv_aload_n hx hb dX3_mergedRow_14 rfl (lv_at hl 0 rfl) ?_
    refine lv_iconst (v := 1) hx hb dX3_mergedRow_15 (by decide) ?_
    refine lv_iload_n hx hb dX3_mergedRow_16 rfl (lv_at hl 1 rfl) ?_
    refine pr_i (va_runV (As := [.int 1, .int p1]) (rest := [.int 0]) ⟨hx, hb, hml, hown, hts⟩ (k_X3_hasRow l D cyI cyZ ad mc mw mn me mu mr mz mf mt 1 p1 (vi_mono (vp_in_nI (n := 1) (N := 2) (by decide) (by decide)) (by decide))) (cwV 2 hts gX3_mergedRow_X3_hasRow rfl rfl rfl (by decide +kernel) ⟨Nat.le_of_ble_eq_true rfl, Nat.le_of_ble_eq_true rfl⟩) (prV hG hP (ci := 3) rfl rfl rfl) rfl rfl hl.1 rfl (lv_room (Nat.le_of_ble_eq_true rfl)) dX3_mergedRow_17 ⟨Nat.zero_le _, Nat.zero_le _⟩) hS hP (fun H locs hP hS => ?_)
    refine lv_if_eq (tgt := 27) hx hb dX3_mergedRow_20 (by decide) (fun c_20 => ?_) (fun c_20 => ?_)
    · refine lv_iconst (v := 0) hx hb dX3_mergedRow_27 (by decide) ?_
      refine lv_ior hx hb dX3_mergedRow_28 ?_
      refine lv_aload_n hx hb dX3_mergedRow_29 rfl (lv_at hl 0 rfl) ?_
      refine lv_iconst (v := 2) hx hb dX3_mergedRow_30 (by decide) ?_
      refine lv_iload_n hx hb dX3_mergedRow_31 rfl (lv_at hl 1 rfl) ?_
      refine pr_i (va_runV (As := [.int 2, .int p1]) (rest := [.int (0 ||| 0)]) ⟨hx, hb, hml, hown, hts⟩ (k_X3_hasRow l D cyI cyZ ad mc mw mn me mu mr mz mf mt 2 p1 (vi_mono (vp_in_nI (n := 2) (N := 3) (by decide) (by decide)) (by decide))) (cwV 2 hts gX3_mergedRow_X3_hasRow rfl rfl rfl (by decide +kernel) ⟨Nat.le_of_ble_eq_true rfl, Nat.le_of_ble_eq_true rfl⟩) (prV hG hP (ci := 3) rfl rfl rfl) rfl rfl hl.1 rfl (lv_room (Nat.le_of_ble_eq_true rfl)) dX3_mergedRow_32 ⟨Nat.zero_le _, Nat.zero_le _⟩) hS hP (fun H locs hP hS => ?_)
      refine lv_if_eq (tgt := 42) hx hb dX3_mergedRow_35 (by decide) (fun c_35 => ?_) (fun c_35 => ?_)
      · refine lv_iconst (v := 0) hx hb dX3_mergedRow_42 (by decide) ?_
        refine lv_ior hx hb dX3_mergedRow_43 ?_
        refine lv_istore_n (lv' := [(2, .int ((0 ||| 0) ||| 0)), (0, .ref (ad 0)), (1, .int p1)]) hx hb dX3_mergedRow_44 rfl hl (by decide) rfl (fun ls hl => ?_)
        refine lv_iload_n hx hb dX3_mergedRow_45 rfl (lv_at hl 0 rfl) ?_
        refine lv_aload_n hx hb dX3_mergedRow_46 rfl (lv_at hl 1 rfl) ?_
        refine lv_iconst (v := 1) hx hb dX3_mergedRow_47 (by decide) ?_
        refine lv_iload_n hx hb dX3_mergedRow_48 rfl (lv_at hl 2 rfl) ?_
        refine pr_i (va_runV (As := [.int 1, .int p1]) (rest := [.int ((0 ||| 0) ||| 0)]) ⟨hx, hb, hml, hown, hts⟩ (k_X3_changedRow l D cyI cyZ ad mc mw mn me mu mr mz mf mt 1 p1 (vi_mono (vp_in_nI (n := 1) (N := 2) (by decide) (by decide)) (by decide)) hi1) (cwV 2 hts gX3_mergedRow_X3_changedRow rfl rfl rfl (by decide +kernel) ⟨Nat.le_of_ble_eq_true rfl, Nat.le_of_ble_eq_true rfl⟩) (prV hG hP (ci := 3) rfl rfl rfl) rfl rfl hl.1 rfl (lv_room (Nat.le_of_ble_eq_true rfl)) dX3_mergedRow_49 ⟨Nat.zero_le _, Nat.zero_le _⟩) hS hP (fun H locs hP hS => ?_)
        refine lv_aload_n hx hb dX3_mergedRow_52 rfl (lv_at hl 1 rfl) ?_
        refine lv_iconst (v := 2) hx hb dX3_mergedRow_53 (by decide) ?_
        refine lv_iload_n hx hb dX3_mergedRow_54 rfl (lv_at hl 2 rfl) ?_
        refine pr_i (va_runV (As := [.int 2, .int p1]) (rest := [.int (f_X3_changedRow mc mw me 1 p1), .int ((0 ||| 0) ||| 0)]) ⟨hx, hb, hml, hown, hts⟩ (k_X3_changedRow l D cyI cyZ ad mc mw mn me mu mr mz mf mt 2 p1 (vi_mono (vp_in_nI (n := 2) (N := 3) (by decide) (by decide)) (by decide)) hi1) (cwV 2 hts gX3_mergedRow_X3_changedRow rfl rfl rfl (by decide +kernel) ⟨Nat.le_of_ble_eq_true rfl, Nat.le_of_ble_eq_true rfl⟩) (prV hG hP (ci := 3) rfl rfl rfl) rfl rfl hl.1 rfl (lv_room (Nat.le_of_ble_eq_true rfl)) dX3_mergedRow_55 ⟨Nat.zero_le _, Nat.zero_le _⟩) hS hP (fun H locs hP hS => ?_)
        refine pr_i (va_runS (As := [.int ((0 ||| 0) ||| 0), .int (f_X3_changedRow mc mw me 1 p1), .int (f_X3_changedRow mc mw me 2 p1)]) (rest := []) ⟨hx, hb, hml, hown, hts⟩ (k_X3_merged l D cyI cyZ ((0 ||| 0) ||| 0) (f_X3_changedRow mc mw me 1 p1) (f_X3_changedRow mc mw me 2 p1)) (va_cwS 3 hts gX3_mergedRow_X3_merged rfl rfl rfl (by decide +kernel) ⟨Nat.le_of_ble_eq_true rfl, Nat.le_of_ble_eq_true rfl⟩) (prS hG (hP.sub (ws' := []) [] rfl)) rfl rfl hl.1 rfl (lv_room (Nat.le_of_ble_eq_true rfl)) dX3_mergedRow_58 ⟨Nat.zero_le _, Nat.zero_le _⟩) hS hP (fun H locs hP hS => ?_)
        have ef : f_X3_mergedRow mc mw me p1 = f_X3_merged ((0 ||| 0) ||| 0) (f_X3_changedRow mc mw me 1 p1) (f_X3_changedRow mc mw me 2 p1) := by rw [f_X3_mergedRow, if_pos c_6, if_pos c_20, if_pos c_35]
        exact W.iret (v := f_X3_merged ((0 ||| 0) ||| 0) (f_X3_changedRow mc mw me 1 p1) (f_X3_changedRow mc mw me 2 p1)) hx hb hr (fun t ht hW => ⟨⟨f_X3_merged ((0 ||| 0) ||| 0) (f_X3_changedRow mc mw me 1 p1) (f_X3_changedRow mc mw me 2 p1), (), rfl, ef.symm, trivial⟩, hS.F ht⟩) hS.2.2 dX3_mergedRow_61
      · refine lv_iconst (v := 4) hx hb dX3_mergedRow_38 (by decide) ?_
        refine lv_goto (tgt := 43) hx hb dX3_mergedRow_39 (by decide) ?_
        refine lv_ior hx hb dX3_mergedRow_43 ?_
        refine lv_istore_n (lv' := [(2, .int ((0 ||| 0) ||| 4)), (0, .ref (ad 0)), (1, .int p1)]) hx hb dX3_mergedRow_44 rfl hl (by decide) rfl (fun ls hl => ?_)
        refine lv_iload_n hx hb dX3_mergedRow_45 rfl (lv_at hl 0 rfl) ?_
        refine lv_aload_n hx hb dX3_mergedRow_46 rfl (lv_at hl 1 rfl) ?_
        refine lv_iconst (v := 1) hx hb dX3_mergedRow_47 (by decide) ?_
        refine lv_iload_n hx hb dX3_mergedRow_48 rfl (lv_at hl 2 rfl) ?_
        refine pr_i (va_runV (As := [.int 1, .int p1]) (rest := [.int ((0 ||| 0) ||| 4)]) ⟨hx, hb, hml, hown, hts⟩ (k_X3_changedRow l D cyI cyZ ad mc mw mn me mu mr mz mf mt 1 p1 (vi_mono (vp_in_nI (n := 1) (N := 2) (by decide) (by decide)) (by decide)) hi1) (cwV 2 hts gX3_mergedRow_X3_changedRow rfl rfl rfl (by decide +kernel) ⟨Nat.le_of_ble_eq_true rfl, Nat.le_of_ble_eq_true rfl⟩) (prV hG hP (ci := 3) rfl rfl rfl) rfl rfl hl.1 rfl (lv_room (Nat.le_of_ble_eq_true rfl)) dX3_mergedRow_49 ⟨Nat.zero_le _, Nat.zero_le _⟩) hS hP (fun H locs hP hS => ?_)
        refine lv_aload_n hx hb dX3_mergedRow_52 rfl (lv_at hl 1 rfl) ?_
        refine lv_iconst (v := 2) hx hb dX3_mergedRow_53 (by decide) ?_
        refine lv_iload_n hx hb dX3_mergedRow_54 rfl (lv_at hl 2 rfl) ?_
        refine pr_i (va_runV (As := [.int 2, .int p1]) (rest := [.int (f_X3_changedRow mc mw me 1 p1), .int ((0 ||| 0) ||| 4)]) ⟨hx, hb, hml, hown, hts⟩ (k_X3_changedRow l D cyI cyZ ad mc mw mn me mu mr mz mf mt 2 p1 (vi_mono (vp_in_nI (n := 2) (N := 3) (by decide) (by decide)) (by decide)) hi1) (cwV 2 hts gX3_mergedRow_X3_changedRow rfl rfl rfl (by decide +kernel) ⟨Nat.le_of_ble_eq_true rfl, Nat.le_of_ble_eq_true rfl⟩) (prV hG hP (ci := 3) rfl rfl rfl) rfl rfl hl.1 rfl (lv_room (Nat.le_of_ble_eq_true rfl)) dX3_mergedRow_55 ⟨Nat.zero_le _, Nat.zero_le _⟩) hS hP (fun H locs hP hS => ?_)
        refine pr_i (va_runS (As := [.int ((0 ||| 0) ||| 4), .int (f_X3_changedRow mc mw me 1 p1), .int (f_X3_changedRow mc mw me 2 p1)]) (rest := []) ⟨hx, hb, hml, hown, hts⟩ (k_X3_merged l D cyI cyZ ((0 ||| 0) ||| 4) (f_X3_changedRow mc mw me 1 p1) (f_X3_changedRow mc mw me 2 p1)) (va_cwS 3 hts gX3_mergedRow_X3_merged rfl rfl rfl (by decide +kernel) ⟨Nat.le_of_ble_eq_true rfl, Nat.le_of_ble_eq_true rfl⟩) (prS hG (hP.sub (ws' := []) [] rfl)) rfl rfl hl.1 rfl (lv_room (Nat.le_of_ble_eq_true rfl)) dX3_mergedRow_58 ⟨Nat.zero_le _, Nat.zero_le _⟩) hS hP (fun H locs hP hS => ?_)
        have ef : f_X3_mergedRow mc mw me p1 = f_X3_merged ((0 ||| 0) ||| 4) (f_X3_changedRow mc mw me 1 p1) (f_X3_changedRow mc mw me 2 p1) := by rw [f_X3_mergedRow, if_pos c_6, if_pos c_20, if_neg c_35]
        exact W.iret (v := f_X3_merged ((0 ||| 0) ||| 4) (f_X3_changedRow mc mw me 1 p1) (f_X3_changedRow mc mw me 2 p1)) hx hb hr (fun t ht hW => ⟨⟨f_X3_merged ((0 ||| 0) ||| 4) (f_X3_changedRow mc mw me 1 p1) (f_X3_changedRow mc mw me 2 p1), (), rfl, ef.symm, trivial⟩, hS.F ht⟩) hS.2.2 dX3_mergedRow_61
    · refine lv_iconst (v := 2) hx hb dX3_mergedRow_23 (by decide) ?_
      refine lv_goto (tgt := 28) hx hb dX3_mergedRow_24 (by decide) ?_
      refine lv_ior hx hb dX3_mergedRow_28 ?_
      refine lv_aload_n hx hb dX3_mergedRow_29 rfl (lv_at hl 0 rfl) ?_
      refine lv_iconst (v := 2) hx hb dX3_mergedRow_30 (by decide) ?_
      refine lv_iload_n hx hb dX3_mergedRow_31 rfl (lv_at hl 1 rfl) ?_
      refine pr_i (va_runV (As := [.int 2, .int p1]) (rest := [.int (0 ||| 2)]) ⟨hx, hb, hml, hown, hts⟩ (k_X3_hasRow l D cyI cyZ ad mc mw mn me mu mr mz mf mt 2 p1 (vi_mono (vp_in_nI (n := 2) (N := 3) (by decide) (by decide)) (by decide))) (cwV 2 hts gX3_mergedRow_X3_hasRow rfl rfl rfl (by decide +kernel) ⟨Nat.le_of_ble_eq_true rfl, Nat.le_of_ble_eq_true rfl⟩) (prV hG hP (ci := 3) rfl rfl rfl) rfl rfl hl.1 rfl (lv_room (Nat.le_of_ble_eq_true rfl)) dX3_mergedRow_32 ⟨Nat.zero_le _, Nat.zero_le _⟩) hS hP (fun H locs hP hS => ?_)
      refine lv_if_eq (tgt := 42) hx hb dX3_mergedRow_35 (by decide) (fun c_35 => ?_) (fun c_35 => ?_)
      · refine lv_iconst (v := 0) hx hb dX3_mergedRow_42 (by decide) ?_
        refine lv_ior hx hb dX3_mergedRow_43 ?_
        refine lv_istore_n (lv' := [(2, .int ((0 ||| 2) ||| 0)), (0, .ref (ad 0)), (1, .int p1)]) hx hb dX3_mergedRow_44 rfl hl (by decide) rfl (fun ls hl => ?_)
        refine lv_iload_n hx hb dX3_mergedRow_45 rfl (lv_at hl 0 rfl) ?_
        refine lv_aload_n hx hb dX3_mergedRow_46 rfl (lv_at hl 1 rfl) ?_
        refine lv_iconst (v := 1) hx hb dX3_mergedRow_47 (by decide) ?_
        refine lv_iload_n hx hb dX3_mergedRow_48 rfl (lv_at hl 2 rfl) ?_
        refine pr_i (va_runV (As := [.int 1, .int p1]) (rest := [.int ((0 ||| 2) ||| 0)]) ⟨hx, hb, hml, hown, hts⟩ (k_X3_changedRow l D cyI cyZ ad mc mw mn me mu mr mz mf mt 1 p1 (vi_mono (vp_in_nI (n := 1) (N := 2) (by decide) (by decide)) (by decide)) hi1) (cwV 2 hts gX3_mergedRow_X3_changedRow rfl rfl rfl (by decide +kernel) ⟨Nat.le_of_ble_eq_true rfl, Nat.le_of_ble_eq_true rfl⟩) (prV hG hP (ci := 3) rfl rfl rfl) rfl rfl hl.1 rfl (lv_room (Nat.le_of_ble_eq_true rfl)) dX3_mergedRow_49 ⟨Nat.zero_le _, Nat.zero_le _⟩) hS hP (fun H locs hP hS => ?_)
        refine lv_aload_n hx hb dX3_mergedRow_52 rfl (lv_at hl 1 rfl) ?_
        refine lv_iconst (v := 2) hx hb dX3_mergedRow_53 (by decide) ?_
        refine lv_iload_n hx hb dX3_mergedRow_54 rfl (lv_at hl 2 rfl) ?_
        refine pr_i (va_runV (As := [.int 2, .int p1]) (rest := [.int (f_X3_changedRow mc mw me 1 p1), .int ((0 ||| 2) ||| 0)]) ⟨hx, hb, hml, hown, hts⟩ (k_X3_changedRow l D cyI cyZ ad mc mw mn me mu mr mz mf mt 2 p1 (vi_mono (vp_in_nI (n := 2) (N := 3) (by decide) (by decide)) (by decide)) hi1) (cwV 2 hts gX3_mergedRow_X3_changedRow rfl rfl rfl (by decide +kernel) ⟨Nat.le_of_ble_eq_true rfl, Nat.le_of_ble_eq_true rfl⟩) (prV hG hP (ci := 3) rfl rfl rfl) rfl rfl hl.1 rfl (lv_room (Nat.le_of_ble_eq_true rfl)) dX3_mergedRow_55 ⟨Nat.zero_le _, Nat.zero_le _⟩) hS hP (fun H locs hP hS => ?_)
        refine pr_i (va_runS (As := [.int ((0 ||| 2) ||| 0), .int (f_X3_changedRow mc mw me 1 p1), .int (f_X3_changedRow mc mw me 2 p1)]) (rest := []) ⟨hx, hb, hml, hown, hts⟩ (k_X3_merged l D cyI cyZ ((0 ||| 2) ||| 0) (f_X3_changedRow mc mw me 1 p1) (f_X3_changedRow mc mw me 2 p1)) (va_cwS 3 hts gX3_mergedRow_X3_merged rfl rfl rfl (by decide +kernel) ⟨Nat.le_of_ble_eq_true rfl, Nat.le_of_ble_eq_true rfl⟩) (prS hG (hP.sub (ws' := []) [] rfl)) rfl rfl hl.1 rfl (lv_room (Nat.le_of_ble_eq_true rfl)) dX3_mergedRow_58 ⟨Nat.zero_le _, Nat.zero_le _⟩) hS hP (fun H locs hP hS => ?_)
        have ef : f_X3_mergedRow mc mw me p1 = f_X3_merged ((0 ||| 2) ||| 0) (f_X3_changedRow mc mw me 1 p1) (f_X3_changedRow mc mw me 2 p1) := by rw [f_X3_mergedRow, if_pos c_6, if_neg c_20, if_pos c_35]
        exact W.iret (v := f_X3_merged ((0 ||| 2) ||| 0) (f_X3_changedRow mc mw me 1 p1) (f_X3_changedRow mc mw me 2 p1)) hx hb hr (fun t ht hW => ⟨⟨f_X3_merged ((0 ||| 2) ||| 0) (f_X3_changedRow mc mw me 1 p1) (f_X3_changedRow mc mw me 2 p1), (), rfl, ef.symm, trivial⟩, hS.F ht⟩) hS.2.2 dX3_mergedRow_61
      · refine lv_iconst (v := 4) hx hb dX3_mergedRow_38 (by decide) ?_
        refine lv_goto (tgt := 43) hx hb dX3_mergedRow_39 (by decide) ?_
        refine lv_ior hx hb dX3_mergedRow_43 ?_
        refine lv_istore_n (lv' := [(2, .int ((0 ||| 2) ||| 4)), (0, .ref (ad 0)), (1, .int p1)]) hx hb dX3_mergedRow_44 rfl hl (by decide) rfl (fun ls hl => ?_)
        refine lv_iload_n hx hb dX3_mergedRow_45 rfl (lv_at hl 0 rfl) ?_
        refine lv_aload_n hx hb dX3_mergedRow_46 rfl (lv_at hl 1 rfl) ?_
        refine lv_iconst (v := 1) hx hb dX3_mergedRow_47 (by decide) ?_
        refine lv_iload_n hx hb dX3_mergedRow_48 rfl (lv_at hl 2 rfl) ?_
        refine pr_i (va_runV (As := [.int 1, .int p1]) (rest := [.int ((0 ||| 2) ||| 4)]) ⟨hx, hb, hml, hown, hts⟩ (k_X3_changedRow l D cyI cyZ ad mc mw mn me mu mr mz mf mt 1 p1 (vi_mono (vp_in_nI (n := 1) (N := 2) (by decide) (by decide)) (by decide)) hi1) (cwV 2 hts gX3_mergedRow_X3_changedRow rfl rfl rfl (by decide +kernel) ⟨Nat.le_of_ble_eq_true rfl, Nat.le_of_ble_eq_true rfl⟩) (prV hG hP (ci := 3) rfl rfl rfl) rfl rfl hl.1 rfl (lv_room (Nat.le_of_ble_eq_true rfl)) dX3_mergedRow_49 ⟨Nat.zero_le _, Nat.zero_le _⟩) hS hP (fun H locs hP hS => ?_)
        refine lv_aload_n hx hb dX3_mergedRow_52 rfl (lv_at hl 1 rfl) ?_
        refine lv_iconst (v := 2) hx hb dX3_mergedRow_53 (by decide) ?_
        refine lv_iload_n hx hb dX3_mergedRow_54 rfl (lv_at hl 2 rfl) ?_
        refine pr_i (va_runV (As := [.int 2, .int p1]) (rest := [.int (f_X3_changedRow mc mw me 1 p1), .int ((0 ||| 2) ||| 4)]) ⟨hx, hb, hml, hown, hts⟩ (k_X3_changedRow l D cyI cyZ ad mc mw mn me mu mr mz mf mt 2 p1 (vi_mono (vp_in_nI (n := 2) (N := 3) (by decide) (by decide)) (by decide)) hi1) (cwV 2 hts gX3_mergedRow_X3_changedRow rfl rfl rfl (by decide +kernel) ⟨Nat.le_of_ble_eq_true rfl, Nat.le_of_ble_eq_true rfl⟩) (prV hG hP (ci := 3) rfl rfl rfl) rfl rfl hl.1 rfl (lv_room (Nat.le_of_ble_eq_true rfl)) dX3_mergedRow_55 ⟨Nat.zero_le _, Nat.zero_le _⟩) hS hP (fun H locs hP hS => ?_)
        refine pr_i (va_runS (As := [.int ((0 ||| 2) ||| 4), .int (f_X3_changedRow mc mw me 1 p1), .int (f_X3_changedRow mc mw me 2 p1)]) (rest := []) ⟨hx, hb, hml, hown, hts⟩ (k_X3_merged l D cyI cyZ ((0 ||| 2) ||| 4) (f_X3_changedRow mc mw me 1 p1) (f_X3_changedRow mc mw me 2 p1)) (va_cwS 3 hts gX3_mergedRow_X3_merged rfl rfl rfl (by decide +kernel) ⟨Nat.le_of_ble_eq_true rfl, Nat.le_of_ble_eq_true rfl⟩) (prS hG (hP.sub (ws' := []) [] rfl)) rfl rfl hl.1 rfl (lv_room (Nat.le_of_ble_eq_true rfl)) dX3_mergedRow_58 ⟨Nat.zero_le _, Nat.zero_le _⟩) hS hP (fun H locs hP hS => ?_)
        have ef : f_X3_mergedRow mc mw me p1 = f_X3_merged ((0 ||| 2) ||| 4) (f_X3_changedRow mc mw me 1 p1) (f_X3_changedRow mc mw me 2 p1) := by rw [f_X3_mergedRow, if_pos c_6, if_neg c_20, if_neg c_35]
        exact W.iret (v := f_X3_merged ((0 ||| 2) ||| 4) (f_X3_changedRow mc mw me 1 p1) (f_X3_changedRow mc mw me 2 p1)) hx hb hr (fun t ht hW => ⟨⟨f_X3_merged ((0 ||| 2) ||| 4) (f_X3_changedRow mc mw me 1 p1) (f_X3_changedRow mc mw me 2 p1), (), rfl, ef.symm, trivial⟩, hS.F ht⟩) hS.2.2 dX3_mergedRow_61
  · refine lv_iconst (v := 1) hx hb dX3_mergedRow_9 (by decide) ?_
    refine lv_goto (tgt := 14) hx hb dX3_mergedRow_10 (by decide) ?_
    refine lv_aload_n hx hb dX3_mergedRow_14 rfl (lv_at hl 0 rfl) ?_
    refine lv_iconst (v := 1) hx hb dX3_mergedRow_15 (by decide) ?_
    refine lv_iload_n hx hb dX3_mergedRow_16 rfl (lv_at hl 1 rfl) ?_
    refine pr_i (va_runV (As := [.int 1, .int p1]) (rest := [.int 1]) ⟨hx, hb, hml, hown, hts⟩ (k_X3_hasRow l D cyI cyZ ad mc mw mn me mu mr mz mf mt 1 p1 (vi_mono (vp_in_nI (n := 1) (N := 2) (by decide) (by decide)) (by decide))) (cwV 2 hts gX3_mergedRow_X3_hasRow rfl rfl rfl (by decide +kernel) ⟨Nat.le_of_ble_eq_true rfl, Nat.le_of_ble_eq_true rfl⟩) (prV hG hP (ci := 3) rfl rfl rfl) rfl rfl hl.1 rfl (lv_room (Nat.le_of_ble_eq_true rfl)) dX3_mergedRow_17 ⟨Nat.zero_le _, Nat.zero_le _⟩) hS hP (fun H locs hP hS => ?_)
    refine lv_if_eq (tgt := 27) hx hb dX3_mergedRow_20 (by decide) (fun c_20 => ?_) (fun c_20 => ?_)
    · refine lv_iconst (v := 0) hx hb dX3_mergedRow_27 (by decide) ?_
      refine lv_ior hx hb dX3_mergedRow_28 ?_
      refine lv_aload_n hx hb dX3_mergedRow_29 rfl (lv_at hl 0 rfl) ?_
      refine lv_iconst (v := 2) hx hb dX3_mergedRow_30 (by decide) ?_
      refine lv_iload_n hx hb dX3_mergedRow_31 rfl (lv_at hl 1 rfl) ?_
      refine pr_i (va_runV (As := [.int 2, .int p1]) (rest := [.int (1 ||| 0)]) ⟨hx, hb, hml, hown, hts⟩ (k_X3_hasRow l D cyI cyZ ad mc mw mn me mu mr mz mf mt 2 p1 (vi_mono (vp_in_nI (n := 2) (N := 3) (by decide) (by decide)) (by decide))) (cwV 2 hts gX3_mergedRow_X3_hasRow rfl rfl rfl (by decide +kernel) ⟨Nat.le_of_ble_eq_true rfl, Nat.le_of_ble_eq_true rfl⟩) (prV hG hP (ci := 3) rfl rfl rfl) rfl rfl hl.1 rfl (lv_room (Nat.le_of_ble_eq_true rfl)) dX3_mergedRow_32 ⟨Nat.zero_le _, Nat.zero_le _⟩) hS hP (fun H locs hP hS => ?_)
      refine lv_if_eq (tgt := 42) hx hb dX3_mergedRow_35 (by decide) (fun c_35 => ?_) (fun c_35 => ?_)
      · refine lv_iconst (v := 0) hx hb dX3_mergedRow_42 (by decide) ?_
        refine lv_ior hx hb dX3_mergedRow_43 ?_
        refine lv_istore_n (lv' := [(2, .int ((1 ||| 0) ||| 0)), (0, .ref (ad 0)), (1, .int p1)]) hx hb dX3_mergedRow_44 rfl hl (by decide) rfl (fun ls hl => ?_)
        refine lv_iload_n hx hb dX3_mergedRow_45 rfl (lv_at hl 0 rfl) ?_
        refine lv_aload_n hx hb dX3_mergedRow_46 rfl (lv_at hl 1 rfl) ?_
        refine lv_iconst (v := 1) hx hb dX3_mergedRow_47 (by decide) ?_
        refine lv_iload_n hx hb dX3_mergedRow_48 rfl (lv_at hl 2 rfl) ?_
        refine pr_i (va_runV (As := [.int 1, .int p1]) (rest := [.int ((1 ||| 0) ||| 0)]) ⟨hx, hb, hml, hown, hts⟩ (k_X3_changedRow l D cyI cyZ ad mc mw mn me mu mr mz mf mt 1 p1 (vi_mono (vp_in_nI (n := 1) (N := 2) (by decide) (by decide)) (by decide)) hi1) (cwV 2 hts gX3_mergedRow_X3_changedRow rfl rfl rfl (by decide +kernel) ⟨Nat.le_of_ble_eq_true rfl, Nat.le_of_ble_eq_true rfl⟩) (prV hG hP (ci := 3) rfl rfl rfl) rfl rfl hl.1 rfl (lv_room (Nat.le_of_ble_eq_true rfl)) dX3_mergedRow_49 ⟨Nat.zero_le _, Nat.zero_le _⟩) hS hP (fun H locs hP hS => ?_)
        refine lv_aload_n hx hb dX3_mergedRow_52 rfl (lv_at hl 1 rfl) ?_
        refine lv_iconst (v := 2) hx hb dX3_mergedRow_53 (by decide) ?_
        refine lv_iload_n hx hb dX3_mergedRow_54 rfl (lv_at hl 2 rfl) ?_
        refine pr_i (va_runV (As := [.int 2, .int p1]) (rest := [.int (f_X3_changedRow mc mw me 1 p1), .int ((1 ||| 0) ||| 0)]) ⟨hx, hb, hml, hown, hts⟩ (k_X3_changedRow l D cyI cyZ ad mc mw mn me mu mr mz mf mt 2 p1 (vi_mono (vp_in_nI (n := 2) (N := 3) (by decide) (by decide)) (by decide)) hi1) (cwV 2 hts gX3_mergedRow_X3_changedRow rfl rfl rfl (by decide +kernel) ⟨Nat.le_of_ble_eq_true rfl, Nat.le_of_ble_eq_true rfl⟩) (prV hG hP (ci := 3) rfl rfl rfl) rfl rfl hl.1 rfl (lv_room (Nat.le_of_ble_eq_true rfl)) dX3_mergedRow_55 ⟨Nat.zero_le _, Nat.zero_le _⟩) hS hP (fun H locs hP hS => ?_)
        refine pr_i (va_runS (As := [.int ((1 ||| 0) ||| 0), .int (f_X3_changedRow mc mw me 1 p1), .int (f_X3_changedRow mc mw me 2 p1)]) (rest := []) ⟨hx, hb, hml, hown, hts⟩ (k_X3_merged l D cyI cyZ ((1 ||| 0) ||| 0) (f_X3_changedRow mc mw me 1 p1) (f_X3_changedRow mc mw me 2 p1)) (va_cwS 3 hts gX3_mergedRow_X3_merged rfl rfl rfl (by decide +kernel) ⟨Nat.le_of_ble_eq_true rfl, Nat.le_of_ble_eq_true rfl⟩) (prS hG (hP.sub (ws' := []) [] rfl)) rfl rfl hl.1 rfl (lv_room (Nat.le_of_ble_eq_true rfl)) dX3_mergedRow_58 ⟨Nat.zero_le _, Nat.zero_le _⟩) hS hP (fun H locs hP hS => ?_)
        have ef : f_X3_mergedRow mc mw me p1 = f_X3_merged ((1 ||| 0) ||| 0) (f_X3_changedRow mc mw me 1 p1) (f_X3_changedRow mc mw me 2 p1) := by rw [f_X3_mergedRow, if_neg c_6, if_pos c_20, if_pos c_35]
        exact W.iret (v := f_X3_merged ((1 ||| 0) ||| 0) (f_X3_changedRow mc mw me 1 p1) (f_X3_changedRow mc mw me 2 p1)) hx hb hr (fun t ht hW => ⟨⟨f_X3_merged ((1 ||| 0) ||| 0) (f_X3_changedRow mc mw me 1 p1) (f_X3_changedRow mc mw me 2 p1), (), rfl, ef.symm, trivial⟩, hS.F ht⟩) hS.2.2 dX3_mergedRow_61
      · refine lv_iconst (v := 4) hx hb dX3_mergedRow_38 (by decide) ?_
        refine lv_goto (tgt := 43) hx hb dX3_mergedRow_39 (by decide) ?_
        refine lv_ior hx hb dX3_mergedRow_43 ?_
        refine lv_istore_n (lv' := [(2, .int ((1 ||| 0) ||| 4)), (0, .ref (ad 0)), (1, .int p1)]) hx hb dX3_mergedRow_44 rfl hl (by decide) rfl (fun ls hl => ?_)
        refine lv_iload_n hx hb dX3_mergedRow_45 rfl (lv_at hl 0 rfl) ?_
        refine lv_aload_n hx hb dX3_mergedRow_46 rfl (lv_at hl 1 rfl) ?_
        refine lv_iconst (v := 1) hx hb dX3_mergedRow_47 (by decide) ?_
        refine lv_iload_n hx hb dX3_mergedRow_48 rfl (lv_at hl 2 rfl) ?_
        refine pr_i (va_runV (As := [.int 1, .int p1]) (rest := [.int ((1 ||| 0) ||| 4)]) ⟨hx, hb, hml, hown, hts⟩ (k_X3_changedRow l D cyI cyZ ad mc mw mn me mu mr mz mf mt 1 p1 (vi_mono (vp_in_nI (n := 1) (N := 2) (by decide) (by decide)) (by decide)) hi1) (cwV 2 hts gX3_mergedRow_X3_changedRow rfl rfl rfl (by decide +kernel) ⟨Nat.le_of_ble_eq_true rfl, Nat.le_of_ble_eq_true rfl⟩) (prV hG hP (ci := 3) rfl rfl rfl) rfl rfl hl.1 rfl (lv_room (Nat.le_of_ble_eq_true rfl)) dX3_mergedRow_49 ⟨Nat.zero_le _, Nat.zero_le _⟩) hS hP (fun H locs hP hS => ?_)
        refine lv_aload_n hx hb dX3_mergedRow_52 rfl (lv_at hl 1 rfl) ?_
        refine lv_iconst (v := 2) hx hb dX3_mergedRow_53 (by decide) ?_
        refine lv_iload_n hx hb dX3_mergedRow_54 rfl (lv_at hl 2 rfl) ?_
        refine pr_i (va_runV (As := [.int 2, .int p1]) (rest := [.int (f_X3_changedRow mc mw me 1 p1), .int ((1 ||| 0) ||| 4)]) ⟨hx, hb, hml, hown, hts⟩ (k_X3_changedRow l D cyI cyZ ad mc mw mn me mu mr mz mf mt 2 p1 (vi_mono (vp_in_nI (n := 2) (N := 3) (by decide) (by decide)) (by decide)) hi1) (cwV 2 hts gX3_mergedRow_X3_changedRow rfl rfl rfl (by decide +kernel) ⟨Nat.le_of_ble_eq_true rfl, Nat.le_of_ble_eq_true rfl⟩) (prV hG hP (ci := 3) rfl rfl rfl) rfl rfl hl.1 rfl (lv_room (Nat.le_of_ble_eq_true rfl)) dX3_mergedRow_55 ⟨Nat.zero_le _, Nat.zero_le _⟩) hS hP (fun H locs hP hS => ?_)
        refine pr_i (va_runS (As := [.int ((1 ||| 0) ||| 4), .int (f_X3_changedRow mc mw me 1 p1), .int (f_X3_changedRow mc mw me 2 p1)]) (rest := []) ⟨hx, hb, hml, hown, hts⟩ (k_X3_merged l D cyI cyZ ((1 ||| 0) ||| 4) (f_X3_changedRow mc mw me 1 p1) (f_X3_changedRow mc mw me 2 p1)) (va_cwS 3 hts gX3_mergedRow_X3_merged rfl rfl rfl (by decide +kernel) ⟨Nat.le_of_ble_eq_true rfl, Nat.le_of_ble_eq_true rfl⟩) (prS hG (hP.sub (ws' := []) [] rfl)) rfl rfl hl.1 rfl (lv_room (Nat.le_of_ble_eq_true rfl)) dX3_mergedRow_58 ⟨Nat.zero_le _, Nat.zero_le _⟩) hS hP (fun H locs hP hS => ?_)
        have ef : f_X3_mergedRow mc mw me p1 = f_X3_merged ((1 ||| 0) ||| 4) (f_X3_changedRow mc mw me 1 p1) (f_X3_changedRow mc mw me 2 p1) := by rw [f_X3_mergedRow, if_neg c_6, if_pos c_20, if_neg c_35]
        exact W.iret (v := f_X3_merged ((1 ||| 0) ||| 4) (f_X3_changedRow mc mw me 1 p1) (f_X3_changedRow mc mw me 2 p1)) hx hb hr (fun t ht hW => ⟨⟨f_X3_merged ((1 ||| 0) ||| 4) (f_X3_changedRow mc mw me 1 p1) (f_X3_changedRow mc mw me 2 p1), (), rfl, ef.symm, trivial⟩, hS.F ht⟩) hS.2.2 dX3_mergedRow_61
    · refine lv_iconst (v := 2) hx hb dX3_mergedRow_23 (by decide) ?_
      refine lv_goto (tgt := 28) hx hb dX3_mergedRow_24 (by decide) ?_
      refine lv_ior hx hb dX3_mergedRow_28 ?_
      refine lv_aload_n hx hb dX3_mergedRow_29 rfl (lv_at hl 0 rfl) ?_
      refine lv_iconst (v := 2) hx hb dX3_mergedRow_30 (by decide) ?_
      refine lv_iload_n hx hb dX3_mergedRow_31 rfl (lv_at hl 1 rfl) ?_
      refine pr_i (va_runV (As := [.int 2, .int p1]) (rest := [.int (1 ||| 2)]) ⟨hx, hb, hml, hown, hts⟩ (k_X3_hasRow l D cyI cyZ ad mc mw mn me mu mr mz mf mt 2 p1 (vi_mono (vp_in_nI (n := 2) (N := 3) (by decide) (by decide)) (by decide))) (cwV 2 hts gX3_mergedRow_X3_hasRow rfl rfl rfl (by decide +kernel) ⟨Nat.le_of_ble_eq_true rfl, Nat.le_of_ble_eq_true rfl⟩) (prV hG hP (ci := 3) rfl rfl rfl) rfl rfl hl.1 rfl (lv_room (Nat.le_of_ble_eq_true rfl)) dX3_mergedRow_32 ⟨Nat.zero_le _, Nat.zero_le _⟩) hS hP (fun H locs hP hS => ?_)
      refine lv_if_eq (tgt := 42) hx hb dX3_mergedRow_35 (by decide) (fun c_35 => ?_) (fun c_35 => ?_)
      · refine lv_iconst (v := 0) hx hb dX3_mergedRow_42 (by decide) ?_
        refine lv_ior hx hb dX3_mergedRow_43 ?_
        refine lv_istore_n (lv' := [(2, .int ((1 ||| 2) ||| 0)), (0, .ref (ad 0)), (1, .int p1)]) hx hb dX3_mergedRow_44 rfl hl (by decide) rfl (fun ls hl => ?_)
        refine lv_iload_n hx hb dX3_mergedRow_45 rfl (lv_at hl 0 rfl) ?_
        refine lv_aload_n hx hb dX3_mergedRow_46 rfl (lv_at hl 1 rfl) ?_
        refine lv_iconst (v := 1) hx hb dX3_mergedRow_47 (by decide) ?_
        refine lv_iload_n hx hb dX3_mergedRow_48 rfl (lv_at hl 2 rfl) ?_
        refine pr_i (va_runV (As := [.int 1, .int p1]) (rest := [.int ((1 ||| 2) ||| 0)]) ⟨hx, hb, hml, hown, hts⟩ (k_X3_changedRow l D cyI cyZ ad mc mw mn me mu mr mz mf mt 1 p1 (vi_mono (vp_in_nI (n := 1) (N := 2) (by decide) (by decide)) (by decide)) hi1) (cwV 2 hts gX3_mergedRow_X3_changedRow rfl rfl rfl (by decide +kernel) ⟨Nat.le_of_ble_eq_true rfl, Nat.le_of_ble_eq_true rfl⟩) (prV hG hP (ci := 3) rfl rfl rfl) rfl rfl hl.1 rfl (lv_room (Nat.le_of_ble_eq_true rfl)) dX3_mergedRow_49 ⟨Nat.zero_le _, Nat.zero_le _⟩) hS hP (fun H locs hP hS => ?_)
        refine lv_aload_n hx hb dX3_mergedRow_52 rfl (lv_at hl 1 rfl) ?_
        refine lv_iconst (v := 2) hx hb dX3_mergedRow_53 (by decide) ?_
        refine lv_iload_n hx hb dX3_mergedRow_54 rfl (lv_at hl 2 rfl) ?_
        refine pr_i (va_runV (As := [.int 2, .int p1]) (rest := [.int (f_X3_changedRow mc mw me 1 p1), .int ((1 ||| 2) ||| 0)]) ⟨hx, hb, hml, hown, hts⟩ (k_X3_changedRow l D cyI cyZ ad mc mw mn me mu mr mz mf mt 2 p1 (vi_mono (vp_in_nI (n := 2) (N := 3) (by decide) (by decide)) (by decide)) hi1) (cwV 2 hts gX3_mergedRow_X3_changedRow rfl rfl rfl (by decide +kernel) ⟨Nat.le_of_ble_eq_true rfl, Nat.le_of_ble_eq_true rfl⟩) (prV hG hP (ci := 3) rfl rfl rfl) rfl rfl hl.1 rfl (lv_room (Nat.le_of_ble_eq_true rfl)) dX3_mergedRow_55 ⟨Nat.zero_le _, Nat.zero_le _⟩) hS hP (fun H locs hP hS => ?_)
        refine pr_i (va_runS (As := [.int ((1 ||| 2) ||| 0), .int (f_X3_changedRow mc mw me 1 p1), .int (f_X3_changedRow mc mw me 2 p1)]) (rest := []) ⟨hx, hb, hml, hown, hts⟩ (k_X3_merged l D cyI cyZ ((1 ||| 2) ||| 0) (f_X3_changedRow mc mw me 1 p1) (f_X3_changedRow mc mw me 2 p1)) (va_cwS 3 hts gX3_mergedRow_X3_merged rfl rfl rfl (by decide +kernel) ⟨Nat.le_of_ble_eq_true rfl, Nat.le_of_ble_eq_true rfl⟩) (prS hG (hP.sub (ws' := []) [] rfl)) rfl rfl hl.1 rfl (lv_room (Nat.le_of_ble_eq_true rfl)) dX3_mergedRow_58 ⟨Nat.zero_le _, Nat.zero_le _⟩) hS hP (fun H locs hP hS => ?_)
        have ef : f_X3_mergedRow mc mw me p1 = f_X3_merged ((1 ||| 2) ||| 0) (f_X3_changedRow mc mw me 1 p1) (f_X3_changedRow mc mw me 2 p1) := by rw [f_X3_mergedRow, if_neg c_6, if_neg c_20, if_pos c_35]
        exact W.iret (v := f_X3_merged ((1 ||| 2) ||| 0) (f_X3_changedRow mc mw me 1 p1) (f_X3_changedRow mc mw me 2 p1)) hx hb hr (fun t ht hW => ⟨⟨f_X3_merged ((1 ||| 2) ||| 0) (f_X3_changedRow mc mw me 1 p1) (f_X3_changedRow mc mw me 2 p1), (), rfl, ef.symm, trivial⟩, hS.F ht⟩) hS.2.2 dX3_mergedRow_61
      · refine lv_iconst (v := 4) hx hb dX3_mergedRow_38 (by decide) ?_
        refine lv_goto (tgt := 43) hx hb dX3_mergedRow_39 (by decide) ?_
        refine lv_ior hx hb dX3_mergedRow_43 ?_
        refine lv_istore_n (lv' := [(2, .int ((1 ||| 2) ||| 4)), (0, .ref (ad 0)), (1, .int p1)]) hx hb dX3_mergedRow_44 rfl hl (by decide) rfl (fun ls hl => ?_)
        refine lv_iload_n hx hb dX3_mergedRow_45 rfl (lv_at hl 0 rfl) ?_
        refine lv_aload_n hx hb dX3_mergedRow_46 rfl (lv_at hl 1 rfl) ?_
        refine lv_iconst (v := 1) hx hb dX3_mergedRow_47 (by decide) ?_
        refine lv_iload_n hx hb dX3_mergedRow_48 rfl (lv_at hl 2 rfl) ?_
        refine pr_i (va_runV (As := [.int 1, .int p1]) (rest := [.int ((1 ||| 2) ||| 4)]) ⟨hx, hb, hml, hown, hts⟩ (k_X3_changedRow l D cyI cyZ ad mc mw mn me mu mr mz mf mt 1 p1 (vi_mono (vp_in_nI (n := 1) (N := 2) (by decide) (by decide)) (by decide)) hi1) (cwV 2 hts gX3_mergedRow_X3_changedRow rfl rfl rfl (by decide +kernel) ⟨Nat.le_of_ble_eq_true rfl, Nat.le_of_ble_eq_true rfl⟩) (prV hG hP (ci := 3) rfl rfl rfl) rfl rfl hl.1 rfl (lv_room (Nat.le_of_ble_eq_true rfl)) dX3_mergedRow_49 ⟨Nat.zero_le _, Nat.zero_le _⟩) hS hP (fun H locs hP hS => ?_)
        refine lv_aload_n hx hb dX3_mergedRow_52 rfl (lv_at hl 1 rfl) ?_
        refine lv_iconst (v := 2) hx hb dX3_mergedRow_53 (by decide) ?_
        refine lv_iload_n hx hb dX3_mergedRow_54 rfl (lv_at hl 2 rfl) ?_
        refine pr_i (va_runV (As := [.int 2, .int p1]) (rest := [.int (f_X3_changedRow mc mw me 1 p1), .int ((1 ||| 2) ||| 4)]) ⟨hx, hb, hml, hown, hts⟩ (k_X3_changedRow l D cyI cyZ ad mc mw mn me mu mr mz mf mt 2 p1 (vi_mono (vp_in_nI (n := 2) (N := 3) (by decide) (by decide)) (by decide)) hi1) (cwV 2 hts gX3_mergedRow_X3_changedRow rfl rfl rfl (by decide +kernel) ⟨Nat.le_of_ble_eq_true rfl, Nat.le_of_ble_eq_true rfl⟩) (prV hG hP (ci := 3) rfl rfl rfl) rfl rfl hl.1 rfl (lv_room (Nat.le_of_ble_eq_true rfl)) dX3_mergedRow_55 ⟨Nat.zero_le _, Nat.zero_le _⟩) hS hP (fun H locs hP hS => ?_)
        refine pr_i (va_runS (As := [.int ((1 ||| 2) ||| 4), .int (f_X3_changedRow mc mw me 1 p1), .int (f_X3_changedRow mc mw me 2 p1)]) (rest := []) ⟨hx, hb, hml, hown, hts⟩ (k_X3_merged l D cyI cyZ ((1 ||| 2) ||| 4) (f_X3_changedRow mc mw me 1 p1) (f_X3_changedRow mc mw me 2 p1)) (va_cwS 3 hts gX3_mergedRow_X3_merged rfl rfl rfl (by decide +kernel) ⟨Nat.le_of_ble_eq_true rfl, Nat.le_of_ble_eq_true rfl⟩) (prS hG (hP.sub (ws' := []) [] rfl)) rfl rfl hl.1 rfl (lv_room (Nat.le_of_ble_eq_true rfl)) dX3_mergedRow_58 ⟨Nat.zero_le _, Nat.zero_le _⟩) hS hP (fun H locs hP hS => ?_)
        have ef : f_X3_mergedRow mc mw me p1 = f_X3_merged ((1 ||| 2) ||| 4) (f_X3_changedRow mc mw me 1 p1) (f_X3_changedRow mc mw me 2 p1) := by rw [f_X3_mergedRow, if_neg c_6, if_neg c_20, if_neg c_35]
        exact W.iret (v := f_X3_merged ((1 ||| 2) ||| 4) (f_X3_changedRow mc mw me 1 p1) (f_X3_changedRow mc mw me 2 p1)) hx hb hr (fun t ht hW => ⟨⟨f_X3_merged ((1 ||| 2) ||| 4) (f_X3_changedRow mc mw me 1 p1) (f_X3_changedRow mc mw me 2 p1), (), rfl, ef.symm, trivial⟩, hS.F ht⟩) hS.2.2 dX3_mergedRow_61
def f_X3_naming (mc : Nat → Int32) (mn : Nat → Int32) (p1 : Int32) : Int32 := if (f_X3_hasColumn mc 1 p1) = 0 then 2 else (if (f_X3_hasColumn mc 2 p1) = 0 then 1 else (if (mn (8 + p1).toNatClampNeg) = (mn (16 + p1).toNatClampNeg) then 1 else (if (f_X3_renamed mc mn 1 p1) = (f_X3_renamed mc mn 2 p1) then 0 else (if (f_X3_renamed mc mn 1 p1) = 0 then 2 else 1))))
theorem uin_X3_naming_X3 : ∀ w ∈ wsX30, w ∈ wsX3_naming := fun _ h => List.mem_cons_of_mem _ (List.mem_append_right _ h)
set_option maxHeartbeats 4000000 in
set_option maxRecDepth 100000 in
theorem k_X3_naming (l : Launch) (D : va_G) (cyI cyZ : ClassId) (ad : Nat → Nat) (mc : Nat → Int32) (mw : Nat → Int32) (mn : Nat → Int32) (me : Nat → Int32) (mu : Nat → Int32) (mr : Nat → Int32) (mz : Kr) (mf : Int32) (mt : Int32) (p1 : Int32) (hi1 : vp_in p1 8) : Met l yX3_naming wsX3_naming ({ frames := 2, cells := 0, slots := 0, locals := 44 } : Room) (pcP D cyI cyZ [.ref (ad 0), .int p1] (wN cyI cyZ ad mc mw mn me mu mr mz mf mt)) (qI (f_X3_naming mc mn p1)) 0 0 nA := by
  refine Met.ofW (cc := cX3_naming) (maxL := 6) (ret := (some .int)) (by decide) rfl ?_
  intro p e s m args below meth c s₁ B hml hv
  obtain ⟨rfl, hP, hG⟩ := hv
  have hx := B.exec
  have hb := B.bytes
  have hr := B.returns
  have hts := atoms_spec (ws := wsX3_naming) B.pre
  have hown : s.vm.findClass RX3 = some m.cls := findClass_of_methodNamed B.named
  have hlocks := B.notSynchronized
  have hS : va_S nA s.heap s.heap [] := va_S.rf
  have hl := lv_entry ([.ref (ad 0), .int p1]) (n := 6) (Nat.le_of_ble_eq_true rfl)
  rw [lg_entry_eq]
  generalize (lg_sl ([.ref (ad 0), .int p1]) ++ List.replicate (6 - (lg_sl ([.ref (ad 0), .int p1])).length) Slot.unset).toArray = ls at hl ⊢
  have hl : lv_has ls 6 [(0, .ref (ad 0)), (1, .int p1)] := hl
  have hP : va_P D vwCl (wN cyI cyZ ad mc mw mn me mu mr mz mf mt) s.heap := hP
  refine lv_aload_n hx hb dX3_naming_0 rfl (lv_at hl 0 rfl) ?_
  refine lv_iconst (v := 1) hx hb dX3_naming_1 (by decide) ?_
  refine lv_iload_n hx hb dX3_naming_2 rfl (lv_at hl 1 rfl) ?_
  refine pr_i (va_runV (As := [.int 1, .int p1]) (rest := []) ⟨hx, hb, hml, hown, hts⟩ (k_X3_hasColumn l D cyI cyZ ad mc mw mn me mu mr mz mf mt 1 p1 (vi_mono (vp_in_nI (n := 1) (N := 2) (by decide) (by decide)) (by decide))) (cwV 2 hts gX3_naming_X3_hasColumn rfl rfl rfl (by decide +kernel) ⟨Nat.le_of_ble_eq_true rfl, Nat.le_of_ble_eq_true rfl⟩) (prV hG hP (ci := 3) rfl rfl rfl) rfl rfl hl.1 rfl (lv_room (Nat.le_of_ble_eq_true rfl)) dX3_naming_3 ⟨Nat.zero_le _, Nat.zero_le _⟩) hS hP (fun H locs hP hS => ?_)
  refine lv_istore_n (lv' := [(2, .int (f_X3_hasColumn mc 1 p1)), (0, .ref (ad 0)), (1, .int p1)]) hx hb dX3_naming_6 rfl hl (by decide) rfl (fun ls hl => ?_)
  refine lv_aload_n hx hb dX3_naming_7 rfl (lv_at hl 1 rfl) ?_
  refine lv_iconst (v := 2) hx hb dX3_naming_8 (by decide) ?_
  refine lv_iload_n hx hb dX3_naming_9 rfl (lv_at hl 2 rfl) ?_
  refine pr_i (va_runV (As := [.int 2, .int p1]) (rest := []) ⟨hx, hb, hml, hown, hts⟩ (k_X3_hasColumn l D cyI cyZ ad mc mw mn me mu mr mz mf mt 2 p1 (vi_mono (vp_in_nI (n := 2) (N := 3) (by decide) (by decide)) (by decide))) (cwV 2 hts gX3_naming_X3_hasColumn rfl rfl rfl (by decide +kernel) ⟨Nat.le_of_ble_eq_true rfl, Nat.le_of_ble_eq_true rfl⟩) (prV hG hP (ci := 3) rfl rfl rfl) rfl rfl hl.1 rfl (lv_room (Nat.le_of_ble_eq_true rfl)) dX3_naming_10 ⟨Nat.zero_le _, Nat.zero_le _⟩) hS hP (fun H locs hP hS => ?_)
  refine lv_istore_n (lv' := [(3, .int (f_X3_hasColumn mc 2 p1)), (2, .int (f_X3_hasColumn mc 1 p1)), (0, .ref (ad 0)), (1, .int p1)]) hx hb dX3_naming_13 rfl hl (by decide) rfl (fun ls hl => ?_)
  refine lv_iload_n hx hb dX3_naming_14 rfl (lv_at hl 1 rfl) ?_
  refine lv_if_eq (tgt := 43) hx hb dX3_naming_15 (by decide) (fun c_15 => ?_) (fun c_15 => ?_)
  · refine lv_iload_n hx hb dX3_naming_43 rfl (lv_at hl 1 rfl) ?_
    refine lv_if_eq (tgt := 51) hx hb dX3_naming_44 (by decide) (fun c_44 => ?_) (fun c_44 => ?_)
    · refine lv_iconst (v := 2) hx hb dX3_naming_51 (by decide) ?_
      have ef : f_X3_naming mc mn p1 = 2 := by rw [f_X3_naming, if_pos c_15]
      exact W.iret (v := 2) hx hb hr (fun t ht hW => ⟨⟨2, (), rfl, ef.symm, trivial⟩, hS.F ht⟩) hS.2.2 dX3_naming_52
    · exact absurd c_15 c_44
  · refine lv_iload_n hx hb dX3_naming_18 rfl (lv_at hl 0 rfl) ?_
    refine lv_if_eq (tgt := 43) hx hb dX3_naming_19 (by decide) (fun c_19 => ?_) (fun c_19 => ?_)
    · refine lv_iload_n hx hb dX3_naming_43 rfl (lv_at hl 1 rfl) ?_
      refine lv_if_eq (tgt := 51) hx hb dX3_naming_44 (by decide) (fun c_44 => ?_) (fun c_44 => ?_)
      · exact absurd c_44 c_15
      · refine lv_iconst (v := 1) hx hb dX3_naming_47 (by decide) ?_
        refine lv_goto (tgt := 52) hx hb dX3_naming_48 (by decide) ?_
        have ef : f_X3_naming mc mn p1 = 1 := by rw [f_X3_naming, if_neg c_15, if_pos c_19]
        exact W.iret (v := 1) hx hb hr (fun t ht hW => ⟨⟨1, (), rfl, ef.symm, trivial⟩, hS.F ht⟩) hS.2.2 dX3_naming_52
    · refine lv_aload_n hx hb dX3_naming_22 rfl (lv_at hl 2 rfl) ?_
      refine va_get (D := D) (ci := 3) (v := .ref (ad 3)) (C := RX3) (T := TX3) (N := 13) hx hb hts uin_X3_naming_X3 hown hG.1 hP 0 rfl rfl 2 (by decide) (hts (.fieldLink RX3 16 "TableSpliceModel" "name" "[I") (List.mem_of_getElem? (i := 1) rfl)) (fun _ h9 => h9) rfl dX3_naming_23 ?_
      refine lv_bipush (v := 8) hx hb dX3_naming_26 (by decide) ?_
      refine lv_iload_n hx hb dX3_naming_28 rfl (lv_at hl 3 rfl) ?_
      refine lv_iadd hx hb dX3_naming_29 ?_
      refine va_iald hx hb hG.1 hP 3 0 rfl rfl (vi_mono (vi_add (k := 16) (vp_in_nI (n := 8) (N := 9) (by decide) (by decide)) hi1 (by decide) (by decide)) (by decide)) dX3_naming_30 ?_
      refine lv_aload_n hx hb dX3_naming_31 rfl (lv_at hl 2 rfl) ?_
      refine va_get (D := D) (ci := 3) (v := .ref (ad 3)) (C := RX3) (T := TX3) (N := 13) hx hb hts uin_X3_naming_X3 hown hG.1 hP 0 rfl rfl 2 (by decide) (hts (.fieldLink RX3 16 "TableSpliceModel" "name" "[I") (List.mem_of_getElem? (i := 1) rfl)) (fun _ h9 => h9) rfl dX3_naming_32 ?_
      refine lv_bipush (v := 16) hx hb dX3_naming_35 (by decide) ?_
      refine lv_iload_n hx hb dX3_naming_37 rfl (lv_at hl 3 rfl) ?_
      refine lv_iadd hx hb dX3_naming_38 ?_
      refine va_iald hx hb hG.1 hP 3 0 rfl rfl (vi_mono (vi_add (k := 24) (vp_in_nI (n := 16) (N := 17) (by decide) (by decide)) hi1 (by decide) (by decide)) (by decide)) dX3_naming_39 ?_
      refine lv_icmp_ne (tgt := 53) hx hb dX3_naming_40 (by decide) (fun c_40 => ?_) (fun c_40 => ?_)
      · refine lv_aload_n hx hb dX3_naming_53 rfl (lv_at hl 2 rfl) ?_
        refine lv_iconst (v := 1) hx hb dX3_naming_54 (by decide) ?_
        refine lv_iload_n hx hb dX3_naming_55 rfl (lv_at hl 3 rfl) ?_
        refine pr_i (va_runV (As := [.int 1, .int p1]) (rest := []) ⟨hx, hb, hml, hown, hts⟩ (k_X3_renamed l D cyI cyZ ad mc mw mn me mu mr mz mf mt 1 p1 (vi_mono (vp_in_nI (n := 1) (N := 2) (by decide) (by decide)) (by decide)) hi1) (cwV 2 hts gX3_naming_X3_renamed rfl rfl rfl (by decide +kernel) ⟨Nat.le_of_ble_eq_true rfl, Nat.le_of_ble_eq_true rfl⟩) (prV hG hP (ci := 3) rfl rfl rfl) rfl rfl hl.1 rfl (lv_room (Nat.le_of_ble_eq_true rfl)) dX3_naming_56 ⟨Nat.zero_le _, Nat.zero_le _⟩) hS hP (fun H locs hP hS => ?_)
        refine lv_istore (lv' := [(4, .int (f_X3_renamed mc mn 1 p1)), (3, .int (f_X3_hasColumn mc 2 p1)), (2, .int (f_X3_hasColumn mc 1 p1)), (0, .ref (ad 0)), (1, .int p1)]) hx hb dX3_naming_59 hl (by decide) rfl (fun ls hl => ?_)
        refine lv_aload_n hx hb dX3_naming_61 rfl (lv_at hl 3 rfl) ?_
        refine lv_iconst (v := 2) hx hb dX3_naming_62 (by decide) ?_
        refine lv_iload_n hx hb dX3_naming_63 rfl (lv_at hl 4 rfl) ?_
        refine pr_i (va_runV (As := [.int 2, .int p1]) (rest := []) ⟨hx, hb, hml, hown, hts⟩ (k_X3_renamed l D cyI cyZ ad mc mw mn me mu mr mz mf mt 2 p1 (vi_mono (vp_in_nI (n := 2) (N := 3) (by decide) (by decide)) (by decide)) hi1) (cwV 2 hts gX3_naming_X3_renamed rfl rfl rfl (by decide +kernel) ⟨Nat.le_of_ble_eq_true rfl, Nat.le_of_ble_eq_true rfl⟩) (prV hG hP (ci := 3) rfl rfl rfl) rfl rfl hl.1 rfl (lv_room (Nat.le_of_ble_eq_true rfl)) dX3_naming_64 ⟨Nat.zero_le _, Nat.zero_le _⟩) hS hP (fun H locs hP hS => ?_)
        refine lv_istore (lv' := [(5, .int (f_X3_renamed mc mn 2 p1)), (4, .int (f_X3_renamed mc mn 1 p1)), (3, .int (f_X3_hasColumn mc 2 p1)), (2, .int (f_X3_hasColumn mc 1 p1)), (0, .ref (ad 0)), (1, .int p1)]) hx hb dX3_naming_67 hl (by decide) rfl (fun ls hl => ?_)
        refine lv_iload hx hb dX3_naming_69 (lv_at hl 1 rfl) ?_
        refine lv_iload hx hb dX3_naming_71 (lv_at hl 0 rfl) ?_
        refine lv_icmp_ne (tgt := 80) hx hb dX3_naming_73 (by decide) (fun c_73 => ?_) (fun c_73 => ?_)
        · refine lv_iload hx hb dX3_naming_80 (lv_at hl 1 rfl) ?_
          refine lv_if_eq (tgt := 89) hx hb dX3_naming_82 (by decide) (fun c_82 => ?_) (fun c_82 => ?_)
          · refine lv_iconst (v := 2) hx hb dX3_naming_89 (by decide) ?_
            have ef : f_X3_naming mc mn p1 = 2 := by rw [f_X3_naming, if_neg c_15, if_neg c_19, if_neg c_40, if_neg c_73, if_pos c_82]
            exact W.iret (v := 2) hx hb hr (fun t ht hW => ⟨⟨2, (), rfl, ef.symm, trivial⟩, hS.F ht⟩) hS.2.2 dX3_naming_90
          · refine lv_iconst (v := 1) hx hb dX3_naming_85 (by decide) ?_
            refine lv_goto (tgt := 90) hx hb dX3_naming_86 (by decide) ?_
            have ef : f_X3_naming mc mn p1 = 1 := by rw [f_X3_naming, if_neg c_15, if_neg c_19, if_neg c_40, if_neg c_73, if_neg c_82]
            exact W.iret (v := 1) hx hb hr (fun t ht hW => ⟨⟨1, (), rfl, ef.symm, trivial⟩, hS.F ht⟩) hS.2.2 dX3_naming_90
        · refine lv_iconst (v := 0) hx hb dX3_naming_76 (by decide) ?_
          refine lv_goto (tgt := 90) hx hb dX3_naming_77 (by decide) ?_
          have ef : f_X3_naming mc mn p1 = 0 := by rw [f_X3_naming, if_neg c_15, if_neg c_19, if_neg c_40, if_pos c_73]
          exact W.iret (v := 0) hx hb hr (fun t ht hW => ⟨⟨0, (), rfl, ef.symm, trivial⟩, hS.F ht⟩) hS.2.2 dX3_naming_90
      · refine lv_iload_n hx hb dX3_naming_43 rfl (lv_at hl 1 rfl) ?_
        refine lv_if_eq (tgt := 51) hx hb dX3_naming_44 (by decide) (fun c_44 => ?_) (fun c_44 => ?_)
        · exact absurd c_44 c_15
        · refine lv_iconst (v := 1) hx hb dX3_naming_47 (by decide) ?_
          refine lv_goto (tgt := 52) hx hb dX3_naming_48 (by decide) ?_
          have ef : f_X3_naming mc mn p1 = 1 := by rw [f_X3_naming, if_neg c_15, if_neg c_19, if_pos c_40]
          exact W.iret (v := 1) hx hb hr (fun t ht hW => ⟨⟨1, (), rfl, ef.symm, trivial⟩, hS.F ht⟩) hS.2.2 dX3_naming_52
def f_X3_atOdds (mc : Nat → Int32) (mw : Nat → Int32) (me : Nat → Int32) (mu : Nat → Int32) (p1 : Int32) (p2 : Int32) : Int32 := if (f_X3_hasCell mc mw 1 p1 p2) = 0 then (if (f_X3_hasCell mc mw 0 p1 p2) = 0 then 0 else (if (f_X3_at me 0 p1 p2) = (f_X3_at me 1 p1 p2) then 0 else (if (f_X3_at me 0 p1 p2) = (f_X3_at me 2 p1 p2) then 0 else 0))) else (if (f_X3_hasCell mc mw 2 p1 p2) = 0 then (if (f_X3_hasCell mc mw 0 p1 p2) = 0 then 0 else (if (f_X3_at me 0 p1 p2) = (f_X3_at me 1 p1 p2) then 0 else (if (f_X3_at me 0 p1 p2) = (f_X3_at me 2 p1 p2) then 0 else 0))) else (if (mu (p2).toNatClampNeg) = 3 then (if (f_X3_hasCell mc mw 0 p1 p2) = 0 then 0 else (if (f_X3_at me 0 p1 p2) = (f_X3_at me 1 p1 p2) then 0 else (if (f_X3_at me 0 p1 p2) = (f_X3_at me 2 p1 p2) then 0 else 0))) else (if (f_X3_hasCell mc mw 0 p1 p2) = 0 then (if (f_X3_at me 1 p1 p2) = (f_X3_at me 2 p1 p2) then 0 else 1) else (if (f_X3_at me 0 p1 p2) = (f_X3_at me 1 p1 p2) then (if (f_X3_at me 1 p1 p2) = (f_X3_at me 2 p1 p2) then 0 else 0) else (if (f_X3_at me 0 p1 p2) = (f_X3_at me 2 p1 p2) then (if (f_X3_at me 1 p1 p2) = (f_X3_at me 2 p1 p2) then 0 else 0) else (if (f_X3_at me 1 p1 p2) = (f_X3_at me 2 p1 p2) then 0 else 1))))))
theorem uin_X3_atOdds_X3 : ∀ w ∈ wsX30, w ∈ wsX3_atOdds := fun _ h => List.mem_cons_of_mem _ (List.mem_append_right _ h)
set_option maxHeartbeats 4000000 in
set_option maxRecDepth 100000 in
theorem k_X3_atOdds (l : Launch) (D : va_G) (cyI cyZ : ClassId) (ad : Nat → Nat) (mc : Nat → Int32) (mw : Nat → Int32) (mn : Nat → Int32) (me : Nat → Int32) (mu : Nat → Int32) (mr : Nat → Int32) (mz : Kr) (mf : Int32) (mt : Int32) (p1 : Int32) (p2 : Int32) (hi1 : vp_in p1 24) (hi2 : vp_in p2 8) : Met l yX3_atOdds wsX3_atOdds ({ frames := 2, cells := 0, slots := 0, locals := 45 } : Room) (pcP D cyI cyZ [.ref (ad 0), .int p1, .int p2] (wN cyI cyZ ad mc mw mn me mu mr mz mf mt)) (qI (f_X3_atOdds mc mw me mu p1 p2)) 0 0 nA := by
  refine Met.ofW (cc := cX3_atOdds) (maxL := 5) (ret := (some .boolean)) (by decide) rfl ?_
  intro p e s m args below meth c s₁ B hml hv
  obtain ⟨rfl, hP, hG⟩ := hv
  have hx := B.exec
  have hb := B.bytes
  have hr := B.returns
  have hts := atoms_spec (ws := wsX3_atOdds) B.pre
  have hown : s.vm.findClass RX3 = some m.cls := findClass_of_methodNamed B.named
  have hlocks := B.notSynchronized
  have hS : va_S nA s.heap s.heap [] := va_S.rf
  have hl := lv_entry ([.ref (ad 0), .int p1, .int p2]) (n := 5) (Nat.le_of_ble_eq_true rfl)
  rw [lg_entry_eq]
  generalize (lg_sl ([.ref (ad 0), .int p1, .int p2]) ++ List.replicate (5 - (lg_sl ([.ref (ad 0), .int p1, .int p2])).length) Slot.unset).toArray = ls at hl ⊢
  have hl : lv_has ls 5 [(0, .ref (ad 0)), (1, .int p1), (2, .int p2)] := hl
  have hP : va_P D vwCl (wN cyI cyZ ad mc mw mn me mu mr mz mf mt) s.heap := hP
  refine lv_aload_n hx hb dX3_atOdds_0 rfl (lv_at hl 0 rfl) ?_
  refine lv_iconst (v := 1) hx hb dX3_atOdds_1 (by decide) ?_
  refine lv_iload_n hx hb dX3_atOdds_2 rfl (lv_at hl 1 rfl) ?_
  refine lv_iload_n hx hb dX3_atOdds_3 rfl (lv_at hl 2 rfl) ?_
  refine pr_i (va_runV (As := [.int 1, .int p1, .int p2]) (rest := []) ⟨hx, hb, hml, hown, hts⟩ (k_X3_hasCell l D cyI cyZ ad mc mw mn me mu mr mz mf mt 1 p1 p2 (vi_mono (vp_in_nI (n := 1) (N := 2) (by decide) (by decide)) (by decide))) (cwV 3 hts gX3_atOdds_X3_hasCell rfl rfl rfl (by decide +kernel) ⟨Nat.le_of_ble_eq_true rfl, Nat.le_of_ble_eq_true rfl⟩) (prV hG hP (ci := 3) rfl rfl rfl) rfl rfl hl.1 rfl (lv_room (Nat.le_of_ble_eq_true rfl)) dX3_atOdds_4 ⟨Nat.zero_le _, Nat.zero_le _⟩) hS hP (fun H locs hP hS => ?_)
  refine lv_if_eq (tgt := 34) hx hb dX3_atOdds_7 (by decide) (fun c_7 => ?_) (fun c_7 => ?_)
  · refine lv_iconst (v := 0) hx hb dX3_atOdds_34 (by decide) ?_
    refine lv_istore_n (lv' := [(3, .int 0), (0, .ref (ad 0)), (1, .int p1), (2, .int p2)]) hx hb dX3_atOdds_35 rfl hl (by decide) rfl (fun ls hl => ?_)
    refine lv_aload_n hx hb dX3_atOdds_36 rfl (lv_at hl 1 rfl) ?_
    refine lv_iconst (v := 0) hx hb dX3_atOdds_37 (by decide) ?_
    refine lv_iload_n hx hb dX3_atOdds_38 rfl (lv_at hl 2 rfl) ?_
    refine lv_iload_n hx hb dX3_atOdds_39 rfl (lv_at hl 3 rfl) ?_
    refine pr_i (va_runV (As := [.int 0, .int p1, .int p2]) (rest := []) ⟨hx, hb, hml, hown, hts⟩ (k_X3_hasCell l D cyI cyZ ad mc mw mn me mu mr mz mf mt 0 p1 p2 (vi_mono (vp_in_nI (n := 0) (N := 1) (by decide) (by decide)) (by decide))) (cwV 3 hts gX3_atOdds_X3_hasCell rfl rfl rfl (by decide +kernel) ⟨Nat.le_of_ble_eq_true rfl, Nat.le_of_ble_eq_true rfl⟩) (prV hG hP (ci := 3) rfl rfl rfl) rfl rfl hl.1 rfl (lv_room (Nat.le_of_ble_eq_true rfl)) dX3_atOdds_40 ⟨Nat.zero_le _, Nat.zero_le _⟩) hS hP (fun H locs hP hS => ?_)
    refine lv_if_eq (tgt := 84) hx hb dX3_atOdds_43 (by decide) (fun c_43 => ?_) (fun c_43 => ?_)
    · refine lv_iconst (v := 0) hx hb dX3_atOdds_84 (by decide) ?_
      refine lv_istore (lv' := [(4, .int 0), (3, .int 0), (0, .ref (ad 0)), (1, .int p1), (2, .int p2)]) hx hb dX3_atOdds_85 hl (by decide) rfl (fun ls hl => ?_)
      refine lv_iload_n hx hb dX3_atOdds_87 rfl (lv_at hl 1 rfl) ?_
      refine lv_if_eq (tgt := 117) hx hb dX3_atOdds_88 (by decide) (fun c_88 => ?_) (fun c_88 => ?_)
      · refine lv_iconst (v := 0) hx hb dX3_atOdds_117 (by decide) ?_
        have ef : f_X3_atOdds mc mw me mu p1 p2 = 0 := by rw [f_X3_atOdds, if_pos c_7, if_pos c_43]
        exact W.zret (v := 0) (ty := .boolean) hx hb hr rfl (fun t ht hW => ⟨⟨0, (), rfl, ef.symm, trivial⟩, hS.F ht⟩) hS.2.2 dX3_atOdds_118
      · exact absurd (by decide) c_88
    · refine lv_aload_n hx hb dX3_atOdds_46 rfl (lv_at hl 1 rfl) ?_
      refine lv_iconst (v := 0) hx hb dX3_atOdds_47 (by decide) ?_
      refine lv_iload_n hx hb dX3_atOdds_48 rfl (lv_at hl 2 rfl) ?_
      refine lv_iload_n hx hb dX3_atOdds_49 rfl (lv_at hl 3 rfl) ?_
      refine pr_i (va_runV (As := [.int 0, .int p1, .int p2]) (rest := []) ⟨hx, hb, hml, hown, hts⟩ (k_X3_at l D cyI cyZ ad mc mw mn me mu mr mz mf mt 0 p1 p2 (vi_mono (vp_in_nI (n := 0) (N := 1) (by decide) (by decide)) (by decide)) hi1 hi2) (cwV 3 hts gX3_atOdds_X3_at rfl rfl rfl (by decide +kernel) ⟨Nat.le_of_ble_eq_true rfl, Nat.le_of_ble_eq_true rfl⟩) (prV hG hP (ci := 3) rfl rfl rfl) rfl rfl hl.1 rfl (lv_room (Nat.le_of_ble_eq_true rfl)) dX3_atOdds_50 ⟨Nat.zero_le _, Nat.zero_le _⟩) hS hP (fun H locs hP hS => ?_)
      refine lv_aload_n hx hb dX3_atOdds_53 rfl (lv_at hl 1 rfl) ?_
      refine lv_iconst (v := 1) hx hb dX3_atOdds_54 (by decide) ?_
      refine lv_iload_n hx hb dX3_atOdds_55 rfl (lv_at hl 2 rfl) ?_
      refine lv_iload_n hx hb dX3_atOdds_56 rfl (lv_at hl 3 rfl) ?_
      refine pr_i (va_runV (As := [.int 1, .int p1, .int p2]) (rest := [.int (f_X3_at me 0 p1 p2)]) ⟨hx, hb, hml, hown, hts⟩ (k_X3_at l D cyI cyZ ad mc mw mn me mu mr mz mf mt 1 p1 p2 (vi_mono (vp_in_nI (n := 1) (N := 2) (by decide) (by decide)) (by decide)) hi1 hi2) (cwV 3 hts gX3_atOdds_X3_at rfl rfl rfl (by decide +kernel) ⟨Nat.le_of_ble_eq_true rfl, Nat.le_of_ble_eq_true rfl⟩) (prV hG hP (ci := 3) rfl rfl rfl) rfl rfl hl.1 rfl (lv_room (Nat.le_of_ble_eq_true rfl)) dX3_atOdds_57 ⟨Nat.zero_le _, Nat.zero_le _⟩) hS hP (fun H locs hP hS => ?_)
      refine lv_icmp_eq (tgt := 80) hx hb dX3_atOdds_60 (by decide) (fun c_60 => ?_) (fun c_60 => ?_)
      · refine lv_iconst (v := 1) hx hb dX3_atOdds_80 (by decide) ?_
        refine lv_goto (tgt := 85) hx hb dX3_atOdds_81 (by decide) ?_
        refine lv_istore (lv' := [(4, .int 1), (3, .int 0), (0, .ref (ad 0)), (1, .int p1), (2, .int p2)]) hx hb dX3_atOdds_85 hl (by decide) rfl (fun ls hl => ?_)
        refine lv_iload_n hx hb dX3_atOdds_87 rfl (lv_at hl 1 rfl) ?_
        refine lv_if_eq (tgt := 117) hx hb dX3_atOdds_88 (by decide) (fun c_88 => ?_) (fun c_88 => ?_)
        · refine lv_iconst (v := 0) hx hb dX3_atOdds_117 (by decide) ?_
          have ef : f_X3_atOdds mc mw me mu p1 p2 = 0 := by rw [f_X3_atOdds, if_pos c_7, if_neg c_43, if_pos c_60]
          exact W.zret (v := 0) (ty := .boolean) hx hb hr rfl (fun t ht hW => ⟨⟨0, (), rfl, ef.symm, trivial⟩, hS.F ht⟩) hS.2.2 dX3_atOdds_118
        · exact absurd (by decide) c_88
      · refine lv_aload_n hx hb dX3_atOdds_63 rfl (lv_at hl 1 rfl) ?_
        refine lv_iconst (v := 0) hx hb dX3_atOdds_64 (by decide) ?_
        refine lv_iload_n hx hb dX3_atOdds_65 rfl (lv_at hl 2 rfl) ?_
        refine lv_iload_n hx hb dX3_atOdds_66 rfl (lv_at hl 3 rfl) ?_
        refine pr_i (va_runV (As := [.int 0, .int p1, .int p2]) (rest := []) ⟨hx, hb, hml, hown, hts⟩ (k_X3_at l D cyI cyZ ad mc mw mn me mu mr mz mf mt 0 p1 p2 (vi_mono (vp_in_nI (n := 0) (N := 1) (by decide) (by decide)) (by decide)) hi1 hi2) (cwV 3 hts gX3_atOdds_X3_at rfl rfl rfl (by decide +kernel) ⟨Nat.le_of_ble_eq_true rfl, Nat.le_of_ble_eq_true rfl⟩) (prV hG hP (ci := 3) rfl rfl rfl) rfl rfl hl.1 rfl (lv_room (Nat.le_of_ble_eq_true rfl)) dX3_atOdds_67 ⟨Nat.zero_le _, Nat.zero_le _⟩) hS hP (fun H locs hP hS => ?_)
        refine lv_aload_n hx hb dX3_atOdds_70 rfl (lv_at hl 1 rfl) ?_
        refine lv_iconst (v := 2) hx hb dX3_atOdds_71 (by decide) ?_
        refine lv_iload_n hx hb dX3_atOdds_72 rfl (lv_at hl 2 rfl) ?_
        refine lv_iload_n hx hb dX3_atOdds_73 rfl (lv_at hl 3 rfl) ?_
        refine pr_i (va_runV (As := [.int 2, .int p1, .int p2]) (rest := [.int (f_X3_at me 0 p1 p2)]) ⟨hx, hb, hml, hown, hts⟩ (k_X3_at l D cyI cyZ ad mc mw mn me mu mr mz mf mt 2 p1 p2 (vi_mono (vp_in_nI (n := 2) (N := 3) (by decide) (by decide)) (by decide)) hi1 hi2) (cwV 3 hts gX3_atOdds_X3_at rfl rfl rfl (by decide +kernel) ⟨Nat.le_of_ble_eq_true rfl, Nat.le_of_ble_eq_true rfl⟩) (prV hG hP (ci := 3) rfl rfl rfl) rfl rfl hl.1 rfl (lv_room (Nat.le_of_ble_eq_true rfl)) dX3_atOdds_74 ⟨Nat.zero_le _, Nat.zero_le _⟩) hS hP (fun H locs hP hS => ?_)
        refine lv_icmp_ne (tgt := 84) hx hb dX3_atOdds_77 (by decide) (fun c_77 => ?_) (fun c_77 => ?_)
        · refine lv_iconst (v := 0) hx hb dX3_atOdds_84 (by decide) ?_
          refine lv_istore (lv' := [(4, .int 0), (3, .int 0), (0, .ref (ad 0)), (1, .int p1), (2, .int p2)]) hx hb dX3_atOdds_85 hl (by decide) rfl (fun ls hl => ?_)
          refine lv_iload_n hx hb dX3_atOdds_87 rfl (lv_at hl 1 rfl) ?_
          refine lv_if_eq (tgt := 117) hx hb dX3_atOdds_88 (by decide) (fun c_88 => ?_) (fun c_88 => ?_)
          · refine lv_iconst (v := 0) hx hb dX3_atOdds_117 (by decide) ?_
            have ef : f_X3_atOdds mc mw me mu p1 p2 = 0 := by rw [f_X3_atOdds, if_pos c_7, if_neg c_43, if_neg c_60, if_neg c_77]
            exact W.zret (v := 0) (ty := .boolean) hx hb hr rfl (fun t ht hW => ⟨⟨0, (), rfl, ef.symm, trivial⟩, hS.F ht⟩) hS.2.2 dX3_atOdds_118
          · exact absurd (by decide) c_88
        · refine lv_iconst (v := 1) hx hb dX3_atOdds_80 (by decide) ?_
          refine lv_goto (tgt := 85) hx hb dX3_atOdds_81 (by decide) ?_
          refine lv_istore (lv' := [(4, .int 1), (3, .int 0), (0, .ref (ad 0)), (1, .int p1), (2, .int p2)]) hx hb dX3_atOdds_85 hl (by decide) rfl (fun ls hl => ?_)
          refine lv_iload_n hx hb dX3_atOdds_87 rfl (lv_at hl 1 rfl) ?_
          refine lv_if_eq (tgt := 117) hx hb dX3_atOdds_88 (by decide) (fun c_88 => ?_) (fun c_88 => ?_)
          · refine lv_iconst (v := 0) hx hb dX3_atOdds_117 (by decide) ?_
            have ef : f_X3_atOdds mc mw me mu p1 p2 = 0 := by rw [f_X3_atOdds, if_pos c_7, if_neg c_43, if_neg c_60, if_pos c_77]
            exact W.zret (v := 0) (ty := .boolean) hx hb hr rfl (fun t ht hW => ⟨⟨0, (), rfl, ef.symm, trivial⟩, hS.F ht⟩) hS.2.2 dX3_atOdds_118
          · exact absurd (by decide) c_88
  · refine lv_aload_n hx hb dX3_atOdds_10 rfl (lv_at hl 0 rfl) ?_
    refine lv_iconst (v := 2) hx hb dX3_atOdds_11 (by decide) ?_
    refine lv_iload_n hx hb dX3_atOdds_12 rfl (lv_at hl 1 rfl) ?_
    refine lv_iload_n hx hb dX3_atOdds_13 rfl (lv_at hl 2 rfl) ?_
    refine pr_i (va_runV (As := [.int 2, .int p1, .int p2]) (rest := []) ⟨hx, hb, hml, hown, hts⟩ (k_X3_hasCell l D cyI cyZ ad mc mw mn me mu mr mz mf mt 2 p1 p2 (vi_mono (vp_in_nI (n := 2) (N := 3) (by decide) (by decide)) (by decide))) (cwV 3 hts gX3_atOdds_X3_hasCell rfl rfl rfl (by decide +kernel) ⟨Nat.le_of_ble_eq_true rfl, Nat.le_of_ble_eq_true rfl⟩) (prV hG hP (ci := 3) rfl rfl rfl) rfl rfl hl.1 rfl (lv_room (Nat.le_of_ble_eq_true rfl)) dX3_atOdds_14 ⟨Nat.zero_le _, Nat.zero_le _⟩) hS hP (fun H locs hP hS => ?_)
    refine lv_if_eq (tgt := 34) hx hb dX3_atOdds_17 (by decide) (fun c_17 => ?_) (fun c_17 => ?_)
    · refine lv_iconst (v := 0) hx hb dX3_atOdds_34 (by decide) ?_
      refine lv_istore_n (lv' := [(3, .int 0), (0, .ref (ad 0)), (1, .int p1), (2, .int p2)]) hx hb dX3_atOdds_35 rfl hl (by decide) rfl (fun ls hl => ?_)
      refine lv_aload_n hx hb dX3_atOdds_36 rfl (lv_at hl 1 rfl) ?_
      refine lv_iconst (v := 0) hx hb dX3_atOdds_37 (by decide) ?_
      refine lv_iload_n hx hb dX3_atOdds_38 rfl (lv_at hl 2 rfl) ?_
      refine lv_iload_n hx hb dX3_atOdds_39 rfl (lv_at hl 3 rfl) ?_
      refine pr_i (va_runV (As := [.int 0, .int p1, .int p2]) (rest := []) ⟨hx, hb, hml, hown, hts⟩ (k_X3_hasCell l D cyI cyZ ad mc mw mn me mu mr mz mf mt 0 p1 p2 (vi_mono (vp_in_nI (n := 0) (N := 1) (by decide) (by decide)) (by decide))) (cwV 3 hts gX3_atOdds_X3_hasCell rfl rfl rfl (by decide +kernel) ⟨Nat.le_of_ble_eq_true rfl, Nat.le_of_ble_eq_true rfl⟩) (prV hG hP (ci := 3) rfl rfl rfl) rfl rfl hl.1 rfl (lv_room (Nat.le_of_ble_eq_true rfl)) dX3_atOdds_40 ⟨Nat.zero_le _, Nat.zero_le _⟩) hS hP (fun H locs hP hS => ?_)
      refine lv_if_eq (tgt := 84) hx hb dX3_atOdds_43 (by decide) (fun c_43 => ?_) (fun c_43 => ?_)
      · refine lv_iconst (v := 0) hx hb dX3_atOdds_84 (by decide) ?_
        refine lv_istore (lv' := [(4, .int 0), (3, .int 0), (0, .ref (ad 0)), (1, .int p1), (2, .int p2)]) hx hb dX3_atOdds_85 hl (by decide) rfl (fun ls hl => ?_)
        refine lv_iload_n hx hb dX3_atOdds_87 rfl (lv_at hl 1 rfl) ?_
        refine lv_if_eq (tgt := 117) hx hb dX3_atOdds_88 (by decide) (fun c_88 => ?_) (fun c_88 => ?_)
        · refine lv_iconst (v := 0) hx hb dX3_atOdds_117 (by decide) ?_
          have ef : f_X3_atOdds mc mw me mu p1 p2 = 0 := by rw [f_X3_atOdds, if_neg c_7, if_pos c_17, if_pos c_43]
          exact W.zret (v := 0) (ty := .boolean) hx hb hr rfl (fun t ht hW => ⟨⟨0, (), rfl, ef.symm, trivial⟩, hS.F ht⟩) hS.2.2 dX3_atOdds_118
        · exact absurd (by decide) c_88
      · refine lv_aload_n hx hb dX3_atOdds_46 rfl (lv_at hl 1 rfl) ?_
        refine lv_iconst (v := 0) hx hb dX3_atOdds_47 (by decide) ?_
        refine lv_iload_n hx hb dX3_atOdds_48 rfl (lv_at hl 2 rfl) ?_
        refine lv_iload_n hx hb dX3_atOdds_49 rfl (lv_at hl 3 rfl) ?_
        refine pr_i (va_runV (As := [.int 0, .int p1, .int p2]) (rest := []) ⟨hx, hb, hml, hown, hts⟩ (k_X3_at l D cyI cyZ ad mc mw mn me mu mr mz mf mt 0 p1 p2 (vi_mono (vp_in_nI (n := 0) (N := 1) (by decide) (by decide)) (by decide)) hi1 hi2) (cwV 3 hts gX3_atOdds_X3_at rfl rfl rfl (by decide +kernel) ⟨Nat.le_of_ble_eq_true rfl, Nat.le_of_ble_eq_true rfl⟩) (prV hG hP (ci := 3) rfl rfl rfl) rfl rfl hl.1 rfl (lv_room (Nat.le_of_ble_eq_true rfl)) dX3_atOdds_50 ⟨Nat.zero_le _, Nat.zero_le _⟩) hS hP (fun H locs hP hS => ?_)
        refine lv_aload_n hx hb dX3_atOdds_53 rfl (lv_at hl 1 rfl) ?_
        refine lv_iconst (v := 1) hx hb dX3_atOdds_54 (by decide) ?_
        refine lv_iload_n hx hb dX3_atOdds_55 rfl (lv_at hl 2 rfl) ?_
        refine lv_iload_n hx hb dX3_atOdds_56 rfl (lv_at hl 3 rfl) ?_
        refine pr_i (va_runV (As := [.int 1, .int p1, .int p2]) (rest := [.int (f_X3_at me 0 p1 p2)]) ⟨hx, hb, hml, hown, hts⟩ (k_X3_at l D cyI cyZ ad mc mw mn me mu mr mz mf mt 1 p1 p2 (vi_mono (vp_in_nI (n := 1) (N := 2) (by decide) (by decide)) (by decide)) hi1 hi2) (cwV 3 hts gX3_atOdds_X3_at rfl rfl rfl (by decide +kernel) ⟨Nat.le_of_ble_eq_true rfl, Nat.le_of_ble_eq_true rfl⟩) (prV hG hP (ci := 3) rfl rfl rfl) rfl rfl hl.1 rfl (lv_room (Nat.le_of_ble_eq_true rfl)) dX3_atOdds_57 ⟨Nat.zero_le _, Nat.zero_le _⟩) hS hP (fun H locs hP hS => ?_)
        refine lv_icmp_eq (tgt := 80) hx hb dX3_atOdds_60 (by decide) (fun c_60 => ?_) (fun c_60 => ?_)
        · refine lv_iconst (v := 1) hx hb dX3_atOdds_80 (by decide) ?_
          refine lv_goto (tgt := 85) hx hb dX3_atOdds_81 (by decide) ?_
          refine lv_istore (lv' := [(4, .int 1), (3, .int 0), (0, .ref (ad 0)), (1, .int p1), (2, .int p2)]) hx hb dX3_atOdds_85 hl (by decide) rfl (fun ls hl => ?_)
          refine lv_iload_n hx hb dX3_atOdds_87 rfl (lv_at hl 1 rfl) ?_
          refine lv_if_eq (tgt := 117) hx hb dX3_atOdds_88 (by decide) (fun c_88 => ?_) (fun c_88 => ?_)
          · refine lv_iconst (v := 0) hx hb dX3_atOdds_117 (by decide) ?_
            have ef : f_X3_atOdds mc mw me mu p1 p2 = 0 := by rw [f_X3_atOdds, if_neg c_7, if_pos c_17, if_neg c_43, if_pos c_60]
            exact W.zret (v := 0) (ty := .boolean) hx hb hr rfl (fun t ht hW => ⟨⟨0, (), rfl, ef.symm, trivial⟩, hS.F ht⟩) hS.2.2 dX3_atOdds_118
          · exact absurd (by decide) c_88
        · refine lv_aload_n hx hb dX3_atOdds_63 rfl (lv_at hl 1 rfl) ?_
          refine lv_iconst (v := 0) hx hb dX3_atOdds_64 (by decide) ?_
          refine lv_iload_n hx hb dX3_atOdds_65 rfl (lv_at hl 2 rfl) ?_
          refine lv_iload_n hx hb dX3_atOdds_66 rfl (lv_at hl 3 rfl) ?_
          refine pr_i (va_runV (As := [.int 0, .int p1, .int p2]) (rest := []) ⟨hx, hb, hml, hown, hts⟩ (k_X3_at l D cyI cyZ ad mc mw mn me mu mr mz mf mt 0 p1 p2 (vi_mono (vp_in_nI (n := 0) (N := 1) (by decide) (by decide)) (by decide)) hi1 hi2) (cwV 3 hts gX3_atOdds_X3_at rfl rfl rfl (by decide +kernel) ⟨Nat.le_of_ble_eq_true rfl, Nat.le_of_ble_eq_true rfl⟩) (prV hG hP (ci := 3) rfl rfl rfl) rfl rfl hl.1 rfl (lv_room (Nat.le_of_ble_eq_true rfl)) dX3_atOdds_67 ⟨Nat.zero_le _, Nat.zero_le _⟩) hS hP (fun H locs hP hS => ?_)
          refine lv_aload_n hx hb dX3_atOdds_70 rfl (lv_at hl 1 rfl) ?_
          refine lv_iconst (v := 2) hx hb dX3_atOdds_71 (by decide) ?_
          refine lv_iload_n hx hb dX3_atOdds_72 rfl (lv_at hl 2 rfl) ?_
          refine lv_iload_n hx hb dX3_atOdds_73 rfl (lv_at hl 3 rfl) ?_
          refine pr_i (va_runV (As := [.int 2, .int p1, .int p2]) (rest := [.int (f_X3_at me 0 p1 p2)]) ⟨hx, hb, hml, hown, hts⟩ (k_X3_at l D cyI cyZ ad mc mw mn me mu mr mz mf mt 2 p1 p2 (vi_mono (vp_in_nI (n := 2) (N := 3) (by decide) (by decide)) (by decide)) hi1 hi2) (cwV 3 hts gX3_atOdds_X3_at rfl rfl rfl (by decide +kernel) ⟨Nat.le_of_ble_eq_true rfl, Nat.le_of_ble_eq_true rfl⟩) (prV hG hP (ci := 3) rfl rfl rfl) rfl rfl hl.1 rfl (lv_room (Nat.le_of_ble_eq_true rfl)) dX3_atOdds_74 ⟨Nat.zero_le _, Nat.zero_le _⟩) hS hP (fun H locs hP hS => ?_)
          refine lv_icmp_ne (tgt := 84) hx hb dX3_atOdds_77 (by decide) (fun c_77 => ?_) (fun c_77 => ?_)
          · refine lv_iconst (v := 0) hx hb dX3_atOdds_84 (by decide) ?_
            refine lv_istore (lv' := [(4, .int 0), (3, .int 0), (0, .ref (ad 0)), (1, .int p1), (2, .int p2)]) hx hb dX3_atOdds_85 hl (by decide) rfl (fun ls hl => ?_)
            refine lv_iload_n hx hb dX3_atOdds_87 rfl (lv_at hl 1 rfl) ?_
            refine lv_if_eq (tgt := 117) hx hb dX3_atOdds_88 (by decide) (fun c_88 => ?_) (fun c_88 => ?_)
            · refine lv_iconst (v := 0) hx hb dX3_atOdds_117 (by decide) ?_
              have ef : f_X3_atOdds mc mw me mu p1 p2 = 0 := by rw [f_X3_atOdds, if_neg c_7, if_pos c_17, if_neg c_43, if_neg c_60, if_neg c_77]
              exact W.zret (v := 0) (ty := .boolean) hx hb hr rfl (fun t ht hW => ⟨⟨0, (), rfl, ef.symm, trivial⟩, hS.F ht⟩) hS.2.2 dX3_atOdds_118
            · exact absurd (by decide) c_88
          · refine lv_iconst (v := 1) hx hb dX3_atOdds_80 (by decide) ?_
            refine lv_goto (tgt := 85) hx hb dX3_atOdds_81 (by decide) ?_
            refine lv_istore (lv' := [(4, .int 1), (3, .int 0), (0, .ref (ad 0)), (1, .int p1), (2, .int p2)]) hx hb dX3_atOdds_85 hl (by decide) rfl (fun ls hl => ?_)
            refine lv_iload_n hx hb dX3_atOdds_87 rfl (lv_at hl 1 rfl) ?_
            refine lv_if_eq (tgt := 117) hx hb dX3_atOdds_88 (by decide) (fun c_88 => ?_) (fun c_88 => ?_)
            · refine lv_iconst (v := 0) hx hb dX3_atOdds_117 (by decide) ?_
              have ef : f_X3_atOdds mc mw me mu p1 p2 = 0 := by rw [f_X3_atOdds, if_neg c_7, if_pos c_17, if_neg c_43, if_neg c_60, if_pos c_77]
              exact W.zret (v := 0) (ty := .boolean) hx hb hr rfl (fun t ht hW => ⟨⟨0, (), rfl, ef.symm, trivial⟩, hS.F ht⟩) hS.2.2 dX3_atOdds_118
            · exact absurd (by decide) c_88
    · refine lv_aload_n hx hb dX3_atOdds_20 rfl (lv_at hl 0 rfl) ?_
      refine va_get (D := D) (ci := 3) (v := .ref (ad 5)) (C := RX3) (T := TX3) (N := 13) hx hb hts uin_X3_atOdds_X3 hown hG.1 hP 0 rfl rfl 4 (by decide) (hts (.fieldLink RX3 22 "TableSpliceModel" "rule" "[I") (List.mem_of_getElem? (i := 1) rfl)) (fun _ h9 => h9) rfl dX3_atOdds_21 ?_
      refine lv_iload_n hx hb dX3_atOdds_24 rfl (lv_at hl 2 rfl) ?_
      refine va_iald hx hb hG.1 hP 5 0 rfl rfl hi2 dX3_atOdds_25 ?_
      refine lv_iconst (v := 3) hx hb dX3_atOdds_26 (by decide) ?_
      refine lv_icmp_eq (tgt := 34) hx hb dX3_atOdds_27 (by decide) (fun c_27 => ?_) (fun c_27 => ?_)
      · refine lv_iconst (v := 0) hx hb dX3_atOdds_34 (by decide) ?_
        refine lv_istore_n (lv' := [(3, .int 0), (0, .ref (ad 0)), (1, .int p1), (2, .int p2)]) hx hb dX3_atOdds_35 rfl hl (by decide) rfl (fun ls hl => ?_)
        refine lv_aload_n hx hb dX3_atOdds_36 rfl (lv_at hl 1 rfl) ?_
        refine lv_iconst (v := 0) hx hb dX3_atOdds_37 (by decide) ?_
        refine lv_iload_n hx hb dX3_atOdds_38 rfl (lv_at hl 2 rfl) ?_
        refine lv_iload_n hx hb dX3_atOdds_39 rfl (lv_at hl 3 rfl) ?_
        refine pr_i (va_runV (As := [.int 0, .int p1, .int p2]) (rest := []) ⟨hx, hb, hml, hown, hts⟩ (k_X3_hasCell l D cyI cyZ ad mc mw mn me mu mr mz mf mt 0 p1 p2 (vi_mono (vp_in_nI (n := 0) (N := 1) (by decide) (by decide)) (by decide))) (cwV 3 hts gX3_atOdds_X3_hasCell rfl rfl rfl (by decide +kernel) ⟨Nat.le_of_ble_eq_true rfl, Nat.le_of_ble_eq_true rfl⟩) (prV hG hP (ci := 3) rfl rfl rfl) rfl rfl hl.1 rfl (lv_room (Nat.le_of_ble_eq_true rfl)) dX3_atOdds_40 ⟨Nat.zero_le _, Nat.zero_le _⟩) hS hP (fun H locs hP hS => ?_)
        refine lv_if_eq (tgt := 84) hx hb dX3_atOdds_43 (by decide) (fun c_43 => ?_) (fun c_43 => ?_)
        · refine lv_iconst (v := 0) hx hb dX3_atOdds_84 (by decide) ?_
          refine lv_istore (lv' := [(4, .int 0), (3, .int 0), (0, .ref (ad 0)), (1, .int p1), (2, .int p2)]) hx hb dX3_atOdds_85 hl (by decide) rfl (fun ls hl => ?_)
          refine lv_iload_n hx hb dX3_atOdds_87 rfl (lv_at hl 1 rfl) ?_
          refine lv_if_eq (tgt := 117) hx hb dX3_atOdds_88 (by decide) (fun c_88 => ?_) (fun c_88 => ?_)
          · refine lv_iconst (v := 0) hx hb dX3_atOdds_117 (by decide) ?_
            have ef : f_X3_atOdds mc mw me mu p1 p2 = 0 := by rw [f_X3_atOdds, if_neg c_7, if_neg c_17, if_pos c_27, if_pos c_43]
            exact W.zret (v := 0) (ty := .boolean) hx hb hr rfl (fun t ht hW => ⟨⟨0, (), rfl, ef.symm, trivial⟩, hS.F ht⟩) hS.2.2 dX3_atOdds_118
          · exact absurd (by decide) c_88
        · refine lv_aload_n hx hb dX3_atOdds_46 rfl (lv_at hl 1 rfl) ?_
          refine lv_iconst (v := 0) hx hb dX3_atOdds_47 (by decide) ?_
          refine lv_iload_n hx hb dX3_atOdds_48 rfl (lv_at hl 2 rfl) ?_
          refine lv_iload_n hx hb dX3_atOdds_49 rfl (lv_at hl 3 rfl) ?_
          refine pr_i (va_runV (As := [.int 0, .int p1, .int p2]) (rest := []) ⟨hx, hb, hml, hown, hts⟩ (k_X3_at l D cyI cyZ ad mc mw mn me mu mr mz mf mt 0 p1 p2 (vi_mono (vp_in_nI (n := 0) (N := 1) (by decide) (by decide)) (by decide)) hi1 hi2) (cwV 3 hts gX3_atOdds_X3_at rfl rfl rfl (by decide +kernel) ⟨Nat.le_of_ble_eq_true rfl, Nat.le_of_ble_eq_true rfl⟩) (prV hG hP (ci := 3) rfl rfl rfl) rfl rfl hl.1 rfl (lv_room (Nat.le_of_ble_eq_true rfl)) dX3_atOdds_50 ⟨Nat.zero_le _, Nat.zero_le _⟩) hS hP (fun H locs hP hS => ?_)
          refine lv_aload_n hx hb dX3_atOdds_53 rfl (lv_at hl 1 rfl) ?_
          refine lv_iconst (v := 1) hx hb dX3_atOdds_54 (by decide) ?_
          refine lv_iload_n hx hb dX3_atOdds_55 rfl (lv_at hl 2 rfl) ?_
          refine lv_iload_n hx hb dX3_atOdds_56 rfl (lv_at hl 3 rfl) ?_
          refine pr_i (va_runV (As := [.int 1, .int p1, .int p2]) (rest := [.int (f_X3_at me 0 p1 p2)]) ⟨hx, hb, hml, hown, hts⟩ (k_X3_at l D cyI cyZ ad mc mw mn me mu mr mz mf mt 1 p1 p2 (vi_mono (vp_in_nI (n := 1) (N := 2) (by decide) (by decide)) (by decide)) hi1 hi2) (cwV 3 hts gX3_atOdds_X3_at rfl rfl rfl (by decide +kernel) ⟨Nat.le_of_ble_eq_true rfl, Nat.le_of_ble_eq_true rfl⟩) (prV hG hP (ci := 3) rfl rfl rfl) rfl rfl hl.1 rfl (lv_room (Nat.le_of_ble_eq_true rfl)) dX3_atOdds_57 ⟨Nat.zero_le _, Nat.zero_le _⟩) hS hP (fun H locs hP hS => ?_)
          refine lv_icmp_eq (tgt := 80) hx hb dX3_atOdds_60 (by decide) (fun c_60 => ?_) (fun c_60 => ?_)
          · refine lv_iconst (v := 1) hx hb dX3_atOdds_80 (by decide) ?_
            refine lv_goto (tgt := 85) hx hb dX3_atOdds_81 (by decide) ?_
            refine lv_istore (lv' := [(4, .int 1), (3, .int 0), (0, .ref (ad 0)), (1, .int p1), (2, .int p2)]) hx hb dX3_atOdds_85 hl (by decide) rfl (fun ls hl => ?_)
            refine lv_iload_n hx hb dX3_atOdds_87 rfl (lv_at hl 1 rfl) ?_
            refine lv_if_eq (tgt := 117) hx hb dX3_atOdds_88 (by decide) (fun c_88 => ?_) (fun c_88 => ?_)
            · refine lv_iconst (v := 0) hx hb dX3_atOdds_117 (by decide) ?_
              have ef : f_X3_atOdds mc mw me mu p1 p2 = 0 := by rw [f_X3_atOdds, if_neg c_7, if_neg c_17, if_pos c_27, if_neg c_43, if_pos c_60]
              exact W.zret (v := 0) (ty := .boolean) hx hb hr rfl (fun t ht hW => ⟨⟨0, (), rfl, ef.symm, trivial⟩, hS.F ht⟩) hS.2.2 dX3_atOdds_118
            · exact absurd (by decide) c_88
          · refine lv_aload_n hx hb dX3_atOdds_63 rfl (lv_at hl 1 rfl) ?_
            refine lv_iconst (v := 0) hx hb dX3_atOdds_64 (by decide) ?_
            refine lv_iload_n hx hb dX3_atOdds_65 rfl (lv_at hl 2 rfl) ?_
            refine lv_iload_n hx hb dX3_atOdds_66 rfl (lv_at hl 3 rfl) ?_
            refine pr_i (va_runV (As := [.int 0, .int p1, .int p2]) (rest := []) ⟨hx, hb, hml, hown, hts⟩ (k_X3_at l D cyI cyZ ad mc mw mn me mu mr mz mf mt 0 p1 p2 (vi_mono (vp_in_nI (n := 0) (N := 1) (by decide) (by decide)) (by decide)) hi1 hi2) (cwV 3 hts gX3_atOdds_X3_at rfl rfl rfl (by decide +kernel) ⟨Nat.le_of_ble_eq_true rfl, Nat.le_of_ble_eq_true rfl⟩) (prV hG hP (ci := 3) rfl rfl rfl) rfl rfl hl.1 rfl (lv_room (Nat.le_of_ble_eq_true rfl)) dX3_atOdds_67 ⟨Nat.zero_le _, Nat.zero_le _⟩) hS hP (fun H locs hP hS => ?_)
            refine lv_aload_n hx hb dX3_atOdds_70 rfl (lv_at hl 1 rfl) ?_
            refine lv_iconst (v := 2) hx hb dX3_atOdds_71 (by decide) ?_
            refine lv_iload_n hx hb dX3_atOdds_72 rfl (lv_at hl 2 rfl) ?_
            refine lv_iload_n hx hb dX3_atOdds_73 rfl (lv_at hl 3 rfl) ?_
            refine pr_i (va_runV (As := [.int 2, .int p1, .int p2]) (rest := [.int (f_X3_at me 0 p1 p2)]) ⟨hx, hb, hml, hown, hts⟩ (k_X3_at l D cyI cyZ ad mc mw mn me mu mr mz mf mt 2 p1 p2 (vi_mono (vp_in_nI (n := 2) (N := 3) (by decide) (by decide)) (by decide)) hi1 hi2) (cwV 3 hts gX3_atOdds_X3_at rfl rfl rfl (by decide +kernel) ⟨Nat.le_of_ble_eq_true rfl, Nat.le_of_ble_eq_true rfl⟩) (prV hG hP (ci := 3) rfl rfl rfl) rfl rfl hl.1 rfl (lv_room (Nat.le_of_ble_eq_true rfl)) dX3_atOdds_74 ⟨Nat.zero_le _, Nat.zero_le _⟩) hS hP (fun H locs hP hS => ?_)
            refine lv_icmp_ne (tgt := 84) hx hb dX3_atOdds_77 (by decide) (fun c_77 => ?_) (fun c_77 => ?_)
            · refine lv_iconst (v := 0) hx hb dX3_atOdds_84 (by decide) ?_
              refine lv_istore (lv' := [(4, .int 0), (3, .int 0), (0, .ref (ad 0)), (1, .int p1), (2, .int p2)]) hx hb dX3_atOdds_85 hl (by decide) rfl (fun ls hl => ?_)
              refine lv_iload_n hx hb dX3_atOdds_87 rfl (lv_at hl 1 rfl) ?_
              refine lv_if_eq (tgt := 117) hx hb dX3_atOdds_88 (by decide) (fun c_88 => ?_) (fun c_88 => ?_)
              · refine lv_iconst (v := 0) hx hb dX3_atOdds_117 (by decide) ?_
                have ef : f_X3_atOdds mc mw me mu p1 p2 = 0 := by rw [f_X3_atOdds, if_neg c_7, if_neg c_17, if_pos c_27, if_neg c_43, if_neg c_60, if_neg c_77]
                exact W.zret (v := 0) (ty := .boolean) hx hb hr rfl (fun t ht hW => ⟨⟨0, (), rfl, ef.symm, trivial⟩, hS.F ht⟩) hS.2.2 dX3_atOdds_118
              · exact absurd (by decide) c_88
            · refine lv_iconst (v := 1) hx hb dX3_atOdds_80 (by decide) ?_
              refine lv_goto (tgt := 85) hx hb dX3_atOdds_81 (by decide) ?_
              refine lv_istore (lv' := [(4, .int 1), (3, .int 0), (0, .ref (ad 0)), (1, .int p1), (2, .int p2)]) hx hb dX3_atOdds_85 hl (by decide) rfl (fun ls hl => ?_)
              refine lv_iload_n hx hb dX3_atOdds_87 rfl (lv_at hl 1 rfl) ?_
              refine lv_if_eq (tgt := 117) hx hb dX3_atOdds_88 (by decide) (fun c_88 => ?_) (fun c_88 => ?_)
              · refine lv_iconst (v := 0) hx hb dX3_atOdds_117 (by decide) ?_
                have ef : f_X3_atOdds mc mw me mu p1 p2 = 0 := by rw [f_X3_atOdds, if_neg c_7, if_neg c_17, if_pos c_27, if_neg c_43, if_neg c_60, if_pos c_77]
                exact W.zret (v := 0) (ty := .boolean) hx hb hr rfl (fun t ht hW => ⟨⟨0, (), rfl, ef.symm, trivial⟩, hS.F ht⟩) hS.2.2 dX3_atOdds_118
              · exact absurd (by decide) c_88
      · refine lv_iconst (v := 1) hx hb dX3_atOdds_30 (by decide) ?_
        refine lv_goto (tgt := 35) hx hb dX3_atOdds_31 (by decide) ?_
        refine lv_istore_n (lv' := [(3, .int 1), (0, .ref (ad 0)), (1, .int p1), (2, .int p2)]) hx hb dX3_atOdds_35 rfl hl (by decide) rfl (fun ls hl => ?_)
        refine lv_aload_n hx hb dX3_atOdds_36 rfl (lv_at hl 1 rfl) ?_
        refine lv_iconst (v := 0) hx hb dX3_atOdds_37 (by decide) ?_
        refine lv_iload_n hx hb dX3_atOdds_38 rfl (lv_at hl 2 rfl) ?_
        refine lv_iload_n hx hb dX3_atOdds_39 rfl (lv_at hl 3 rfl) ?_
        refine pr_i (va_runV (As := [.int 0, .int p1, .int p2]) (rest := []) ⟨hx, hb, hml, hown, hts⟩ (k_X3_hasCell l D cyI cyZ ad mc mw mn me mu mr mz mf mt 0 p1 p2 (vi_mono (vp_in_nI (n := 0) (N := 1) (by decide) (by decide)) (by decide))) (cwV 3 hts gX3_atOdds_X3_hasCell rfl rfl rfl (by decide +kernel) ⟨Nat.le_of_ble_eq_true rfl, Nat.le_of_ble_eq_true rfl⟩) (prV hG hP (ci := 3) rfl rfl rfl) rfl rfl hl.1 rfl (lv_room (Nat.le_of_ble_eq_true rfl)) dX3_atOdds_40 ⟨Nat.zero_le _, Nat.zero_le _⟩) hS hP (fun H locs hP hS => ?_)
        refine lv_if_eq (tgt := 84) hx hb dX3_atOdds_43 (by decide) (fun c_43 => ?_) (fun c_43 => ?_)
        · refine lv_iconst (v := 0) hx hb dX3_atOdds_84 (by decide) ?_
          refine lv_istore (lv' := [(4, .int 0), (3, .int 1), (0, .ref (ad 0)), (1, .int p1), (2, .int p2)]) hx hb dX3_atOdds_85 hl (by decide) rfl (fun ls hl => ?_)
          refine lv_iload_n hx hb dX3_atOdds_87 rfl (lv_at hl 1 rfl) ?_
          refine lv_if_eq (tgt := 117) hx hb dX3_atOdds_88 (by decide) (fun c_88 => ?_) (fun c_88 => ?_)
          · exact absurd c_88 (by decide)
          · refine lv_aload_n hx hb dX3_atOdds_91 rfl (lv_at hl 2 rfl) ?_
            refine lv_iconst (v := 1) hx hb dX3_atOdds_92 (by decide) ?_
            refine lv_iload_n hx hb dX3_atOdds_93 rfl (lv_at hl 3 rfl) ?_
            refine lv_iload_n hx hb dX3_atOdds_94 rfl (lv_at hl 4 rfl) ?_
            refine pr_i (va_runV (As := [.int 1, .int p1, .int p2]) (rest := []) ⟨hx, hb, hml, hown, hts⟩ (k_X3_at l D cyI cyZ ad mc mw mn me mu mr mz mf mt 1 p1 p2 (vi_mono (vp_in_nI (n := 1) (N := 2) (by decide) (by decide)) (by decide)) hi1 hi2) (cwV 3 hts gX3_atOdds_X3_at rfl rfl rfl (by decide +kernel) ⟨Nat.le_of_ble_eq_true rfl, Nat.le_of_ble_eq_true rfl⟩) (prV hG hP (ci := 3) rfl rfl rfl) rfl rfl hl.1 rfl (lv_room (Nat.le_of_ble_eq_true rfl)) dX3_atOdds_95 ⟨Nat.zero_le _, Nat.zero_le _⟩) hS hP (fun H locs hP hS => ?_)
            refine lv_aload_n hx hb dX3_atOdds_98 rfl (lv_at hl 2 rfl) ?_
            refine lv_iconst (v := 2) hx hb dX3_atOdds_99 (by decide) ?_
            refine lv_iload_n hx hb dX3_atOdds_100 rfl (lv_at hl 3 rfl) ?_
            refine lv_iload_n hx hb dX3_atOdds_101 rfl (lv_at hl 4 rfl) ?_
            refine pr_i (va_runV (As := [.int 2, .int p1, .int p2]) (rest := [.int (f_X3_at me 1 p1 p2)]) ⟨hx, hb, hml, hown, hts⟩ (k_X3_at l D cyI cyZ ad mc mw mn me mu mr mz mf mt 2 p1 p2 (vi_mono (vp_in_nI (n := 2) (N := 3) (by decide) (by decide)) (by decide)) hi1 hi2) (cwV 3 hts gX3_atOdds_X3_at rfl rfl rfl (by decide +kernel) ⟨Nat.le_of_ble_eq_true rfl, Nat.le_of_ble_eq_true rfl⟩) (prV hG hP (ci := 3) rfl rfl rfl) rfl rfl hl.1 rfl (lv_room (Nat.le_of_ble_eq_true rfl)) dX3_atOdds_102 ⟨Nat.zero_le _, Nat.zero_le _⟩) hS hP (fun H locs hP hS => ?_)
            refine lv_icmp_eq (tgt := 117) hx hb dX3_atOdds_105 (by decide) (fun c_105 => ?_) (fun c_105 => ?_)
            · refine lv_iconst (v := 0) hx hb dX3_atOdds_117 (by decide) ?_
              have ef : f_X3_atOdds mc mw me mu p1 p2 = 0 := by rw [f_X3_atOdds, if_neg c_7, if_neg c_17, if_neg c_27, if_pos c_43, if_pos c_105]
              exact W.zret (v := 0) (ty := .boolean) hx hb hr rfl (fun t ht hW => ⟨⟨0, (), rfl, ef.symm, trivial⟩, hS.F ht⟩) hS.2.2 dX3_atOdds_118
            · refine lv_iload hx hb dX3_atOdds_108 (lv_at hl 0 rfl) ?_
              refine lv_if_ne (tgt := 117) hx hb dX3_atOdds_110 (by decide) (fun c_110 => ?_) (fun c_110 => ?_)
              · exact absurd (by decide) c_110
              · refine lv_iconst (v := 1) hx hb dX3_atOdds_113 (by decide) ?_
                refine lv_goto (tgt := 118) hx hb dX3_atOdds_114 (by decide) ?_
                have ef : f_X3_atOdds mc mw me mu p1 p2 = 1 := by rw [f_X3_atOdds, if_neg c_7, if_neg c_17, if_neg c_27, if_pos c_43, if_neg c_105]
                exact W.zret (v := 1) (ty := .boolean) hx hb hr rfl (fun t ht hW => ⟨⟨1, (), rfl, ef.symm, trivial⟩, hS.F ht⟩) hS.2.2 dX3_atOdds_118
        · refine lv_aload_n hx hb dX3_atOdds_46 rfl (lv_at hl 1 rfl) ?_
          refine lv_iconst (v := 0) hx hb dX3_atOdds_47 (by decide) ?_
          refine lv_iload_n hx hb dX3_atOdds_48 rfl (lv_at hl 2 rfl) ?_
          refine lv_iload_n hx hb dX3_atOdds_49 rfl (lv_at hl 3 rfl) ?_
          refine pr_i (va_runV (As := [.int 0, .int p1, .int p2]) (rest := []) ⟨hx, hb, hml, hown, hts⟩ (k_X3_at l D cyI cyZ ad mc mw mn me mu mr mz mf mt 0 p1 p2 (vi_mono (vp_in_nI (n := 0) (N := 1) (by decide) (by decide)) (by decide)) hi1 hi2) (cwV 3 hts gX3_atOdds_X3_at rfl rfl rfl (by decide +kernel) ⟨Nat.le_of_ble_eq_true rfl, Nat.le_of_ble_eq_true rfl⟩) (prV hG hP (ci := 3) rfl rfl rfl) rfl rfl hl.1 rfl (lv_room (Nat.le_of_ble_eq_true rfl)) dX3_atOdds_50 ⟨Nat.zero_le _, Nat.zero_le _⟩) hS hP (fun H locs hP hS => ?_)
          refine lv_aload_n hx hb dX3_atOdds_53 rfl (lv_at hl 1 rfl) ?_
          refine lv_iconst (v := 1) hx hb dX3_atOdds_54 (by decide) ?_
          refine lv_iload_n hx hb dX3_atOdds_55 rfl (lv_at hl 2 rfl) ?_
          refine lv_iload_n hx hb dX3_atOdds_56 rfl (lv_at hl 3 rfl) ?_
          refine pr_i (va_runV (As := [.int 1, .int p1, .int p2]) (rest := [.int (f_X3_at me 0 p1 p2)]) ⟨hx, hb, hml, hown, hts⟩ (k_X3_at l D cyI cyZ ad mc mw mn me mu mr mz mf mt 1 p1 p2 (vi_mono (vp_in_nI (n := 1) (N := 2) (by decide) (by decide)) (by decide)) hi1 hi2) (cwV 3 hts gX3_atOdds_X3_at rfl rfl rfl (by decide +kernel) ⟨Nat.le_of_ble_eq_true rfl, Nat.le_of_ble_eq_true rfl⟩) (prV hG hP (ci := 3) rfl rfl rfl) rfl rfl hl.1 rfl (lv_room (Nat.le_of_ble_eq_true rfl)) dX3_atOdds_57 ⟨Nat.zero_le _, Nat.zero_le _⟩) hS hP (fun H locs hP hS => ?_)
          refine lv_icmp_eq (tgt := 80) hx hb dX3_atOdds_60 (by decide) (fun c_60 => ?_) (fun c_60 => ?_)
          · refine lv_iconst (v := 1) hx hb dX3_atOdds_80 (by decide) ?_
            refine lv_goto (tgt := 85) hx hb dX3_atOdds_81 (by decide) ?_
            refine lv_istore (lv' := [(4, .int 1), (3, .int 1), (0, .ref (ad 0)), (1, .int p1), (2, .int p2)]) hx hb dX3_atOdds_85 hl (by decide) rfl (fun ls hl => ?_)
            refine lv_iload_n hx hb dX3_atOdds_87 rfl (lv_at hl 1 rfl) ?_
            refine lv_if_eq (tgt := 117) hx hb dX3_atOdds_88 (by decide) (fun c_88 => ?_) (fun c_88 => ?_)
            · exact absurd c_88 (by decide)
            · refine lv_aload_n hx hb dX3_atOdds_91 rfl (lv_at hl 2 rfl) ?_
              refine lv_iconst (v := 1) hx hb dX3_atOdds_92 (by decide) ?_
              refine lv_iload_n hx hb dX3_atOdds_93 rfl (lv_at hl 3 rfl) ?_
              refine lv_iload_n hx hb dX3_atOdds_94 rfl (lv_at hl 4 rfl) ?_
              refine pr_i (va_runV (As := [.int 1, .int p1, .int p2]) (rest := []) ⟨hx, hb, hml, hown, hts⟩ (k_X3_at l D cyI cyZ ad mc mw mn me mu mr mz mf mt 1 p1 p2 (vi_mono (vp_in_nI (n := 1) (N := 2) (by decide) (by decide)) (by decide)) hi1 hi2) (cwV 3 hts gX3_atOdds_X3_at rfl rfl rfl (by decide +kernel) ⟨Nat.le_of_ble_eq_true rfl, Nat.le_of_ble_eq_true rfl⟩) (prV hG hP (ci := 3) rfl rfl rfl) rfl rfl hl.1 rfl (lv_room (Nat.le_of_ble_eq_true rfl)) dX3_atOdds_95 ⟨Nat.zero_le _, Nat.zero_le _⟩) hS hP (fun H locs hP hS => ?_)
              refine lv_aload_n hx hb dX3_atOdds_98 rfl (lv_at hl 2 rfl) ?_
              refine lv_iconst (v := 2) hx hb dX3_atOdds_99 (by decide) ?_
              refine lv_iload_n hx hb dX3_atOdds_100 rfl (lv_at hl 3 rfl) ?_
              refine lv_iload_n hx hb dX3_atOdds_101 rfl (lv_at hl 4 rfl) ?_
              refine pr_i (va_runV (As := [.int 2, .int p1, .int p2]) (rest := [.int (f_X3_at me 1 p1 p2)]) ⟨hx, hb, hml, hown, hts⟩ (k_X3_at l D cyI cyZ ad mc mw mn me mu mr mz mf mt 2 p1 p2 (vi_mono (vp_in_nI (n := 2) (N := 3) (by decide) (by decide)) (by decide)) hi1 hi2) (cwV 3 hts gX3_atOdds_X3_at rfl rfl rfl (by decide +kernel) ⟨Nat.le_of_ble_eq_true rfl, Nat.le_of_ble_eq_true rfl⟩) (prV hG hP (ci := 3) rfl rfl rfl) rfl rfl hl.1 rfl (lv_room (Nat.le_of_ble_eq_true rfl)) dX3_atOdds_102 ⟨Nat.zero_le _, Nat.zero_le _⟩) hS hP (fun H locs hP hS => ?_)
              refine lv_icmp_eq (tgt := 117) hx hb dX3_atOdds_105 (by decide) (fun c_105 => ?_) (fun c_105 => ?_)
              · refine lv_iconst (v := 0) hx hb dX3_atOdds_117 (by decide) ?_
                have ef : f_X3_atOdds mc mw me mu p1 p2 = 0 := by rw [f_X3_atOdds, if_neg c_7, if_neg c_17, if_neg c_27, if_neg c_43, if_pos c_60, if_pos c_105]
                exact W.zret (v := 0) (ty := .boolean) hx hb hr rfl (fun t ht hW => ⟨⟨0, (), rfl, ef.symm, trivial⟩, hS.F ht⟩) hS.2.2 dX3_atOdds_118
              · refine lv_iload hx hb dX3_atOdds_108 (lv_at hl 0 rfl) ?_
                refine lv_if_ne (tgt := 117) hx hb dX3_atOdds_110 (by decide) (fun c_110 => ?_) (fun c_110 => ?_)
                · refine lv_iconst (v := 0) hx hb dX3_atOdds_117 (by decide) ?_
                  have ef : f_X3_atOdds mc mw me mu p1 p2 = 0 := by rw [f_X3_atOdds, if_neg c_7, if_neg c_17, if_neg c_27, if_neg c_43, if_pos c_60, if_neg c_105]
                  exact W.zret (v := 0) (ty := .boolean) hx hb hr rfl (fun t ht hW => ⟨⟨0, (), rfl, ef.symm, trivial⟩, hS.F ht⟩) hS.2.2 dX3_atOdds_118
                · exact absurd c_110 (by decide)
          · refine lv_aload_n hx hb dX3_atOdds_63 rfl (lv_at hl 1 rfl) ?_
            refine lv_iconst (v := 0) hx hb dX3_atOdds_64 (by decide) ?_
            refine lv_iload_n hx hb dX3_atOdds_65 rfl (lv_at hl 2 rfl) ?_
            refine lv_iload_n hx hb dX3_atOdds_66 rfl (lv_at hl 3 rfl) ?_
            refine pr_i (va_runV (As := [.int 0, .int p1, .int p2]) (rest := []) ⟨hx, hb, hml, hown, hts⟩ (k_X3_at l D cyI cyZ ad mc mw mn me mu mr mz mf mt 0 p1 p2 (vi_mono (vp_in_nI (n := 0) (N := 1) (by decide) (by decide)) (by decide)) hi1 hi2) (cwV 3 hts gX3_atOdds_X3_at rfl rfl rfl (by decide +kernel) ⟨Nat.le_of_ble_eq_true rfl, Nat.le_of_ble_eq_true rfl⟩) (prV hG hP (ci := 3) rfl rfl rfl) rfl rfl hl.1 rfl (lv_room (Nat.le_of_ble_eq_true rfl)) dX3_atOdds_67 ⟨Nat.zero_le _, Nat.zero_le _⟩) hS hP (fun H locs hP hS => ?_)
            refine lv_aload_n hx hb dX3_atOdds_70 rfl (lv_at hl 1 rfl) ?_
            refine lv_iconst (v := 2) hx hb dX3_atOdds_71 (by decide) ?_
            refine lv_iload_n hx hb dX3_atOdds_72 rfl (lv_at hl 2 rfl) ?_
            refine lv_iload_n hx hb dX3_atOdds_73 rfl (lv_at hl 3 rfl) ?_
            refine pr_i (va_runV (As := [.int 2, .int p1, .int p2]) (rest := [.int (f_X3_at me 0 p1 p2)]) ⟨hx, hb, hml, hown, hts⟩ (k_X3_at l D cyI cyZ ad mc mw mn me mu mr mz mf mt 2 p1 p2 (vi_mono (vp_in_nI (n := 2) (N := 3) (by decide) (by decide)) (by decide)) hi1 hi2) (cwV 3 hts gX3_atOdds_X3_at rfl rfl rfl (by decide +kernel) ⟨Nat.le_of_ble_eq_true rfl, Nat.le_of_ble_eq_true rfl⟩) (prV hG hP (ci := 3) rfl rfl rfl) rfl rfl hl.1 rfl (lv_room (Nat.le_of_ble_eq_true rfl)) dX3_atOdds_74 ⟨Nat.zero_le _, Nat.zero_le _⟩) hS hP (fun H locs hP hS => ?_)
            refine lv_icmp_ne (tgt := 84) hx hb dX3_atOdds_77 (by decide) (fun c_77 => ?_) (fun c_77 => ?_)
            · refine lv_iconst (v := 0) hx hb dX3_atOdds_84 (by decide) ?_
              refine lv_istore (lv' := [(4, .int 0), (3, .int 1), (0, .ref (ad 0)), (1, .int p1), (2, .int p2)]) hx hb dX3_atOdds_85 hl (by decide) rfl (fun ls hl => ?_)
              refine lv_iload_n hx hb dX3_atOdds_87 rfl (lv_at hl 1 rfl) ?_
              refine lv_if_eq (tgt := 117) hx hb dX3_atOdds_88 (by decide) (fun c_88 => ?_) (fun c_88 => ?_)
              · exact absurd c_88 (by decide)
              · refine lv_aload_n hx hb dX3_atOdds_91 rfl (lv_at hl 2 rfl) ?_
                refine lv_iconst (v := 1) hx hb dX3_atOdds_92 (by decide) ?_
                refine lv_iload_n hx hb dX3_atOdds_93 rfl (lv_at hl 3 rfl) ?_
                refine lv_iload_n hx hb dX3_atOdds_94 rfl (lv_at hl 4 rfl) ?_
                refine pr_i (va_runV (As := [.int 1, .int p1, .int p2]) (rest := []) ⟨hx, hb, hml, hown, hts⟩ (k_X3_at l D cyI cyZ ad mc mw mn me mu mr mz mf mt 1 p1 p2 (vi_mono (vp_in_nI (n := 1) (N := 2) (by decide) (by decide)) (by decide)) hi1 hi2) (cwV 3 hts gX3_atOdds_X3_at rfl rfl rfl (by decide +kernel) ⟨Nat.le_of_ble_eq_true rfl, Nat.le_of_ble_eq_true rfl⟩) (prV hG hP (ci := 3) rfl rfl rfl) rfl rfl hl.1 rfl (lv_room (Nat.le_of_ble_eq_true rfl)) dX3_atOdds_95 ⟨Nat.zero_le _, Nat.zero_le _⟩) hS hP (fun H locs hP hS => ?_)
                refine lv_aload_n hx hb dX3_atOdds_98 rfl (lv_at hl 2 rfl) ?_
                refine lv_iconst (v := 2) hx hb dX3_atOdds_99 (by decide) ?_
                refine lv_iload_n hx hb dX3_atOdds_100 rfl (lv_at hl 3 rfl) ?_
                refine lv_iload_n hx hb dX3_atOdds_101 rfl (lv_at hl 4 rfl) ?_
                refine pr_i (va_runV (As := [.int 2, .int p1, .int p2]) (rest := [.int (f_X3_at me 1 p1 p2)]) ⟨hx, hb, hml, hown, hts⟩ (k_X3_at l D cyI cyZ ad mc mw mn me mu mr mz mf mt 2 p1 p2 (vi_mono (vp_in_nI (n := 2) (N := 3) (by decide) (by decide)) (by decide)) hi1 hi2) (cwV 3 hts gX3_atOdds_X3_at rfl rfl rfl (by decide +kernel) ⟨Nat.le_of_ble_eq_true rfl, Nat.le_of_ble_eq_true rfl⟩) (prV hG hP (ci := 3) rfl rfl rfl) rfl rfl hl.1 rfl (lv_room (Nat.le_of_ble_eq_true rfl)) dX3_atOdds_102 ⟨Nat.zero_le _, Nat.zero_le _⟩) hS hP (fun H locs hP hS => ?_)
                refine lv_icmp_eq (tgt := 117) hx hb dX3_atOdds_105 (by decide) (fun c_105 => ?_) (fun c_105 => ?_)
                · refine lv_iconst (v := 0) hx hb dX3_atOdds_117 (by decide) ?_
                  have ef : f_X3_atOdds mc mw me mu p1 p2 = 0 := by rw [f_X3_atOdds, if_neg c_7, if_neg c_17, if_neg c_27, if_neg c_43, if_neg c_60, if_neg c_77, if_pos c_105]
                  exact W.zret (v := 0) (ty := .boolean) hx hb hr rfl (fun t ht hW => ⟨⟨0, (), rfl, ef.symm, trivial⟩, hS.F ht⟩) hS.2.2 dX3_atOdds_118
                · refine lv_iload hx hb dX3_atOdds_108 (lv_at hl 0 rfl) ?_
                  refine lv_if_ne (tgt := 117) hx hb dX3_atOdds_110 (by decide) (fun c_110 => ?_) (fun c_110 => ?_)
                  · exact absurd (by decide) c_110
                  · refine lv_iconst (v := 1) hx hb dX3_atOdds_113 (by decide) ?_
                    refine lv_goto (tgt := 118) hx hb dX3_atOdds_114 (by decide) ?_
                    have ef : f_X3_atOdds mc mw me mu p1 p2 = 1 := by rw [f_X3_atOdds, if_neg c_7, if_neg c_17, if_neg c_27, if_neg c_43, if_neg c_60, if_neg c_77, if_neg c_105]
                    exact W.zret (v := 1) (ty := .boolean) hx hb hr rfl (fun t ht hW => ⟨⟨1, (), rfl, ef.symm, trivial⟩, hS.F ht⟩) hS.2.2 dX3_atOdds_118
            · refine lv_iconst (v := 1) hx hb dX3_atOdds_80 (by decide) ?_
              refine lv_goto (tgt := 85) hx hb dX3_atOdds_81 (by decide) ?_
              refine lv_istore (lv' := [(4, .int 1), (3, .int 1), (0, .ref (ad 0)), (1, .int p1), (2, .int p2)]) hx hb dX3_atOdds_85 hl (by decide) rfl (fun ls hl => ?_)
              refine lv_iload_n hx hb dX3_atOdds_87 rfl (lv_at hl 1 rfl) ?_
              refine lv_if_eq (tgt := 117) hx hb dX3_atOdds_88 (by decide) (fun c_88 => ?_) (fun c_88 => ?_)
              · exact absurd c_88 (by decide)
              · refine lv_aload_n hx hb dX3_atOdds_91 rfl (lv_at hl 2 rfl) ?_
                refine lv_iconst (v := 1) hx hb dX3_atOdds_92 (by decide) ?_
                refine lv_iload_n hx hb dX3_atOdds_93 rfl (lv_at hl 3 rfl) ?_
                refine lv_iload_n hx hb dX3_atOdds_94 rfl (lv_at hl 4 rfl) ?_
                refine pr_i (va_runV (As := [.int 1, .int p1, .int p2]) (rest := []) ⟨hx, hb, hml, hown, hts⟩ (k_X3_at l D cyI cyZ ad mc mw mn me mu mr mz mf mt 1 p1 p2 (vi_mono (vp_in_nI (n := 1) (N := 2) (by decide) (by decide)) (by decide)) hi1 hi2) (cwV 3 hts gX3_atOdds_X3_at rfl rfl rfl (by decide +kernel) ⟨Nat.le_of_ble_eq_true rfl, Nat.le_of_ble_eq_true rfl⟩) (prV hG hP (ci := 3) rfl rfl rfl) rfl rfl hl.1 rfl (lv_room (Nat.le_of_ble_eq_true rfl)) dX3_atOdds_95 ⟨Nat.zero_le _, Nat.zero_le _⟩) hS hP (fun H locs hP hS => ?_)
                refine lv_aload_n hx hb dX3_atOdds_98 rfl (lv_at hl 2 rfl) ?_
                refine lv_iconst (v := 2) hx hb dX3_atOdds_99 (by decide) ?_
                refine lv_iload_n hx hb dX3_atOdds_100 rfl (lv_at hl 3 rfl) ?_
                refine lv_iload_n hx hb dX3_atOdds_101 rfl (lv_at hl 4 rfl) ?_
                refine pr_i (va_runV (As := [.int 2, .int p1, .int p2]) (rest := [.int (f_X3_at me 1 p1 p2)]) ⟨hx, hb, hml, hown, hts⟩ (k_X3_at l D cyI cyZ ad mc mw mn me mu mr mz mf mt 2 p1 p2 (vi_mono (vp_in_nI (n := 2) (N := 3) (by decide) (by decide)) (by decide)) hi1 hi2) (cwV 3 hts gX3_atOdds_X3_at rfl rfl rfl (by decide +kernel) ⟨Nat.le_of_ble_eq_true rfl, Nat.le_of_ble_eq_true rfl⟩) (prV hG hP (ci := 3) rfl rfl rfl) rfl rfl hl.1 rfl (lv_room (Nat.le_of_ble_eq_true rfl)) dX3_atOdds_102 ⟨Nat.zero_le _, Nat.zero_le _⟩) hS hP (fun H locs hP hS => ?_)
                refine lv_icmp_eq (tgt := 117) hx hb dX3_atOdds_105 (by decide) (fun c_105 => ?_) (fun c_105 => ?_)
                · refine lv_iconst (v := 0) hx hb dX3_atOdds_117 (by decide) ?_
                  have ef : f_X3_atOdds mc mw me mu p1 p2 = 0 := by rw [f_X3_atOdds, if_neg c_7, if_neg c_17, if_neg c_27, if_neg c_43, if_neg c_60, if_pos c_77, if_pos c_105]
                  exact W.zret (v := 0) (ty := .boolean) hx hb hr rfl (fun t ht hW => ⟨⟨0, (), rfl, ef.symm, trivial⟩, hS.F ht⟩) hS.2.2 dX3_atOdds_118
                · refine lv_iload hx hb dX3_atOdds_108 (lv_at hl 0 rfl) ?_
                  refine lv_if_ne (tgt := 117) hx hb dX3_atOdds_110 (by decide) (fun c_110 => ?_) (fun c_110 => ?_)
                  · refine lv_iconst (v := 0) hx hb dX3_atOdds_117 (by decide) ?_
                    have ef : f_X3_atOdds mc mw me mu p1 p2 = 0 := by rw [f_X3_atOdds, if_neg c_7, if_neg c_17, if_neg c_27, if_neg c_43, if_neg c_60, if_pos c_77, if_neg c_105]
                    exact W.zret (v := 0) (ty := .boolean) hx hb hr rfl (fun t ht hW => ⟨⟨0, (), rfl, ef.symm, trivial⟩, hS.F ht⟩) hS.2.2 dX3_atOdds_118
                  · exact absurd c_110 (by decide)
def f_X3_mergedCell (mc : Nat → Int32) (mw : Nat → Int32) (me : Nat → Int32) (mu : Nat → Int32) (p1 : Int32) (p2 : Int32) : Int32 := if (f_X3_hasCell mc mw 1 p1 p2) = 0 then (if (f_X3_hasCell mc mw 2 p1 p2) = 0 then (if (f_X3_hasCell mc mw 0 p1 p2) = 0 then 0 + 0 else 0 + 0) else (if (f_X3_hasCell mc mw 0 p1 p2) = 0 then 0 + (f_X3_at me 2 p1 p2) else 0 + (f_X3_at me 2 p1 p2))) else (if (f_X3_hasCell mc mw 2 p1 p2) = 0 then (if (f_X3_hasCell mc mw 0 p1 p2) = 0 then (f_X3_at me 1 p1 p2) + 0 else (f_X3_at me 1 p1 p2) + 0) else (if (f_X3_hasCell mc mw 0 p1 p2) = 0 then (if (mu (p2).toNatClampNeg) = 3 then ((f_X3_at me 1 p1 p2) + (f_X3_at me 2 p1 p2)) - 0 else (if (f_X3_atOdds mc mw me mu p1 p2) = 0 then f_X3_at me 1 p1 p2 else (if (mu (p2).toNatClampNeg) = 2 then (if (f_X3_at me 2 p1 p2) ≤ (f_X3_at me 1 p1 p2) then f_X3_at me 1 p1 p2 else f_X3_at me 2 p1 p2) else f_X3_at me 1 p1 p2))) else (if (mu (p2).toNatClampNeg) = 3 then ((f_X3_at me 1 p1 p2) + (f_X3_at me 2 p1 p2)) - (f_X3_at me 0 p1 p2) else (if (f_X3_atOdds mc mw me mu p1 p2) = 0 then (if (f_X3_at me 1 p1 p2) = (f_X3_at me 0 p1 p2) then f_X3_at me 2 p1 p2 else f_X3_at me 1 p1 p2) else (if (mu (p2).toNatClampNeg) = 2 then (if (f_X3_at me 2 p1 p2) ≤ (f_X3_at me 1 p1 p2) then f_X3_at me 1 p1 p2 else f_X3_at me 2 p1 p2) else f_X3_at me 1 p1 p2)))))
theorem uin_X3_mergedCell_X3 : ∀ w ∈ wsX30, w ∈ wsX3_mergedCell := fun _ h => List.mem_cons_of_mem _ (List.mem_append_right _ h)
set_option maxHeartbeats 4000000 in
set_option maxRecDepth 100000 in
theorem k_X3_mergedCell (l : Launch) (D : va_G) (cyI cyZ : ClassId) (ad : Nat → Nat) (mc : Nat → Int32) (mw : Nat → Int32) (mn : Nat → Int32) (me : Nat → Int32) (mu : Nat → Int32) (mr : Nat → Int32) (mz : Kr) (mf : Int32) (mt : Int32) (p1 : Int32) (p2 : Int32) (hi1 : vp_in p1 24) (hi2 : vp_in p2 8) : Met l yX3_mergedCell wsX3_mergedCell ({ frames := 3, cells := 0, slots := 0, locals := 69 } : Room) (pcP D cyI cyZ [.ref (ad 0), .int p1, .int p2] (wN cyI cyZ ad mc mw mn me mu mr mz mf mt)) (qI (f_X3_mergedCell mc mw me mu p1 p2)) 0 0 nA := by
  refine Met.ofW (cc := cX3_mergedCell) (maxL := 8) (ret := (some .int)) (by decide) rfl ?_
  intro p e s m args below meth c s₁ B hml hv
  obtain ⟨rfl, hP, hG⟩ := hv
  have hx := B.exec
  have hb := B.bytes
  have hr := B.returns
  have hts := atoms_spec (ws := wsX3_mergedCell) B.pre
  have hown : s.vm.findClass RX3 = some m.cls := findClass_of_methodNamed B.named
  have hlocks := B.notSynchronized
  have hS : va_S nA s.heap s.heap [] := va_S.rf
  have hl := lv_entry ([.ref (ad 0), .int p1, .int p2]) (n := 8) (Nat.le_of_ble_eq_true rfl)
  rw [lg_entry_eq]
  generalize (lg_sl ([.ref (ad 0), .int p1, .int p2]) ++ List.replicate (8 - (lg_sl ([.ref (ad 0), .int p1, .int p2])).length) Slot.unset).toArray = ls at hl ⊢
  have hl : lv_has ls 8 [(0, .ref (ad 0)), (1, .int p1), (2, .int p2)] := hl
  have hP : va_P D vwCl (wN cyI cyZ ad mc mw mn me mu mr mz mf mt) s.heap := hP
  refine lv_aload_n hx hb dX3_mergedCell_0 rfl (lv_at hl 0 rfl) ?_
  refine lv_iconst (v := 1) hx hb dX3_mergedCell_1 (by decide) ?_
  refine lv_iload_n hx hb dX3_mergedCell_2 rfl (lv_at hl 1 rfl) ?_
  refine lv_iload_n hx hb dX3_mergedCell_3 rfl (lv_at hl 2 rfl) ?_
  refine pr_i (va_runV (As := [.int 1, .int p1, .int p2]) (rest := []) ⟨hx, hb, hml, hown, hts⟩ (k_X3_hasCell l D cyI cyZ ad mc mw mn me mu mr mz mf mt 1 p1 p2 (vi_mono (vp_in_nI (n := 1) (N := 2) (by decide) (by decide)) (by decide))) (cwV 3 hts gX3_mergedCell_X3_hasCell rfl rfl rfl (by decide +kernel) ⟨Nat.le_of_ble_eq_true rfl, Nat.le_of_ble_eq_true rfl⟩) (prV hG hP (ci := 3) rfl rfl rfl) rfl rfl hl.1 rfl (lv_room (Nat.le_of_ble_eq_true rfl)) dX3_mergedCell_4 ⟨Nat.zero_le _, Nat.zero_le _⟩) hS hP (fun H locs hP hS => ?_)
  refine lv_istore_n (lv' := [(3, .int (f_X3_hasCell mc mw 1 p1 p2)), (0, .ref (ad 0)), (1, .int p1), (2, .int p2)]) hx hb dX3_mergedCell_7 rfl hl (by decide) rfl (fun ls hl => ?_)
  refine lv_aload_n hx hb dX3_mergedCell_8 rfl (lv_at hl 1 rfl) ?_
  refine lv_iconst (v := 2) hx hb dX3_mergedCell_9 (by decide) ?_
  refine lv_iload_n hx hb dX3_mergedCell_10 rfl (lv_at hl 2 rfl) ?_
  refine lv_iload_n hx hb dX3_mergedCell_11 rfl (lv_at hl 3 rfl) ?_
  refine pr_i (va_runV (As := [.int 2, .int p1, .int p2]) (rest := []) ⟨hx, hb, hml, hown, hts⟩ (k_X3_hasCell l D cyI cyZ ad mc mw mn me mu mr mz mf mt 2 p1 p2 (vi_mono (vp_in_nI (n := 2) (N := 3) (by decide) (by decide)) (by decide))) (cwV 3 hts gX3_mergedCell_X3_hasCell rfl rfl rfl (by decide +kernel) ⟨Nat.le_of_ble_eq_true rfl, Nat.le_of_ble_eq_true rfl⟩) (prV hG hP (ci := 3) rfl rfl rfl) rfl rfl hl.1 rfl (lv_room (Nat.le_of_ble_eq_true rfl)) dX3_mergedCell_12 ⟨Nat.zero_le _, Nat.zero_le _⟩) hS hP (fun H locs hP hS => ?_)
  refine lv_istore (lv' := [(4, .int (f_X3_hasCell mc mw 2 p1 p2)), (3, .int (f_X3_hasCell mc mw 1 p1 p2)), (0, .ref (ad 0)), (1, .int p1), (2, .int p2)]) hx hb dX3_mergedCell_15 hl (by decide) rfl (fun ls hl => ?_)
  refine lv_iload_n hx hb dX3_mergedCell_17 rfl (lv_at hl 1 rfl) ?_
  refine lv_if_eq (tgt := 31) hx hb dX3_mergedCell_18 (by decide) (fun c_18 => ?_) (fun c_18 => ?_)
  · refine lv_iconst (v := 0) hx hb dX3_mergedCell_31 (by decide) ?_
    refine lv_istore (lv' := [(5, .int 0), (4, .int (f_X3_hasCell mc mw 2 p1 p2)), (3, .int (f_X3_hasCell mc mw 1 p1 p2)), (0, .ref (ad 0)), (1, .int p1), (2, .int p2)]) hx hb dX3_mergedCell_32 hl (by decide) rfl (fun ls hl => ?_)
    refine lv_iload hx hb dX3_mergedCell_34 (lv_at hl 1 rfl) ?_
    refine lv_if_eq (tgt := 49) hx hb dX3_mergedCell_36 (by decide) (fun c_36 => ?_) (fun c_36 => ?_)
    · refine lv_iconst (v := 0) hx hb dX3_mergedCell_49 (by decide) ?_
      refine lv_istore (lv' := [(6, .int 0), (5, .int 0), (4, .int (f_X3_hasCell mc mw 2 p1 p2)), (3, .int (f_X3_hasCell mc mw 1 p1 p2)), (0, .ref (ad 0)), (1, .int p1), (2, .int p2)]) hx hb dX3_mergedCell_50 hl (by decide) rfl (fun ls hl => ?_)
      refine lv_aload_n hx hb dX3_mergedCell_52 rfl (lv_at hl 4 rfl) ?_
      refine lv_iconst (v := 0) hx hb dX3_mergedCell_53 (by decide) ?_
      refine lv_iload_n hx hb dX3_mergedCell_54 rfl (lv_at hl 5 rfl) ?_
      refine lv_iload_n hx hb dX3_mergedCell_55 rfl (lv_at hl 6 rfl) ?_
      refine pr_i (va_runV (As := [.int 0, .int p1, .int p2]) (rest := []) ⟨hx, hb, hml, hown, hts⟩ (k_X3_hasCell l D cyI cyZ ad mc mw mn me mu mr mz mf mt 0 p1 p2 (vi_mono (vp_in_nI (n := 0) (N := 1) (by decide) (by decide)) (by decide))) (cwV 3 hts gX3_mergedCell_X3_hasCell rfl rfl rfl (by decide +kernel) ⟨Nat.le_of_ble_eq_true rfl, Nat.le_of_ble_eq_true rfl⟩) (prV hG hP (ci := 3) rfl rfl rfl) rfl rfl hl.1 rfl (lv_room (Nat.le_of_ble_eq_true rfl)) dX3_mergedCell_56 ⟨Nat.zero_le _, Nat.zero_le _⟩) hS hP (fun H locs hP hS => ?_)
      refine lv_if_eq (tgt := 72) hx hb dX3_mergedCell_59 (by decide) (fun c_59 => ?_) (fun c_59 => ?_)
      · refine lv_iconst (v := 0) hx hb dX3_mergedCell_72 (by decide) ?_
        refine lv_istore (lv' := [(7, .int 0), (6, .int 0), (5, .int 0), (4, .int (f_X3_hasCell mc mw 2 p1 p2)), (3, .int (f_X3_hasCell mc mw 1 p1 p2)), (0, .ref (ad 0)), (1, .int p1), (2, .int p2)]) hx hb dX3_mergedCell_73 hl (by decide) rfl (fun ls hl => ?_)
        refine lv_iload_n hx hb dX3_mergedCell_75 rfl (lv_at hl 4 rfl) ?_
        refine lv_if_eq (tgt := 84) hx hb dX3_mergedCell_76 (by decide) (fun c_76 => ?_) (fun c_76 => ?_)
        · refine lv_iload hx hb dX3_mergedCell_84 (lv_at hl 2 rfl) ?_
          refine lv_iload hx hb dX3_mergedCell_86 (lv_at hl 1 rfl) ?_
          refine lv_iadd hx hb dX3_mergedCell_88 ?_
          have ef : f_X3_mergedCell mc mw me mu p1 p2 = 0 + 0 := by rw [f_X3_mergedCell, if_pos c_18, if_pos c_36, if_pos c_59]
          exact W.iret (v := 0 + 0) hx hb hr (fun t ht hW => ⟨⟨0 + 0, (), rfl, ef.symm, trivial⟩, hS.F ht⟩) hS.2.2 dX3_mergedCell_89
        · exact absurd c_18 c_76
      · refine lv_aload_n hx hb dX3_mergedCell_62 rfl (lv_at hl 4 rfl) ?_
        refine lv_iconst (v := 0) hx hb dX3_mergedCell_63 (by decide) ?_
        refine lv_iload_n hx hb dX3_mergedCell_64 rfl (lv_at hl 5 rfl) ?_
        refine lv_iload_n hx hb dX3_mergedCell_65 rfl (lv_at hl 6 rfl) ?_
        refine pr_i (va_runV (As := [.int 0, .int p1, .int p2]) (rest := []) ⟨hx, hb, hml, hown, hts⟩ (k_X3_at l D cyI cyZ ad mc mw mn me mu mr mz mf mt 0 p1 p2 (vi_mono (vp_in_nI (n := 0) (N := 1) (by decide) (by decide)) (by decide)) hi1 hi2) (cwV 3 hts gX3_mergedCell_X3_at rfl rfl rfl (by decide +kernel) ⟨Nat.le_of_ble_eq_true rfl, Nat.le_of_ble_eq_true rfl⟩) (prV hG hP (ci := 3) rfl rfl rfl) rfl rfl hl.1 rfl (lv_room (Nat.le_of_ble_eq_true rfl)) dX3_mergedCell_66 ⟨Nat.zero_le _, Nat.zero_le _⟩) hS hP (fun H locs hP hS => ?_)
        refine lv_goto (tgt := 73) hx hb dX3_mergedCell_69 (by decide) ?_
        refine lv_istore (lv' := [(7, .int (f_X3_at me 0 p1 p2)), (6, .int 0), (5, .int 0), (4, .int (f_X3_hasCell mc mw 2 p1 p2)), (3, .int (f_X3_hasCell mc mw 1 p1 p2)), (0, .ref (ad 0)), (1, .int p1), (2, .int p2)]) hx hb dX3_mergedCell_73 hl (by decide) rfl (fun ls hl => ?_)
        refine lv_iload_n hx hb dX3_mergedCell_75 rfl (lv_at hl 4 rfl) ?_
        refine lv_if_eq (tgt := 84) hx hb dX3_mergedCell_76 (by decide) (fun c_76 => ?_) (fun c_76 => ?_)
        · refine lv_iload hx hb dX3_mergedCell_84 (lv_at hl 2 rfl) ?_
          refine lv_iload hx hb dX3_mergedCell_86 (lv_at hl 1 rfl) ?_
          refine lv_iadd hx hb dX3_mergedCell_88 ?_
          have ef : f_X3_mergedCell mc mw me mu p1 p2 = 0 + 0 := by rw [f_X3_mergedCell, if_pos c_18, if_pos c_36, if_neg c_59]
          exact W.iret (v := 0 + 0) hx hb hr (fun t ht hW => ⟨⟨0 + 0, (), rfl, ef.symm, trivial⟩, hS.F ht⟩) hS.2.2 dX3_mergedCell_89
        · exact absurd c_18 c_76
    · refine lv_aload_n hx hb dX3_mergedCell_39 rfl (lv_at hl 3 rfl) ?_
      refine lv_iconst (v := 2) hx hb dX3_mergedCell_40 (by decide) ?_
      refine lv_iload_n hx hb dX3_mergedCell_41 rfl (lv_at hl 4 rfl) ?_
      refine lv_iload_n hx hb dX3_mergedCell_42 rfl (lv_at hl 5 rfl) ?_
      refine pr_i (va_runV (As := [.int 2, .int p1, .int p2]) (rest := []) ⟨hx, hb, hml, hown, hts⟩ (k_X3_at l D cyI cyZ ad mc mw mn me mu mr mz mf mt 2 p1 p2 (vi_mono (vp_in_nI (n := 2) (N := 3) (by decide) (by decide)) (by decide)) hi1 hi2) (cwV 3 hts gX3_mergedCell_X3_at rfl rfl rfl (by decide +kernel) ⟨Nat.le_of_ble_eq_true rfl, Nat.le_of_ble_eq_true rfl⟩) (prV hG hP (ci := 3) rfl rfl rfl) rfl rfl hl.1 rfl (lv_room (Nat.le_of_ble_eq_true rfl)) dX3_mergedCell_43 ⟨Nat.zero_le _, Nat.zero_le _⟩) hS hP (fun H locs hP hS => ?_)
      refine lv_goto (tgt := 50) hx hb dX3_mergedCell_46 (by decide) ?_
      refine lv_istore (lv' := [(6, .int (f_X3_at me 2 p1 p2)), (5, .int 0), (4, .int (f_X3_hasCell mc mw 2 p1 p2)), (3, .int (f_X3_hasCell mc mw 1 p1 p2)), (0, .ref (ad 0)), (1, .int p1), (2, .int p2)]) hx hb dX3_mergedCell_50 hl (by decide) rfl (fun ls hl => ?_)
      refine lv_aload_n hx hb dX3_mergedCell_52 rfl (lv_at hl 4 rfl) ?_
      refine lv_iconst (v := 0) hx hb dX3_mergedCell_53 (by decide) ?_
      refine lv_iload_n hx hb dX3_mergedCell_54 rfl (lv_at hl 5 rfl) ?_
      refine lv_iload_n hx hb dX3_mergedCell_55 rfl (lv_at hl 6 rfl) ?_
      refine pr_i (va_runV (As := [.int 0, .int p1, .int p2]) (rest := []) ⟨hx, hb, hml, hown, hts⟩ (k_X3_hasCell l D cyI cyZ ad mc mw mn me mu mr mz mf mt 0 p1 p2 (vi_mono (vp_in_nI (n := 0) (N := 1) (by decide) (by decide)) (by decide))) (cwV 3 hts gX3_mergedCell_X3_hasCell rfl rfl rfl (by decide +kernel) ⟨Nat.le_of_ble_eq_true rfl, Nat.le_of_ble_eq_true rfl⟩) (prV hG hP (ci := 3) rfl rfl rfl) rfl rfl hl.1 rfl (lv_room (Nat.le_of_ble_eq_true rfl)) dX3_mergedCell_56 ⟨Nat.zero_le _, Nat.zero_le _⟩) hS hP (fun H locs hP hS => ?_)
      refine lv_if_eq (tgt := 72) hx hb dX3_mergedCell_59 (by decide) (fun c_59 => ?_) (fun c_59 => ?_)
      · refine lv_iconst (v := 0) hx hb dX3_mergedCell_72 (by decide) ?_
        refine lv_istore (lv' := [(7, .int 0), (6, .int (f_X3_at me 2 p1 p2)), (5, .int 0), (4, .int (f_X3_hasCell mc mw 2 p1 p2)), (3, .int (f_X3_hasCell mc mw 1 p1 p2)), (0, .ref (ad 0)), (1, .int p1), (2, .int p2)]) hx hb dX3_mergedCell_73 hl (by decide) rfl (fun ls hl => ?_)
        refine lv_iload_n hx hb dX3_mergedCell_75 rfl (lv_at hl 4 rfl) ?_
        refine lv_if_eq (tgt := 84) hx hb dX3_mergedCell_76 (by decide) (fun c_76 => ?_) (fun c_76 => ?_)
        · refine lv_iload hx hb dX3_mergedCell_84 (lv_at hl 2 rfl) ?_
          refine lv_iload hx hb dX3_mergedCell_86 (lv_at hl 1 rfl) ?_
          refine lv_iadd hx hb dX3_mergedCell_88 ?_
          have ef : f_X3_mergedCell mc mw me mu p1 p2 = 0 + (f_X3_at me 2 p1 p2) := by rw [f_X3_mergedCell, if_pos c_18, if_neg c_36, if_pos c_59]
          exact W.iret (v := 0 + (f_X3_at me 2 p1 p2)) hx hb hr (fun t ht hW => ⟨⟨0 + (f_X3_at me 2 p1 p2), (), rfl, ef.symm, trivial⟩, hS.F ht⟩) hS.2.2 dX3_mergedCell_89
        · exact absurd c_18 c_76
      · refine lv_aload_n hx hb dX3_mergedCell_62 rfl (lv_at hl 4 rfl) ?_
        refine lv_iconst (v := 0) hx hb dX3_mergedCell_63 (by decide) ?_
        refine lv_iload_n hx hb dX3_mergedCell_64 rfl (lv_at hl 5 rfl) ?_
        refine lv_iload_n hx hb dX3_mergedCell_65 rfl (lv_at hl 6 rfl) ?_
        refine pr_i (va_runV (As := [.int 0, .int p1, .int p2]) (rest := []) ⟨hx, hb, hml, hown, hts⟩ (k_X3_at l D cyI cyZ ad mc mw mn me mu mr mz mf mt 0 p1 p2 (vi_mono (vp_in_nI (n := 0) (N := 1) (by decide) (by decide)) (by decide)) hi1 hi2) (cwV 3 hts gX3_mergedCell_X3_at rfl rfl rfl (by decide +kernel) ⟨Nat.le_of_ble_eq_true rfl, Nat.le_of_ble_eq_true rfl⟩) (prV hG hP (ci := 3) rfl rfl rfl) rfl rfl hl.1 rfl (lv_room (Nat.le_of_ble_eq_true rfl)) dX3_mergedCell_66 ⟨Nat.zero_le _, Nat.zero_le _⟩) hS hP (fun H locs hP hS => ?_)
        refine lv_goto (tgt := 73) hx hb dX3_mergedCell_69 (by decide) ?_
        refine lv_istore (lv' := [(7, .int (f_X3_at me 0 p1 p2)), (6, .int (f_X3_at me 2 p1 p2)), (5, .int 0), (4, .int (f_X3_hasCell mc mw 2 p1 p2)), (3, .int (f_X3_hasCell mc mw 1 p1 p2)), (0, .ref (ad 0)), (1, .int p1), (2, .int p2)]) hx hb dX3_mergedCell_73 hl (by decide) rfl (fun ls hl => ?_)
        refine lv_iload_n hx hb dX3_mergedCell_75 rfl (lv_at hl 4 rfl) ?_
        refine lv_if_eq (tgt := 84) hx hb dX3_mergedCell_76 (by decide) (fun c_76 => ?_) (fun c_76 => ?_)
        · refine lv_iload hx hb dX3_mergedCell_84 (lv_at hl 2 rfl) ?_
          refine lv_iload hx hb dX3_mergedCell_86 (lv_at hl 1 rfl) ?_
          refine lv_iadd hx hb dX3_mergedCell_88 ?_
          have ef : f_X3_mergedCell mc mw me mu p1 p2 = 0 + (f_X3_at me 2 p1 p2) := by rw [f_X3_mergedCell, if_pos c_18, if_neg c_36, if_neg c_59]
          exact W.iret (v := 0 + (f_X3_at me 2 p1 p2)) hx hb hr (fun t ht hW => ⟨⟨0 + (f_X3_at me 2 p1 p2), (), rfl, ef.symm, trivial⟩, hS.F ht⟩) hS.2.2 dX3_mergedCell_89
        · exact absurd c_18 c_76
  · refine lv_aload_n hx hb dX3_mergedCell_21 rfl (lv_at hl 2 rfl) ?_
    refine lv_iconst (v := 1) hx hb dX3_mergedCell_22 (by decide) ?_
    refine lv_iload_n hx hb dX3_mergedCell_23 rfl (lv_at hl 3 rfl) ?_
    refine lv_iload_n hx hb dX3_mergedCell_24 rfl (lv_at hl 4 rfl) ?_
    refine pr_i (va_runV (As := [.int 1, .int p1, .int p2]) (rest := []) ⟨hx, hb, hml, hown, hts⟩ (k_X3_at l D cyI cyZ ad mc mw mn me mu mr mz mf mt 1 p1 p2 (vi_mono (vp_in_nI (n := 1) (N := 2) (by decide) (by decide)) (by decide)) hi1 hi2) (cwV 3 hts gX3_mergedCell_X3_at rfl rfl rfl (by decide +kernel) ⟨Nat.le_of_ble_eq_true rfl, Nat.le_of_ble_eq_true rfl⟩) (prV hG hP (ci := 3) rfl rfl rfl) rfl rfl hl.1 rfl (lv_room (Nat.le_of_ble_eq_true rfl)) dX3_mergedCell_25 ⟨Nat.zero_le _, Nat.zero_le _⟩) hS hP (fun H locs hP hS => ?_)
    refine lv_goto (tgt := 32) hx hb dX3_mergedCell_28 (by decide) ?_
    refine lv_istore (lv' := [(5, .int (f_X3_at me 1 p1 p2)), (4, .int (f_X3_hasCell mc mw 2 p1 p2)), (3, .int (f_X3_hasCell mc mw 1 p1 p2)), (0, .ref (ad 0)), (1, .int p1), (2, .int p2)]) hx hb dX3_mergedCell_32 hl (by decide) rfl (fun ls hl => ?_)
    refine lv_iload hx hb dX3_mergedCell_34 (lv_at hl 1 rfl) ?_
    refine lv_if_eq (tgt := 49) hx hb dX3_mergedCell_36 (by decide) (fun c_36 => ?_) (fun c_36 => ?_)
    · refine lv_iconst (v := 0) hx hb dX3_mergedCell_49 (by decide) ?_
      refine lv_istore (lv' := [(6, .int 0), (5, .int (f_X3_at me 1 p1 p2)), (4, .int (f_X3_hasCell mc mw 2 p1 p2)), (3, .int (f_X3_hasCell mc mw 1 p1 p2)), (0, .ref (ad 0)), (1, .int p1), (2, .int p2)]) hx hb dX3_mergedCell_50 hl (by decide) rfl (fun ls hl => ?_)
      refine lv_aload_n hx hb dX3_mergedCell_52 rfl (lv_at hl 4 rfl) ?_
      refine lv_iconst (v := 0) hx hb dX3_mergedCell_53 (by decide) ?_
      refine lv_iload_n hx hb dX3_mergedCell_54 rfl (lv_at hl 5 rfl) ?_
      refine lv_iload_n hx hb dX3_mergedCell_55 rfl (lv_at hl 6 rfl) ?_
      refine pr_i (va_runV (As := [.int 0, .int p1, .int p2]) (rest := []) ⟨hx, hb, hml, hown, hts⟩ (k_X3_hasCell l D cyI cyZ ad mc mw mn me mu mr mz mf mt 0 p1 p2 (vi_mono (vp_in_nI (n := 0) (N := 1) (by decide) (by decide)) (by decide))) (cwV 3 hts gX3_mergedCell_X3_hasCell rfl rfl rfl (by decide +kernel) ⟨Nat.le_of_ble_eq_true rfl, Nat.le_of_ble_eq_true rfl⟩) (prV hG hP (ci := 3) rfl rfl rfl) rfl rfl hl.1 rfl (lv_room (Nat.le_of_ble_eq_true rfl)) dX3_mergedCell_56 ⟨Nat.zero_le _, Nat.zero_le _⟩) hS hP (fun H locs hP hS => ?_)
      refine lv_if_eq (tgt := 72) hx hb dX3_mergedCell_59 (by decide) (fun c_59 => ?_) (fun c_59 => ?_)
      · refine lv_iconst (v := 0) hx hb dX3_mergedCell_72 (by decide) ?_
        refine lv_istore (lv' := [(7, .int 0), (6, .int 0), (5, .int (f_X3_at me 1 p1 p2)), (4, .int (f_X3_hasCell mc mw 2 p1 p2)), (3, .int (f_X3_hasCell mc mw 1 p1 p2)), (0, .ref (ad 0)), (1, .int p1), (2, .int p2)]) hx hb dX3_mergedCell_73 hl (by decide) rfl (fun ls hl => ?_)
        refine lv_iload_n hx hb dX3_mergedCell_75 rfl (lv_at hl 4 rfl) ?_
        refine lv_if_eq (tgt := 84) hx hb dX3_mergedCell_76 (by decide) (fun c_76 => ?_) (fun c_76 => ?_)
        · exact absurd c_76 c_18
        · refine lv_iload hx hb dX3_mergedCell_79 (lv_at hl 3 rfl) ?_
          refine lv_if_ne (tgt := 90) hx hb dX3_mergedCell_81 (by decide) (fun c_81 => ?_) (fun c_81 => ?_)
          · exact absurd c_36 c_81
          · refine lv_iload hx hb dX3_mergedCell_84 (lv_at hl 2 rfl) ?_
            refine lv_iload hx hb dX3_mergedCell_86 (lv_at hl 1 rfl) ?_
            refine lv_iadd hx hb dX3_mergedCell_88 ?_
            have ef : f_X3_mergedCell mc mw me mu p1 p2 = (f_X3_at me 1 p1 p2) + 0 := by rw [f_X3_mergedCell, if_neg c_18, if_pos c_36, if_pos c_59]
            exact W.iret (v := (f_X3_at me 1 p1 p2) + 0) hx hb hr (fun t ht hW => ⟨⟨(f_X3_at me 1 p1 p2) + 0, (), rfl, ef.symm, trivial⟩, hS.F ht⟩) hS.2.2 dX3_mergedCell_89
      · refine lv_aload_n hx hb dX3_mergedCell_62 rfl (lv_at hl 4 rfl) ?_
        refine lv_iconst (v := 0) hx hb dX3_mergedCell_63 (by decide) ?_
        refine lv_iload_n hx hb dX3_mergedCell_64 rfl (lv_at hl 5 rfl) ?_
        refine lv_iload_n hx hb dX3_mergedCell_65 rfl (lv_at hl 6 rfl) ?_
        refine pr_i (va_runV (As := [.int 0, .int p1, .int p2]) (rest := []) ⟨hx, hb, hml, hown, hts⟩ (k_X3_at l D cyI cyZ ad mc mw mn me mu mr mz mf mt 0 p1 p2 (vi_mono (vp_in_nI (n := 0) (N := 1) (by decide) (by decide)) (by decide)) hi1 hi2) (cwV 3 hts gX3_mergedCell_X3_at rfl rfl rfl (by decide +kernel) ⟨Nat.le_of_ble_eq_true rfl, Nat.le_of_ble_eq_true rfl⟩) (prV hG hP (ci := 3) rfl rfl rfl) rfl rfl hl.1 rfl (lv_room (Nat.le_of_ble_eq_true rfl)) dX3_mergedCell_66 ⟨Nat.zero_le _, Nat.zero_le _⟩) hS hP (fun H locs hP hS => ?_)
        refine lv_goto (tgt := 73) hx hb dX3_mergedCell_69 (by decide) ?_
        refine lv_istore (lv' := [(7, .int (f_X3_at me 0 p1 p2)), (6, .int 0), (5, .int (f_X3_at me 1 p1 p2)), (4, .int (f_X3_hasCell mc mw 2 p1 p2)), (3, .int (f_X3_hasCell mc mw 1 p1 p2)), (0, .ref (ad 0)), (1, .int p1), (2, .int p2)]) hx hb dX3_mergedCell_73 hl (by decide) rfl (fun ls hl => ?_)
        refine lv_iload_n hx hb dX3_mergedCell_75 rfl (lv_at hl 4 rfl) ?_
        refine lv_if_eq (tgt := 84) hx hb dX3_mergedCell_76 (by decide) (fun c_76 => ?_) (fun c_76 => ?_)
        · exact absurd c_76 c_18
        · refine lv_iload hx hb dX3_mergedCell_79 (lv_at hl 3 rfl) ?_
          refine lv_if_ne (tgt := 90) hx hb dX3_mergedCell_81 (by decide) (fun c_81 => ?_) (fun c_81 => ?_)
          · exact absurd c_36 c_81
          · refine lv_iload hx hb dX3_mergedCell_84 (lv_at hl 2 rfl) ?_
            refine lv_iload hx hb dX3_mergedCell_86 (lv_at hl 1 rfl) ?_
            refine lv_iadd hx hb dX3_mergedCell_88 ?_
            have ef : f_X3_mergedCell mc mw me mu p1 p2 = (f_X3_at me 1 p1 p2) + 0 := by rw [f_X3_mergedCell, if_neg c_18, if_pos c_36, if_neg c_59]
            exact W.iret (v := (f_X3_at me 1 p1 p2) + 0) hx hb hr (fun t ht hW => ⟨⟨(f_X3_at me 1 p1 p2) + 0, (), rfl, ef.symm, trivial⟩, hS.F ht⟩) hS.2.2 dX3_mergedCell_89
    · refine lv_aload_n hx hb dX3_mergedCell_39 rfl (lv_at hl 3 rfl) ?_
      refine lv_iconst (v := 2) hx hb dX3_mergedCell_40 (by decide) ?_
      refine lv_iload_n hx hb dX3_mergedCell_41 rfl (lv_at hl 4 rfl) ?_
      refine lv_iload_n hx hb dX3_mergedCell_42 rfl (lv_at hl 5 rfl) ?_
      refine pr_i (va_runV (As := [.int 2, .int p1, .int p2]) (rest := []) ⟨hx, hb, hml, hown, hts⟩ (k_X3_at l D cyI cyZ ad mc mw mn me mu mr mz mf mt 2 p1 p2 (vi_mono (vp_in_nI (n := 2) (N := 3) (by decide) (by decide)) (by decide)) hi1 hi2) (cwV 3 hts gX3_mergedCell_X3_at rfl rfl rfl (by decide +kernel) ⟨Nat.le_of_ble_eq_true rfl, Nat.le_of_ble_eq_true rfl⟩) (prV hG hP (ci := 3) rfl rfl rfl) rfl rfl hl.1 rfl (lv_room (Nat.le_of_ble_eq_true rfl)) dX3_mergedCell_43 ⟨Nat.zero_le _, Nat.zero_le _⟩) hS hP (fun H locs hP hS => ?_)
      refine lv_goto (tgt := 50) hx hb dX3_mergedCell_46 (by decide) ?_
      refine lv_istore (lv' := [(6, .int (f_X3_at me 2 p1 p2)), (5, .int (f_X3_at me 1 p1 p2)), (4, .int (f_X3_hasCell mc mw 2 p1 p2)), (3, .int (f_X3_hasCell mc mw 1 p1 p2)), (0, .ref (ad 0)), (1, .int p1), (2, .int p2)]) hx hb dX3_mergedCell_50 hl (by decide) rfl (fun ls hl => ?_)
      refine lv_aload_n hx hb dX3_mergedCell_52 rfl (lv_at hl 4 rfl) ?_
      refine lv_iconst (v := 0) hx hb dX3_mergedCell_53 (by decide) ?_
      refine lv_iload_n hx hb dX3_mergedCell_54 rfl (lv_at hl 5 rfl) ?_
      refine lv_iload_n hx hb dX3_mergedCell_55 rfl (lv_at hl 6 rfl) ?_
      refine pr_i (va_runV (As := [.int 0, .int p1, .int p2]) (rest := []) ⟨hx, hb, hml, hown, hts⟩ (k_X3_hasCell l D cyI cyZ ad mc mw mn me mu mr mz mf mt 0 p1 p2 (vi_mono (vp_in_nI (n := 0) (N := 1) (by decide) (by decide)) (by decide))) (cwV 3 hts gX3_mergedCell_X3_hasCell rfl rfl rfl (by decide +kernel) ⟨Nat.le_of_ble_eq_true rfl, Nat.le_of_ble_eq_true rfl⟩) (prV hG hP (ci := 3) rfl rfl rfl) rfl rfl hl.1 rfl (lv_room (Nat.le_of_ble_eq_true rfl)) dX3_mergedCell_56 ⟨Nat.zero_le _, Nat.zero_le _⟩) hS hP (fun H locs hP hS => ?_)
      refine lv_if_eq (tgt := 72) hx hb dX3_mergedCell_59 (by decide) (fun c_59 => ?_) (fun c_59 => ?_)
      · refine lv_iconst (v := 0) hx hb dX3_mergedCell_72 (by decide) ?_
        refine lv_istore (lv' := [(7, .int 0), (6, .int (f_X3_at me 2 p1 p2)), (5, .int (f_X3_at me 1 p1 p2)), (4, .int (f_X3_hasCell mc mw 2 p1 p2)), (3, .int (f_X3_hasCell mc mw 1 p1 p2)), (0, .ref (ad 0)), (1, .int p1), (2, .int p2)]) hx hb dX3_mergedCell_73 hl (by decide) rfl (fun ls hl => ?_)
        refine lv_iload_n hx hb dX3_mergedCell_75 rfl (lv_at hl 4 rfl) ?_
        refine lv_if_eq (tgt := 84) hx hb dX3_mergedCell_76 (by decide) (fun c_76 => ?_) (fun c_76 => ?_)
        · exact absurd c_76 c_18
        · refine lv_iload hx hb dX3_mergedCell_79 (lv_at hl 3 rfl) ?_
          refine lv_if_ne (tgt := 90) hx hb dX3_mergedCell_81 (by decide) (fun c_81 => ?_) (fun c_81 => ?_)
          · refine lv_aload_n hx hb dX3_mergedCell_90 rfl (lv_at hl 5 rfl) ?_
            refine va_get (D := D) (ci := 3) (v := .ref (ad 5)) (C := RX3) (T := TX3) (N := 13) hx hb hts uin_X3_mergedCell_X3 hown hG.1 hP 0 rfl rfl 4 (by decide) (hts (.fieldLink RX3 22 "TableSpliceModel" "rule" "[I") (List.mem_of_getElem? (i := 1) rfl)) (fun _ h9 => h9) rfl dX3_mergedCell_91 ?_
            refine lv_iload_n hx hb dX3_mergedCell_94 rfl (lv_at hl 7 rfl) ?_
            refine va_iald hx hb hG.1 hP 5 0 rfl rfl hi2 dX3_mergedCell_95 ?_
            refine lv_iconst (v := 3) hx hb dX3_mergedCell_96 (by decide) ?_
            refine lv_icmp_ne (tgt := 109) hx hb dX3_mergedCell_97 (by decide) (fun c_97 => ?_) (fun c_97 => ?_)
            · refine lv_aload_n hx hb dX3_mergedCell_109 rfl (lv_at hl 5 rfl) ?_
              refine lv_iload_n hx hb dX3_mergedCell_110 rfl (lv_at hl 6 rfl) ?_
              refine lv_iload_n hx hb dX3_mergedCell_111 rfl (lv_at hl 7 rfl) ?_
              refine pr_i (va_runV (As := [.int p1, .int p2]) (rest := []) ⟨hx, hb, hml, hown, hts⟩ (k_X3_atOdds l D cyI cyZ ad mc mw mn me mu mr mz mf mt p1 p2 hi1 hi2) (cwV 2 hts gX3_mergedCell_X3_atOdds rfl rfl rfl (by decide +kernel) ⟨Nat.le_of_ble_eq_true rfl, Nat.le_of_ble_eq_true rfl⟩) (prV hG hP (ci := 3) rfl rfl rfl) rfl rfl hl.1 rfl (lv_room (Nat.le_of_ble_eq_true rfl)) dX3_mergedCell_112 ⟨Nat.zero_le _, Nat.zero_le _⟩) hS hP (fun H locs hP hS => ?_)
              refine lv_if_eq (tgt := 143) hx hb dX3_mergedCell_115 (by decide) (fun c_115 => ?_) (fun c_115 => ?_)
              · refine lv_aload_n hx hb dX3_mergedCell_143 rfl (lv_at hl 5 rfl) ?_
                refine lv_iconst (v := 0) hx hb dX3_mergedCell_144 (by decide) ?_
                refine lv_iload_n hx hb dX3_mergedCell_145 rfl (lv_at hl 6 rfl) ?_
                refine lv_iload_n hx hb dX3_mergedCell_146 rfl (lv_at hl 7 rfl) ?_
                refine pr_i (va_runV (As := [.int 0, .int p1, .int p2]) (rest := []) ⟨hx, hb, hml, hown, hts⟩ (k_X3_hasCell l D cyI cyZ ad mc mw mn me mu mr mz mf mt 0 p1 p2 (vi_mono (vp_in_nI (n := 0) (N := 1) (by decide) (by decide)) (by decide))) (cwV 3 hts gX3_mergedCell_X3_hasCell rfl rfl rfl (by decide +kernel) ⟨Nat.le_of_ble_eq_true rfl, Nat.le_of_ble_eq_true rfl⟩) (prV hG hP (ci := 3) rfl rfl rfl) rfl rfl hl.1 rfl (lv_room (Nat.le_of_ble_eq_true rfl)) dX3_mergedCell_147 ⟨Nat.zero_le _, Nat.zero_le _⟩) hS hP (fun H locs hP hS => ?_)
                refine lv_if_eq (tgt := 165) hx hb dX3_mergedCell_150 (by decide) (fun c_150 => ?_) (fun c_150 => ?_)
                · refine lv_iload hx hb dX3_mergedCell_165 (lv_at hl 2 rfl) ?_
                  have ef : f_X3_mergedCell mc mw me mu p1 p2 = f_X3_at me 1 p1 p2 := by rw [f_X3_mergedCell, if_neg c_18, if_neg c_36, if_pos c_59, if_neg c_97, if_pos c_115]
                  exact W.iret (v := f_X3_at me 1 p1 p2) hx hb hr (fun t ht hW => ⟨⟨f_X3_at me 1 p1 p2, (), rfl, ef.symm, trivial⟩, hS.F ht⟩) hS.2.2 dX3_mergedCell_167
                · exact absurd c_59 c_150
              · refine lv_aload_n hx hb dX3_mergedCell_118 rfl (lv_at hl 5 rfl) ?_
                refine va_get (D := D) (ci := 3) (v := .ref (ad 5)) (C := RX3) (T := TX3) (N := 13) hx hb hts uin_X3_mergedCell_X3 hown hG.1 hP 0 rfl rfl 4 (by decide) (hts (.fieldLink RX3 22 "TableSpliceModel" "rule" "[I") (List.mem_of_getElem? (i := 1) rfl)) (fun _ h9 => h9) rfl dX3_mergedCell_119 ?_
                refine lv_iload_n hx hb dX3_mergedCell_122 rfl (lv_at hl 7 rfl) ?_
                refine va_iald hx hb hG.1 hP 5 0 rfl rfl hi2 dX3_mergedCell_123 ?_
                refine lv_iconst (v := 2) hx hb dX3_mergedCell_124 (by decide) ?_
                refine lv_icmp_ne (tgt := 140) hx hb dX3_mergedCell_125 (by decide) (fun c_125 => ?_) (fun c_125 => ?_)
                · refine lv_iload hx hb dX3_mergedCell_140 (lv_at hl 2 rfl) ?_
                  have ef : f_X3_mergedCell mc mw me mu p1 p2 = f_X3_at me 1 p1 p2 := by rw [f_X3_mergedCell, if_neg c_18, if_neg c_36, if_pos c_59, if_neg c_97, if_neg c_115, if_neg c_125]
                  exact W.iret (v := f_X3_at me 1 p1 p2) hx hb hr (fun t ht hW => ⟨⟨f_X3_at me 1 p1 p2, (), rfl, ef.symm, trivial⟩, hS.F ht⟩) hS.2.2 dX3_mergedCell_142
                · refine lv_iload hx hb dX3_mergedCell_128 (lv_at hl 1 rfl) ?_
                  refine lv_iload hx hb dX3_mergedCell_130 (lv_at hl 2 rfl) ?_
                  refine lv_icmp_le (tgt := 140) hx hb dX3_mergedCell_132 (by decide) (fun c_132 => ?_) (fun c_132 => ?_)
                  · refine lv_iload hx hb dX3_mergedCell_140 (lv_at hl 2 rfl) ?_
                    have ef : f_X3_mergedCell mc mw me mu p1 p2 = f_X3_at me 1 p1 p2 := by rw [f_X3_mergedCell, if_neg c_18, if_neg c_36, if_pos c_59, if_neg c_97, if_neg c_115, if_pos c_125, if_pos c_132]
                    exact W.iret (v := f_X3_at me 1 p1 p2) hx hb hr (fun t ht hW => ⟨⟨f_X3_at me 1 p1 p2, (), rfl, ef.symm, trivial⟩, hS.F ht⟩) hS.2.2 dX3_mergedCell_142
                  · refine lv_iload hx hb dX3_mergedCell_135 (lv_at hl 1 rfl) ?_
                    refine lv_goto (tgt := 142) hx hb dX3_mergedCell_137 (by decide) ?_
                    have ef : f_X3_mergedCell mc mw me mu p1 p2 = f_X3_at me 2 p1 p2 := by rw [f_X3_mergedCell, if_neg c_18, if_neg c_36, if_pos c_59, if_neg c_97, if_neg c_115, if_pos c_125, if_neg c_132]
                    exact W.iret (v := f_X3_at me 2 p1 p2) hx hb hr (fun t ht hW => ⟨⟨f_X3_at me 2 p1 p2, (), rfl, ef.symm, trivial⟩, hS.F ht⟩) hS.2.2 dX3_mergedCell_142
            · refine lv_iload hx hb dX3_mergedCell_100 (lv_at hl 2 rfl) ?_
              refine lv_iload hx hb dX3_mergedCell_102 (lv_at hl 1 rfl) ?_
              refine lv_iadd hx hb dX3_mergedCell_104 ?_
              refine lv_iload hx hb dX3_mergedCell_105 (lv_at hl 0 rfl) ?_
              refine lv_isub hx hb dX3_mergedCell_107 ?_
              have ef : f_X3_mergedCell mc mw me mu p1 p2 = ((f_X3_at me 1 p1 p2) + (f_X3_at me 2 p1 p2)) - 0 := by rw [f_X3_mergedCell, if_neg c_18, if_neg c_36, if_pos c_59, if_pos c_97]
              exact W.iret (v := ((f_X3_at me 1 p1 p2) + (f_X3_at me 2 p1 p2)) - 0) hx hb hr (fun t ht hW => ⟨⟨((f_X3_at me 1 p1 p2) + (f_X3_at me 2 p1 p2)) - 0, (), rfl, ef.symm, trivial⟩, hS.F ht⟩) hS.2.2 dX3_mergedCell_108
          · exact absurd c_81 c_36
      · refine lv_aload_n hx hb dX3_mergedCell_62 rfl (lv_at hl 4 rfl) ?_
        refine lv_iconst (v := 0) hx hb dX3_mergedCell_63 (by decide) ?_
        refine lv_iload_n hx hb dX3_mergedCell_64 rfl (lv_at hl 5 rfl) ?_
        refine lv_iload_n hx hb dX3_mergedCell_65 rfl (lv_at hl 6 rfl) ?_
        refine pr_i (va_runV (As := [.int 0, .int p1, .int p2]) (rest := []) ⟨hx, hb, hml, hown, hts⟩ (k_X3_at l D cyI cyZ ad mc mw mn me mu mr mz mf mt 0 p1 p2 (vi_mono (vp_in_nI (n := 0) (N := 1) (by decide) (by decide)) (by decide)) hi1 hi2) (cwV 3 hts gX3_mergedCell_X3_at rfl rfl rfl (by decide +kernel) ⟨Nat.le_of_ble_eq_true rfl, Nat.le_of_ble_eq_true rfl⟩) (prV hG hP (ci := 3) rfl rfl rfl) rfl rfl hl.1 rfl (lv_room (Nat.le_of_ble_eq_true rfl)) dX3_mergedCell_66 ⟨Nat.zero_le _, Nat.zero_le _⟩) hS hP (fun H locs hP hS => ?_)
        refine lv_goto (tgt := 73) hx hb dX3_mergedCell_69 (by decide) ?_
        refine lv_istore (lv' := [(7, .int (f_X3_at me 0 p1 p2)), (6, .int (f_X3_at me 2 p1 p2)), (5, .int (f_X3_at me 1 p1 p2)), (4, .int (f_X3_hasCell mc mw 2 p1 p2)), (3, .int (f_X3_hasCell mc mw 1 p1 p2)), (0, .ref (ad 0)), (1, .int p1), (2, .int p2)]) hx hb dX3_mergedCell_73 hl (by decide) rfl (fun ls hl => ?_)
        refine lv_iload_n hx hb dX3_mergedCell_75 rfl (lv_at hl 4 rfl) ?_
        refine lv_if_eq (tgt := 84) hx hb dX3_mergedCell_76 (by decide) (fun c_76 => ?_) (fun c_76 => ?_)
        · exact absurd c_76 c_18
        · refine lv_iload hx hb dX3_mergedCell_79 (lv_at hl 3 rfl) ?_
          refine lv_if_ne (tgt := 90) hx hb dX3_mergedCell_81 (by decide) (fun c_81 => ?_) (fun c_81 => ?_)
          · refine lv_aload_n hx hb dX3_mergedCell_90 rfl (lv_at hl 5 rfl) ?_
            refine va_get (D := D) (ci := 3) (v := .ref (ad 5)) (C := RX3) (T := TX3) (N := 13) hx hb hts uin_X3_mergedCell_X3 hown hG.1 hP 0 rfl rfl 4 (by decide) (hts (.fieldLink RX3 22 "TableSpliceModel" "rule" "[I") (List.mem_of_getElem? (i := 1) rfl)) (fun _ h9 => h9) rfl dX3_mergedCell_91 ?_
            refine lv_iload_n hx hb dX3_mergedCell_94 rfl (lv_at hl 7 rfl) ?_
            refine va_iald hx hb hG.1 hP 5 0 rfl rfl hi2 dX3_mergedCell_95 ?_
            refine lv_iconst (v := 3) hx hb dX3_mergedCell_96 (by decide) ?_
            refine lv_icmp_ne (tgt := 109) hx hb dX3_mergedCell_97 (by decide) (fun c_97 => ?_) (fun c_97 => ?_)
            · refine lv_aload_n hx hb dX3_mergedCell_109 rfl (lv_at hl 5 rfl) ?_
              refine lv_iload_n hx hb dX3_mergedCell_110 rfl (lv_at hl 6 rfl) ?_
              refine lv_iload_n hx hb dX3_mergedCell_111 rfl (lv_at hl 7 rfl) ?_
              refine pr_i (va_runV (As := [.int p1, .int p2]) (rest := []) ⟨hx, hb, hml, hown, hts⟩ (k_X3_atOdds l D cyI cyZ ad mc mw mn me mu mr mz mf mt p1 p2 hi1 hi2) (cwV 2 hts gX3_mergedCell_X3_atOdds rfl rfl rfl (by decide +kernel) ⟨Nat.le_of_ble_eq_true rfl, Nat.le_of_ble_eq_true rfl⟩) (prV hG hP (ci := 3) rfl rfl rfl) rfl rfl hl.1 rfl (lv_room (Nat.le_of_ble_eq_true rfl)) dX3_mergedCell_112 ⟨Nat.zero_le _, Nat.zero_le _⟩) hS hP (fun H locs hP hS => ?_)
              refine lv_if_eq (tgt := 143) hx hb dX3_mergedCell_115 (by decide) (fun c_115 => ?_) (fun c_115 => ?_)
              · refine lv_aload_n hx hb dX3_mergedCell_143 rfl (lv_at hl 5 rfl) ?_
                refine lv_iconst (v := 0) hx hb dX3_mergedCell_144 (by decide) ?_
                refine lv_iload_n hx hb dX3_mergedCell_145 rfl (lv_at hl 6 rfl) ?_
                refine lv_iload_n hx hb dX3_mergedCell_146 rfl (lv_at hl 7 rfl) ?_
                refine pr_i (va_runV (As := [.int 0, .int p1, .int p2]) (rest := []) ⟨hx, hb, hml, hown, hts⟩ (k_X3_hasCell l D cyI cyZ ad mc mw mn me mu mr mz mf mt 0 p1 p2 (vi_mono (vp_in_nI (n := 0) (N := 1) (by decide) (by decide)) (by decide))) (cwV 3 hts gX3_mergedCell_X3_hasCell rfl rfl rfl (by decide +kernel) ⟨Nat.le_of_ble_eq_true rfl, Nat.le_of_ble_eq_true rfl⟩) (prV hG hP (ci := 3) rfl rfl rfl) rfl rfl hl.1 rfl (lv_room (Nat.le_of_ble_eq_true rfl)) dX3_mergedCell_147 ⟨Nat.zero_le _, Nat.zero_le _⟩) hS hP (fun H locs hP hS => ?_)
                refine lv_if_eq (tgt := 165) hx hb dX3_mergedCell_150 (by decide) (fun c_150 => ?_) (fun c_150 => ?_)
                · exact absurd c_150 c_59
                · refine lv_iload hx hb dX3_mergedCell_153 (lv_at hl 2 rfl) ?_
                  refine lv_iload hx hb dX3_mergedCell_155 (lv_at hl 0 rfl) ?_
                  refine lv_icmp_ne (tgt := 165) hx hb dX3_mergedCell_157 (by decide) (fun c_157 => ?_) (fun c_157 => ?_)
                  · refine lv_iload hx hb dX3_mergedCell_165 (lv_at hl 2 rfl) ?_
                    have ef : f_X3_mergedCell mc mw me mu p1 p2 = f_X3_at me 1 p1 p2 := by rw [f_X3_mergedCell, if_neg c_18, if_neg c_36, if_neg c_59, if_neg c_97, if_pos c_115, if_neg c_157]
                    exact W.iret (v := f_X3_at me 1 p1 p2) hx hb hr (fun t ht hW => ⟨⟨f_X3_at me 1 p1 p2, (), rfl, ef.symm, trivial⟩, hS.F ht⟩) hS.2.2 dX3_mergedCell_167
                  · refine lv_iload hx hb dX3_mergedCell_160 (lv_at hl 1 rfl) ?_
                    refine lv_goto (tgt := 167) hx hb dX3_mergedCell_162 (by decide) ?_
                    have ef : f_X3_mergedCell mc mw me mu p1 p2 = f_X3_at me 2 p1 p2 := by rw [f_X3_mergedCell, if_neg c_18, if_neg c_36, if_neg c_59, if_neg c_97, if_pos c_115, if_pos c_157]
                    exact W.iret (v := f_X3_at me 2 p1 p2) hx hb hr (fun t ht hW => ⟨⟨f_X3_at me 2 p1 p2, (), rfl, ef.symm, trivial⟩, hS.F ht⟩) hS.2.2 dX3_mergedCell_167
              · refine lv_aload_n hx hb dX3_mergedCell_118 rfl (lv_at hl 5 rfl) ?_
                refine va_get (D := D) (ci := 3) (v := .ref (ad 5)) (C := RX3) (T := TX3) (N := 13) hx hb hts uin_X3_mergedCell_X3 hown hG.1 hP 0 rfl rfl 4 (by decide) (hts (.fieldLink RX3 22 "TableSpliceModel" "rule" "[I") (List.mem_of_getElem? (i := 1) rfl)) (fun _ h9 => h9) rfl dX3_mergedCell_119 ?_
                refine lv_iload_n hx hb dX3_mergedCell_122 rfl (lv_at hl 7 rfl) ?_
                refine va_iald hx hb hG.1 hP 5 0 rfl rfl hi2 dX3_mergedCell_123 ?_
                refine lv_iconst (v := 2) hx hb dX3_mergedCell_124 (by decide) ?_
                refine lv_icmp_ne (tgt := 140) hx hb dX3_mergedCell_125 (by decide) (fun c_125 => ?_) (fun c_125 => ?_)
                · refine lv_iload hx hb dX3_mergedCell_140 (lv_at hl 2 rfl) ?_
                  have ef : f_X3_mergedCell mc mw me mu p1 p2 = f_X3_at me 1 p1 p2 := by rw [f_X3_mergedCell, if_neg c_18, if_neg c_36, if_neg c_59, if_neg c_97, if_neg c_115, if_neg c_125]
                  exact W.iret (v := f_X3_at me 1 p1 p2) hx hb hr (fun t ht hW => ⟨⟨f_X3_at me 1 p1 p2, (), rfl, ef.symm, trivial⟩, hS.F ht⟩) hS.2.2 dX3_mergedCell_142
                · refine lv_iload hx hb dX3_mergedCell_128 (lv_at hl 1 rfl) ?_
                  refine lv_iload hx hb dX3_mergedCell_130 (lv_at hl 2 rfl) ?_
                  refine lv_icmp_le (tgt := 140) hx hb dX3_mergedCell_132 (by decide) (fun c_132 => ?_) (fun c_132 => ?_)
                  · refine lv_iload hx hb dX3_mergedCell_140 (lv_at hl 2 rfl) ?_
                    have ef : f_X3_mergedCell mc mw me mu p1 p2 = f_X3_at me 1 p1 p2 := by rw [f_X3_mergedCell, if_neg c_18, if_neg c_36, if_neg c_59, if_neg c_97, if_neg c_115, if_pos c_125, if_pos c_132]
                    exact W.iret (v := f_X3_at me 1 p1 p2) hx hb hr (fun t ht hW => ⟨⟨f_X3_at me 1 p1 p2, (), rfl, ef.symm, trivial⟩, hS.F ht⟩) hS.2.2 dX3_mergedCell_142
                  · refine lv_iload hx hb dX3_mergedCell_135 (lv_at hl 1 rfl) ?_
                    refine lv_goto (tgt := 142) hx hb dX3_mergedCell_137 (by decide) ?_
                    have ef : f_X3_mergedCell mc mw me mu p1 p2 = f_X3_at me 2 p1 p2 := by rw [f_X3_mergedCell, if_neg c_18, if_neg c_36, if_neg c_59, if_neg c_97, if_neg c_115, if_pos c_125, if_neg c_132]
                    exact W.iret (v := f_X3_at me 2 p1 p2) hx hb hr (fun t ht hW => ⟨⟨f_X3_at me 2 p1 p2, (), rfl, ef.symm, trivial⟩, hS.F ht⟩) hS.2.2 dX3_mergedCell_142
            · refine lv_iload hx hb dX3_mergedCell_100 (lv_at hl 2 rfl) ?_
              refine lv_iload hx hb dX3_mergedCell_102 (lv_at hl 1 rfl) ?_
              refine lv_iadd hx hb dX3_mergedCell_104 ?_
              refine lv_iload hx hb dX3_mergedCell_105 (lv_at hl 0 rfl) ?_
              refine lv_isub hx hb dX3_mergedCell_107 ?_
              have ef : f_X3_mergedCell mc mw me mu p1 p2 = ((f_X3_at me 1 p1 p2) + (f_X3_at me 2 p1 p2)) - (f_X3_at me 0 p1 p2) := by rw [f_X3_mergedCell, if_neg c_18, if_neg c_36, if_neg c_59, if_pos c_97]
              exact W.iret (v := ((f_X3_at me 1 p1 p2) + (f_X3_at me 2 p1 p2)) - (f_X3_at me 0 p1 p2)) hx hb hr (fun t ht hW => ⟨⟨((f_X3_at me 1 p1 p2) + (f_X3_at me 2 p1 p2)) - (f_X3_at me 0 p1 p2), (), rfl, ef.symm, trivial⟩, hS.F ht⟩) hS.2.2 dX3_mergedCell_108
          · exact absurd c_81 c_36
