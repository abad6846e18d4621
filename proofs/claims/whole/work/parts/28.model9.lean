theorem vt_in {x : Int32} {n : Nat} (h : vp_in x n) : x.toNatClampNeg < n := Nat.lt_of_not_le (fun z => h (Or.inr z))
def f_X3_settle (mc : Nat → Int32) (mw : Nat → Int32) (mn : Nat → Int32) (me : Nat → Int32) (mz : Kr) (mf : Int32) (p1 : Int32) (p2 : Int32) : Int32 × (Nat → Int32) × (Nat → Int32) × (Nat → Int32) × (Nat → Int32) × Kr × Int32 := if (f_X3_isIn p1 0 ((nI mz.1) - 1)) = 0 then ((0, mc, mw, mn, me, mz, 1)) else (if (f_X3_isIn p2 1 2) = 0 then ((0, mc, mw, mn, me, mz, 1)) else (if (mz.2.2.2.2 (p1).toNatClampNeg) = 0 then (if mf = 0 then (0, mc, mw, mn, me, mz, 2) else (if (mz.2.1 (p1).toNatClampNeg) = 1 then (f_X3_left (mz.1, mz.2.1, mz.2.2.1, mz.2.2.2.1, upd mz.2.2.2.2 (p1).toNatClampNeg 1), mc, mw, mn, (upd me ((576 + (8 * (mz.2.2.1 (p1).toNatClampNeg))) + (mz.2.2.2.1 (p1).toNatClampNeg)).toNatClampNeg (f_X3_at me p2 (mz.2.2.1 (p1).toNatClampNeg) (mz.2.2.2.1 (p1).toNatClampNeg))), (mz.1, mz.2.1, mz.2.2.1, mz.2.2.2.1, upd mz.2.2.2.2 (p1).toNatClampNeg 1), 0) else (if (mz.2.1 (p1).toNatClampNeg) = 2 then (if (f_X3_hasRow mw p2 (mz.2.2.1 (p1).toNatClampNeg)) = 0 then (f_X3_left (mz.1, mz.2.1, mz.2.2.1, mz.2.2.2.1, upd mz.2.2.2.2 (p1).toNatClampNeg 1), mc, (upd mw (3 : Int32).toNatClampNeg ((mw (3 : Int32).toNatClampNeg) &&& ((1 <<< ((mz.2.2.1 (p1).toNatClampNeg) &&& 31)) ^^^ (-1)))), mn, me, (mz.1, mz.2.1, mz.2.2.1, mz.2.2.2.1, upd mz.2.2.2.2 (p1).toNatClampNeg 1), 0) else (f_X3_left (mz.1, mz.2.1, mz.2.2.1, mz.2.2.2.1, upd mz.2.2.2.2 (p1).toNatClampNeg 1), mc, (upd mw (3 : Int32).toNatClampNeg ((mw (3 : Int32).toNatClampNeg) &&& (-1))), mn, me, (mz.1, mz.2.1, mz.2.2.1, mz.2.2.2.1, upd mz.2.2.2.2 (p1).toNatClampNeg 1), 0)) else (if (mz.2.1 (p1).toNatClampNeg) = 3 then (if (f_X3_hasColumn mc p2 (mz.2.2.2.1 (p1).toNatClampNeg)) = 0 then (f_X3_left (mz.1, mz.2.1, mz.2.2.1, mz.2.2.2.1, upd mz.2.2.2.2 (p1).toNatClampNeg 1), (upd mc (3 : Int32).toNatClampNeg ((mc (3 : Int32).toNatClampNeg) &&& ((1 <<< ((mz.2.2.2.1 (p1).toNatClampNeg) &&& 31)) ^^^ (-1)))), mw, mn, me, (mz.1, mz.2.1, mz.2.2.1, mz.2.2.2.1, upd mz.2.2.2.2 (p1).toNatClampNeg 1), 0) else (f_X3_left (mz.1, mz.2.1, mz.2.2.1, mz.2.2.2.1, upd mz.2.2.2.2 (p1).toNatClampNeg 1), (upd mc (3 : Int32).toNatClampNeg ((mc (3 : Int32).toNatClampNeg) &&& (-1))), mw, mn, me, (mz.1, mz.2.1, mz.2.2.1, mz.2.2.2.1, upd mz.2.2.2.2 (p1).toNatClampNeg 1), 0)) else (if (mz.2.1 (p1).toNatClampNeg) = 4 then (f_X3_left (mz.1, mz.2.1, mz.2.2.1, mz.2.2.2.1, upd mz.2.2.2.2 (p1).toNatClampNeg 1), mc, mw, (upd mn (24 + (mz.2.2.2.1 (p1).toNatClampNeg)).toNatClampNeg (mn ((8 * p2) + (mz.2.2.2.1 (p1).toNatClampNeg)).toNatClampNeg)), me, (mz.1, mz.2.1, mz.2.2.1, mz.2.2.2.1, upd mz.2.2.2.2 (p1).toNatClampNeg 1), 0) else (f_X3_left (mz.1, mz.2.1, mz.2.2.1, mz.2.2.2.1, upd mz.2.2.2.2 (p1).toNatClampNeg 1), mc, mw, mn, me, (mz.1, mz.2.1, mz.2.2.1, mz.2.2.2.1, upd mz.2.2.2.2 (p1).toNatClampNeg 1), 0)))))) else (0, mc, mw, mn, me, mz, 2)))
theorem uin_X3_settle_X3 : ∀ w ∈ wsX30, w ∈ wsX3_settle := fun _ h => List.mem_cons_of_mem _ (List.mem_append_right _ h)
set_option maxHeartbeats 4000000 in
set_option maxRecDepth 100000 in
theorem k_X3_settle (l : Launch) (D : va_G) (cyI cyZ : ClassId) (ad : Nat → Nat) (mc : Nat → Int32) (mw : Nat → Int32) (mn : Nat → Int32) (me : Nat → Int32) (mu : Nat → Int32) (mr : Nat → Int32) (mz : Kr) (mf : Int32) (mt : Int32) (p1 : Int32) (p2 : Int32) (A : Nat → Prop) (sz : Nat) (hAe : A = va_A (wN cyI cyZ ad mc mw mn me mu mr mz mf mt) sz) (hm : mz.1 ≤ 440) (hs : ∀ i : Nat, (i < mz.1 → mz.2.1 i = 1 → vp_in (mz.2.2.1 i) 24) ∧ (i < mz.1 → mz.2.1 i = 1 → vp_in (mz.2.2.2.1 i) 8) ∧ (i < mz.1 → mz.2.1 i = 4 → vp_in (mz.2.2.2.1 i) 8)) : Met l yX3_settle wsX3_settle ({ frames := 1, cells := 0, slots := 0, locals := 23 } : Room) (pcM D cyI cyZ sz [.ref (ad 0), .int p1, .int p2] (wN cyI cyZ ad mc mw mn me mu mr mz mf mt)) (mI D A (wN cyI cyZ ad (f_X3_settle mc mw mn me mz mf p1 p2).2.1 (f_X3_settle mc mw mn me mz mf p1 p2).2.2.1 (f_X3_settle mc mw mn me mz mf p1 p2).2.2.2.1 (f_X3_settle mc mw mn me mz mf p1 p2).2.2.2.2.1 mu mr (f_X3_settle mc mw mn me mz mf p1 p2).2.2.2.2.2.1 mf (f_X3_settle mc mw mn me mz mf p1 p2).2.2.2.2.2.2) (f_X3_settle mc mw mn me mz mf p1 p2).1) 0 0 A := by
  refine Met.ofW (cc := cX3_settle) (maxL := 5) (ret := (some .int)) (by decide) rfl ?_
  intro p e s m args below meth c s₁ B hml hv
  obtain ⟨rfl, hsz, hP, hG, hD0⟩ := hv
  have hx := B.exec
  have hb := B.bytes
  have hr := B.returns
  have hts := atoms_spec (ws := wsX3_settle) B.pre
  have hown : s.vm.findClass RX3 = some m.cls := findClass_of_methodNamed B.named
  have hlocks := B.notSynchronized
  subst hsz
  have hD : va_D A (wN cyI cyZ ad mc mw mn me mu mr mz mf mt) := by rw [hAe]; exact hD0.self
  have hA : ∀ q : Nat, s.heap.size ≤ q → A q := fun q h => by rw [hAe]; exact Or.inr h
  clear hAe hD0
  have hS : va_S nA s.heap s.heap [] := va_S.rf
  have hl := lv_entry ([.ref (ad 0), .int p1, .int p2]) (n := 5) (Nat.le_of_ble_eq_true rfl)
  rw [lg_entry_eq]
  generalize (lg_sl ([.ref (ad 0), .int p1, .int p2]) ++ List.replicate (5 - (lg_sl ([.ref (ad 0), .int p1, .int p2])).length) Slot.unset).toArray = ls at hl ⊢
  have hl : lv_has ls 5 [(0, .ref (ad 0)), (1, .int p1), (2, .int p2)] := hl
  have hP : va_P D vwCl (wN cyI cyZ ad mc mw mn me mu mr mz mf mt) s.heap := hP
  refine lv_aload_n hx hb dX3_settle_0 rfl (lv_at hl 0 rfl) ?_
  refine lv_iload_n hx hb dX3_settle_1 rfl (lv_at hl 1 rfl) ?_
  refine lv_iconst (v := 0) hx hb dX3_settle_2 (by decide) ?_
  refine lv_aload_n hx hb dX3_settle_3 rfl (lv_at hl 0 rfl) ?_
  refine va_get (D := D) (ci := 3) (v := .int (nI mz.1)) (C := RX3) (T := TX3) (N := 13) hx hb hts uin_X3_settle_X3 hown hG.1 hP 0 rfl rfl 6 (by decide) (hts (.fieldLink RX3 97 "TableSpliceModel" "listed" "I") (List.mem_of_getElem? (i := 1) rfl)) (fun _ h9 => h9) rfl dX3_settle_4 ?_
  refine lv_iconst (v := 1) hx hb dX3_settle_7 (by decide) ?_
  refine lv_isub hx hb dX3_settle_8 ?_
  refine pr_i (va_runS (As := [.int p1, .int 0, .int ((nI mz.1) - 1)]) (rest := [.ref (ad 0)]) ⟨hx, hb, hml, hown, hts⟩ (k_X3_isIn l D cyI cyZ p1 0 ((nI mz.1) - 1)) (va_cwS 3 hts gX3_settle_X3_isIn rfl rfl rfl (by decide +kernel) ⟨Nat.le_of_ble_eq_true rfl, Nat.le_of_ble_eq_true rfl⟩) (prS hG (hP.sub (ws' := []) [] rfl)) rfl rfl hl.1 rfl (lv_room (Nat.le_of_ble_eq_true rfl)) dX3_settle_9 ⟨Nat.zero_le _, Nat.zero_le _⟩) hS hP (fun H locs hP hS => ?_)
  refine lv_if_eq (tgt := 24) hx hb dX3_settle_12 (by decide) (fun c_12 => ?_) (fun c_12 => ?_)
  · refine lv_iconst (v := 1) hx hb dX3_settle_24 (by decide) ?_
    refine lv_goto (tgt := 29) hx hb dX3_settle_25 (by decide) ?_
    have hS := sw_n (B := A) hS
    refine va_put (D := D) (ci := 3) (v := .int 1) (ty := .int) (C := RX3) (T := TX3) (N := 13) hx hb hts uin_X3_settle_X3 tyX3 tyX3_ok nmX3 hown hG.1 hP hD hS 0 rfl rfl 12 (by decide) (hts (.fieldLink RX3 41 "TableSpliceModel" "thrown" "I") (List.mem_of_getElem? (i := 2) rfl)) (fun _ h9 => h9) rfl (by decide +kernel) rfl rfl (Nat.le_of_ble_eq_true rfl) dX3_settle_29 (fun H locs hP hD hS => ?_)
    have hP : va_P D vwCl (wN cyI cyZ ad mc mw mn me mu mr mz mf 1) H := hP
    have hD : va_D A (wN cyI cyZ ad mc mw mn me mu mr mz mf 1) := hD
    refine lv_aload_n hx hb dX3_settle_32 rfl (lv_at hl 0 rfl) ?_
    refine va_get (D := D) (ci := 3) (v := .int 1) (C := RX3) (T := TX3) (N := 13) hx hb hts uin_X3_settle_X3 hown hG.1 hP 0 rfl rfl 12 (by decide) (hts (.fieldLink RX3 41 "TableSpliceModel" "thrown" "I") (List.mem_of_getElem? (i := 2) rfl)) (fun _ h9 => h9) rfl dX3_settle_33 ?_
    refine lv_if_le (tgt := 41) hx hb dX3_settle_36 (by decide) (fun c_36 => ?_) (fun c_36 => ?_)
    · exact absurd c_36 (by decide)
    · refine lv_iconst (v := 0) hx hb dX3_settle_39 (by decide) ?_
      have ef : f_X3_settle mc mw mn me mz mf p1 p2 = (0, mc, mw, mn, me, mz, 1) := by rw [f_X3_settle, if_pos c_12]
      exact W.iret (v := 0) hx hb hr (fun t ht hW => ⟨⟨0, (), rfl, by rw [ef], by rw [ht, ef]; exact hP, by rw [ef]; exact hD⟩, hS.F ht⟩) hS.2.2 dX3_settle_40
  · refine lv_iload_n hx hb dX3_settle_15 rfl (lv_at hl 2 rfl) ?_
    refine lv_iconst (v := 1) hx hb dX3_settle_16 (by decide) ?_
    refine lv_iconst (v := 2) hx hb dX3_settle_17 (by decide) ?_
    refine pr_i (va_runS (As := [.int p2, .int 1, .int 2]) (rest := [.ref (ad 0)]) ⟨hx, hb, hml, hown, hts⟩ (k_X3_isIn l D cyI cyZ p2 1 2) (va_cwS 3 hts gX3_settle_X3_isIn rfl rfl rfl (by decide +kernel) ⟨Nat.le_of_ble_eq_true rfl, Nat.le_of_ble_eq_true rfl⟩) (prS hG (hP.sub (ws' := []) [] rfl)) rfl rfl hl.1 rfl (lv_room (Nat.le_of_ble_eq_true rfl)) dX3_settle_18 ⟨Nat.zero_le _, Nat.zero_le _⟩) hS hP (fun H locs hP hS => ?_)
    refine lv_if_ne (tgt := 28) hx hb dX3_settle_21 (by decide) (fun c_21 => ?_) (fun c_21 => ?_)
    · refine lv_iconst (v := 0) hx hb dX3_settle_28 (by decide) ?_
      have hS := sw_n (B := A) hS
      refine va_put (D := D) (ci := 3) (v := .int 0) (ty := .int) (C := RX3) (T := TX3) (N := 13) hx hb hts uin_X3_settle_X3 tyX3 tyX3_ok nmX3 hown hG.1 hP hD hS 0 rfl rfl 12 (by decide) (hts (.fieldLink RX3 41 "TableSpliceModel" "thrown" "I") (List.mem_of_getElem? (i := 2) rfl)) (fun _ h9 => h9) rfl (by decide +kernel) rfl rfl (Nat.le_of_ble_eq_true rfl) dX3_settle_29 (fun H locs hP hD hS => ?_)
      have hP : va_P D vwCl (wN cyI cyZ ad mc mw mn me mu mr mz mf 0) H := hP
      have hD : va_D A (wN cyI cyZ ad mc mw mn me mu mr mz mf 0) := hD
      refine lv_aload_n hx hb dX3_settle_32 rfl (lv_at hl 0 rfl) ?_
      refine va_get (D := D) (ci := 3) (v := .int 0) (C := RX3) (T := TX3) (N := 13) hx hb hts uin_X3_settle_X3 hown hG.1 hP 0 rfl rfl 12 (by decide) (hts (.fieldLink RX3 41 "TableSpliceModel" "thrown" "I") (List.mem_of_getElem? (i := 2) rfl)) (fun _ h9 => h9) rfl dX3_settle_33 ?_
      refine lv_if_le (tgt := 41) hx hb dX3_settle_36 (by decide) (fun c_36 => ?_) (fun c_36 => ?_)
      · refine lv_aload_n hx hb dX3_settle_41 rfl (lv_at hl 0 rfl) ?_
        refine lv_aload_n hx hb dX3_settle_42 rfl (lv_at hl 0 rfl) ?_
        refine va_get (D := D) (ci := 3) (v := .ref (ad 10)) (C := RX3) (T := TX3) (N := 13) hx hb hts uin_X3_settle_X3 hown hG.1 hP 0 rfl rfl 11 (by decide) (hts (.fieldLink RX3 38 "TableSpliceModel" "settled" "[Z") (List.mem_of_getElem? (i := 3) rfl)) (fun _ h9 => h9) rfl dX3_settle_43 ?_
        refine lv_iload_n hx hb dX3_settle_46 rfl (lv_at hl 1 rfl) ?_
        refine va_zald hx hb hG.1 hP 10 1 rfl rfl (vi_mono (lt_lst hm c_12) hm) dX3_settle_47 ?_
        refine lv_if_ne (tgt := 58) hx hb dX3_settle_48 (by decide) (fun c_48 => ?_) (fun c_48 => ?_)
        · refine lv_iconst (v := 2) hx hb dX3_settle_58 (by decide) ?_
          refine lv_goto (tgt := 63) hx hb dX3_settle_59 (by decide) ?_
          refine va_put (D := D) (ci := 3) (v := .int 2) (ty := .int) (C := RX3) (T := TX3) (N := 13) hx hb hts uin_X3_settle_X3 tyX3 tyX3_ok nmX3 hown hG.1 hP hD hS 0 rfl rfl 12 (by decide) (hts (.fieldLink RX3 41 "TableSpliceModel" "thrown" "I") (List.mem_of_getElem? (i := 2) rfl)) (fun _ h9 => h9) rfl (by decide +kernel) rfl rfl (Nat.le_of_ble_eq_true rfl) dX3_settle_63 (fun H locs hP hD hS => ?_)
          have hP : va_P D vwCl (wN cyI cyZ ad mc mw mn me mu mr mz mf 2) H := hP
          have hD : va_D A (wN cyI cyZ ad mc mw mn me mu mr mz mf 2) := hD
          refine lv_aload_n hx hb dX3_settle_66 rfl (lv_at hl 0 rfl) ?_
          refine va_get (D := D) (ci := 3) (v := .int 2) (C := RX3) (T := TX3) (N := 13) hx hb hts uin_X3_settle_X3 hown hG.1 hP 0 rfl rfl 12 (by decide) (hts (.fieldLink RX3 41 "TableSpliceModel" "thrown" "I") (List.mem_of_getElem? (i := 2) rfl)) (fun _ h9 => h9) rfl dX3_settle_67 ?_
          refine lv_if_le (tgt := 75) hx hb dX3_settle_70 (by decide) (fun c_70 => ?_) (fun c_70 => ?_)
          · exact absurd c_70 (by decide)
          · refine lv_iconst (v := 0) hx hb dX3_settle_73 (by decide) ?_
            have ef : f_X3_settle mc mw mn me mz mf p1 p2 = (0, mc, mw, mn, me, mz, 2) := by rw [f_X3_settle, if_neg c_12, if_neg c_21, if_neg c_48]
            exact W.iret (v := 0) hx hb hr (fun t ht hW => ⟨⟨0, (), rfl, by rw [ef], by rw [ht, ef]; exact hP, by rw [ef]; exact hD⟩, hS.F ht⟩) hS.2.2 dX3_settle_74
        · refine lv_aload_n hx hb dX3_settle_51 rfl (lv_at hl 0 rfl) ?_
          refine va_get (D := D) (ci := 3) (v := .int mf) (C := RX3) (T := TX3) (N := 13) hx hb hts uin_X3_settle_X3 hown hG.1 hP 0 rfl rfl 7 (by decide) (hts (.fieldLink RX3 56 "TableSpliceModel" "fresh" "Z") (List.mem_of_getElem? (i := 4) rfl)) (fun _ h9 => h9) rfl dX3_settle_52 ?_
          refine lv_if_ne (tgt := 62) hx hb dX3_settle_55 (by decide) (fun c_55 => ?_) (fun c_55 => ?_)
          · refine lv_iconst (v := 0) hx hb dX3_settle_62 (by decide) ?_
            refine va_put (D := D) (ci := 3) (v := .int 0) (ty := .int) (C := RX3) (T := TX3) (N := 13) hx hb hts uin_X3_settle_X3 tyX3 tyX3_ok nmX3 hown hG.1 hP hD hS 0 rfl rfl 12 (by decide) (hts (.fieldLink RX3 41 "TableSpliceModel" "thrown" "I") (List.mem_of_getElem? (i := 2) rfl)) (fun _ h9 => h9) rfl (by decide +kernel) rfl rfl (Nat.le_of_ble_eq_true rfl) dX3_settle_63 (fun H locs hP hD hS => ?_)
            have hP : va_P D vwCl (wN cyI cyZ ad mc mw mn me mu mr mz mf 0) H := hP
            have hD : va_D A (wN cyI cyZ ad mc mw mn me mu mr mz mf 0) := hD
            refine lv_aload_n hx hb dX3_settle_66 rfl (lv_at hl 0 rfl) ?_
            refine va_get (D := D) (ci := 3) (v := .int 0) (C := RX3) (T := TX3) (N := 13) hx hb hts uin_X3_settle_X3 hown hG.1 hP 0 rfl rfl 12 (by decide) (hts (.fieldLink RX3 41 "TableSpliceModel" "thrown" "I") (List.mem_of_getElem? (i := 2) rfl)) (fun _ h9 => h9) rfl dX3_settle_67 ?_
            refine lv_if_le (tgt := 75) hx hb dX3_settle_70 (by decide) (fun c_70 => ?_) (fun c_70 => ?_)
            · refine lv_aload_n hx hb dX3_settle_75 rfl (lv_at hl 0 rfl) ?_
              refine va_get (D := D) (ci := 3) (v := .ref (ad 8)) (C := RX3) (T := TX3) (N := 13) hx hb hts uin_X3_settle_X3 hown hG.1 hP 0 rfl rfl 9 (by decide) (hts (.fieldLink RX3 32 "TableSpliceModel" "key" "[I") (List.mem_of_getElem? (i := 5) rfl)) (fun _ h9 => h9) rfl dX3_settle_76 ?_
              refine lv_iload_n hx hb dX3_settle_79 rfl (lv_at hl 1 rfl) ?_
              refine va_iald hx hb hG.1 hP 8 0 rfl rfl (vi_mono (lt_lst hm c_12) hm) dX3_settle_80 ?_
              refine lv_istore_n (lv' := [(3, .int (mz.2.2.1 (p1).toNatClampNeg)), (0, .ref (ad 0)), (1, .int p1), (2, .int p2)]) hx hb dX3_settle_81 rfl hl (by decide) rfl (fun ls hl => ?_)
              refine lv_aload_n hx hb dX3_settle_82 rfl (lv_at hl 1 rfl) ?_
              refine va_get (D := D) (ci := 3) (v := .ref (ad 9)) (C := RX3) (T := TX3) (N := 13) hx hb hts uin_X3_settle_X3 hown hG.1 hP 0 rfl rfl 10 (by decide) (hts (.fieldLink RX3 35 "TableSpliceModel" "column" "[I") (List.mem_of_getElem? (i := 6) rfl)) (fun _ h9 => h9) rfl dX3_settle_83 ?_
              refine lv_iload_n hx hb dX3_settle_86 rfl (lv_at hl 2 rfl) ?_
              refine va_iald hx hb hG.1 hP 9 0 rfl rfl (vi_mono (lt_lst hm c_12) hm) dX3_settle_87 ?_
              refine lv_istore (lv' := [(4, .int (mz.2.2.2.1 (p1).toNatClampNeg)), (3, .int (mz.2.2.1 (p1).toNatClampNeg)), (0, .ref (ad 0)), (1, .int p1), (2, .int p2)]) hx hb dX3_settle_88 hl (by decide) rfl (fun ls hl => ?_)
              refine lv_aload_n hx hb dX3_settle_90 rfl (lv_at hl 2 rfl) ?_
              refine va_get (D := D) (ci := 3) (v := .ref (ad 7)) (C := RX3) (T := TX3) (N := 13) hx hb hts uin_X3_settle_X3 hown hG.1 hP 0 rfl rfl 8 (by decide) (hts (.fieldLink RX3 29 "TableSpliceModel" "kind" "[I") (List.mem_of_getElem? (i := 7) rfl)) (fun _ h9 => h9) rfl dX3_settle_91 ?_
              refine lv_iload_n hx hb dX3_settle_94 rfl (lv_at hl 3 rfl) ?_
              refine va_iald hx hb hG.1 hP 7 0 rfl rfl (vi_mono (lt_lst hm c_12) hm) dX3_settle_95 ?_
              refine lv_iconst (v := 1) hx hb dX3_settle_96 (by decide) ?_
              refine lv_icmp_ne (tgt := 127) hx hb dX3_settle_97 (by decide) (fun c_97 => ?_) (fun c_97 => ?_)
              · refine lv_aload_n hx hb dX3_settle_127 rfl (lv_at hl 2 rfl) ?_
                refine va_get (D := D) (ci := 3) (v := .ref (ad 7)) (C := RX3) (T := TX3) (N := 13) hx hb hts uin_X3_settle_X3 hown hG.1 hP 0 rfl rfl 8 (by decide) (hts (.fieldLink RX3 29 "TableSpliceModel" "kind" "[I") (List.mem_of_getElem? (i := 7) rfl)) (fun _ h9 => h9) rfl dX3_settle_128 ?_
                refine lv_iload_n hx hb dX3_settle_131 rfl (lv_at hl 3 rfl) ?_
                refine va_iald hx hb hG.1 hP 7 0 rfl rfl (vi_mono (lt_lst hm c_12) hm) dX3_settle_132 ?_
                refine lv_iconst (v := 2) hx hb dX3_settle_133 (by decide) ?_
                refine lv_icmp_ne (tgt := 167) hx hb dX3_settle_134 (by decide) (fun c_134 => ?_) (fun c_134 => ?_)
                · refine lv_aload_n hx hb dX3_settle_167 rfl (lv_at hl 2 rfl) ?_
                  refine va_get (D := D) (ci := 3) (v := .ref (ad 7)) (C := RX3) (T := TX3) (N := 13) hx hb hts uin_X3_settle_X3 hown hG.1 hP 0 rfl rfl 8 (by decide) (hts (.fieldLink RX3 29 "TableSpliceModel" "kind" "[I") (List.mem_of_getElem? (i := 7) rfl)) (fun _ h9 => h9) rfl dX3_settle_168 ?_
                  refine lv_iload_n hx hb dX3_settle_171 rfl (lv_at hl 3 rfl) ?_
                  refine va_iald hx hb hG.1 hP 7 0 rfl rfl (vi_mono (lt_lst hm c_12) hm) dX3_settle_172 ?_
                  refine lv_iconst (v := 3) hx hb dX3_settle_173 (by decide) ?_
                  refine lv_icmp_ne (tgt := 209) hx hb dX3_settle_174 (by decide) (fun c_174 => ?_) (fun c_174 => ?_)
                  · refine lv_aload_n hx hb dX3_settle_209 rfl (lv_at hl 2 rfl) ?_
                    refine va_get (D := D) (ci := 3) (v := .ref (ad 7)) (C := RX3) (T := TX3) (N := 13) hx hb hts uin_X3_settle_X3 hown hG.1 hP 0 rfl rfl 8 (by decide) (hts (.fieldLink RX3 29 "TableSpliceModel" "kind" "[I") (List.mem_of_getElem? (i := 7) rfl)) (fun _ h9 => h9) rfl dX3_settle_210 ?_
                    refine lv_iload_n hx hb dX3_settle_213 rfl (lv_at hl 3 rfl) ?_
                    refine va_iald hx hb hG.1 hP 7 0 rfl rfl (vi_mono (lt_lst hm c_12) hm) dX3_settle_214 ?_
                    refine lv_iconst (v := 4) hx hb dX3_settle_215 (by decide) ?_
                    refine lv_icmp_ne (tgt := 241) hx hb dX3_settle_216 (by decide) (fun c_216 => ?_) (fun c_216 => ?_)
                    · refine lv_aload_n hx hb dX3_settle_241 rfl (lv_at hl 2 rfl) ?_
                      refine va_get (D := D) (ci := 3) (v := .ref (ad 10)) (C := RX3) (T := TX3) (N := 13) hx hb hts uin_X3_settle_X3 hown hG.1 hP 0 rfl rfl 11 (by decide) (hts (.fieldLink RX3 38 "TableSpliceModel" "settled" "[Z") (List.mem_of_getElem? (i := 3) rfl)) (fun _ h9 => h9) rfl dX3_settle_242 ?_
                      refine lv_iload_n hx hb dX3_settle_245 rfl (lv_at hl 3 rfl) ?_
                      refine lv_iconst (v := 1) hx hb dX3_settle_246 (by decide) ?_
                      refine va_zast hx hb hG.1 hP hD hS 10 1 rfl rfl (vi_mono (lt_lst hm c_12) hm) dX3_settle_247 (fun H locs hP hD hS => ?_)
                      have hP : va_P D vwCl (wN cyI cyZ ad mc mw mn me mu mr (mz.1, mz.2.1, mz.2.2.1, mz.2.2.2.1, upd mz.2.2.2.2 (p1).toNatClampNeg 1) mf 0) H := hP
                      have hD : va_D A (wN cyI cyZ ad mc mw mn me mu mr (mz.1, mz.2.1, mz.2.2.1, mz.2.2.2.1, upd mz.2.2.2.2 (p1).toNatClampNeg 1) mf 0) := hD
                      refine lv_aload_n hx hb dX3_settle_248 rfl (lv_at hl 2 rfl) ?_
                      refine pr_i (va_runV (As := []) (rest := []) ⟨hx, hb, hml, hown, hts⟩ (k_X3_left l D cyI cyZ ad mc mw mn me mu mr (mz.1, mz.2.1, mz.2.2.1, mz.2.2.2.1, upd mz.2.2.2.2 (p1).toNatClampNeg 1) mf 0 (by first | omega | (simp only [l1_lists]; omega))) (cwV 0 hts gX3_settle_X3_left rfl rfl rfl (by decide +kernel) ⟨Nat.le_of_ble_eq_true rfl, Nat.le_of_ble_eq_true rfl⟩) (prV hG hP (ci := 3) rfl rfl rfl) rfl rfl hl.1 rfl (lv_room (Nat.le_of_ble_eq_true rfl)) dX3_settle_249 ⟨Nat.zero_le _, Nat.zero_le _⟩) hS hP (fun H locs hP hS => ?_)
                      have ef : f_X3_settle mc mw mn me mz mf p1 p2 = (f_X3_left (mz.1, mz.2.1, mz.2.2.1, mz.2.2.2.1, upd mz.2.2.2.2 (p1).toNatClampNeg 1), mc, mw, mn, me, (mz.1, mz.2.1, mz.2.2.1, mz.2.2.2.1, upd mz.2.2.2.2 (p1).toNatClampNeg 1), 0) := by rw [f_X3_settle, if_neg c_12, if_neg c_21, if_pos c_48, if_neg c_55, if_neg c_97, if_neg c_134, if_neg c_174, if_neg c_216]
                      exact W.iret (v := f_X3_left (mz.1, mz.2.1, mz.2.2.1, mz.2.2.2.1, upd mz.2.2.2.2 (p1).toNatClampNeg 1)) hx hb hr (fun t ht hW => ⟨⟨f_X3_left (mz.1, mz.2.1, mz.2.2.1, mz.2.2.2.1, upd mz.2.2.2.2 (p1).toNatClampNeg 1), (), rfl, by rw [ef], by rw [ht, ef]; exact hP, by rw [ef]; exact hD⟩, hS.F ht⟩) hS.2.2 dX3_settle_252
                    · refine lv_aload_n hx hb dX3_settle_219 rfl (lv_at hl 2 rfl) ?_
                      refine va_get (D := D) (ci := 3) (v := .ref (ad 3)) (C := RX3) (T := TX3) (N := 13) hx hb hts uin_X3_settle_X3 hown hG.1 hP 0 rfl rfl 2 (by decide) (hts (.fieldLink RX3 16 "TableSpliceModel" "name" "[I") (List.mem_of_getElem? (i := 11) rfl)) (fun _ h9 => h9) rfl dX3_settle_220 ?_
                      refine lv_bipush (v := 24) hx hb dX3_settle_223 (by decide) ?_
                      refine lv_iload hx hb dX3_settle_225 (lv_at hl 0 rfl) ?_
                      refine lv_iadd hx hb dX3_settle_227 ?_
                      refine lv_aload_n hx hb dX3_settle_228 rfl (lv_at hl 2 rfl) ?_
                      refine va_get (D := D) (ci := 3) (v := .ref (ad 3)) (C := RX3) (T := TX3) (N := 13) hx hb hts uin_X3_settle_X3 hown hG.1 hP 0 rfl rfl 2 (by decide) (hts (.fieldLink RX3 16 "TableSpliceModel" "name" "[I") (List.mem_of_getElem? (i := 11) rfl)) (fun _ h9 => h9) rfl dX3_settle_229 ?_
                      refine lv_bipush (v := 8) hx hb dX3_settle_232 (by decide) ?_
                      refine lv_iload_n hx hb dX3_settle_234 rfl (lv_at hl 4 rfl) ?_
                      refine lv_imul hx hb dX3_settle_235 ?_
                      refine lv_iload hx hb dX3_settle_236 (lv_at hl 0 rfl) ?_
                      refine lv_iadd hx hb dX3_settle_238 ?_
                      refine va_iald hx hb hG.1 hP 3 0 rfl rfl (vi_mono (vi_add (k := 24) (vi_mul (c := 8) (k := 17) rfl (in_isIn (n := 2) rfl (by decide) c_21) (by decide) (by decide) (by decide)) ((hs _).2.2 (vt_in (lt_lst hm c_12)) c_216) (by decide) (by decide)) (by decide)) dX3_settle_239 ?_
                      refine va_iast hx hb hG.1 hP hD hS 3 0 rfl rfl (vi_add (k := 32) (vp_in_nI (n := 24) (N := 25) (by decide) (by decide)) ((hs _).2.2 (vt_in (lt_lst hm c_12)) c_216) (by decide) (by decide)) dX3_settle_240 (fun H locs hP hD hS => ?_)
                      have hP : va_P D vwCl (wN cyI cyZ ad mc mw (upd mn (24 + (mz.2.2.2.1 (p1).toNatClampNeg)).toNatClampNeg (mn ((8 * p2) + (mz.2.2.2.1 (p1).toNatClampNeg)).toNatClampNeg)) me mu mr mz mf 0) H := hP
                      have hD : va_D A (wN cyI cyZ ad mc mw (upd mn (24 + (mz.2.2.2.1 (p1).toNatClampNeg)).toNatClampNeg (mn ((8 * p2) + (mz.2.2.2.1 (p1).toNatClampNeg)).toNatClampNeg)) me mu mr mz mf 0) := hD
                      refine lv_aload_n hx hb dX3_settle_241 rfl (lv_at hl 2 rfl) ?_
                      refine va_get (D := D) (ci := 3) (v := .ref (ad 10)) (C := RX3) (T := TX3) (N := 13) hx hb hts uin_X3_settle_X3 hown hG.1 hP 0 rfl rfl 11 (by decide) (hts (.fieldLink RX3 38 "TableSpliceModel" "settled" "[Z") (List.mem_of_getElem? (i := 3) rfl)) (fun _ h9 => h9) rfl dX3_settle_242 ?_
                      refine lv_iload_n hx hb dX3_settle_245 rfl (lv_at hl 3 rfl) ?_
                      refine lv_iconst (v := 1) hx hb dX3_settle_246 (by decide) ?_
                      refine va_zast hx hb hG.1 hP hD hS 10 1 rfl rfl (vi_mono (lt_lst hm c_12) hm) dX3_settle_247 (fun H locs hP hD hS => ?_)
                      have hP : va_P D vwCl (wN cyI cyZ ad mc mw (upd mn (24 + (mz.2.2.2.1 (p1).toNatClampNeg)).toNatClampNeg (mn ((8 * p2) + (mz.2.2.2.1 (p1).toNatClampNeg)).toNatClampNeg)) me mu mr (mz.1, mz.2.1, mz.2.2.1, mz.2.2.2.1, upd mz.2.2.2.2 (p1).toNatClampNeg 1) mf 0) H := hP
                      have hD : va_D A (wN cyI cyZ ad mc mw (upd mn (24 + (mz.2.2.2.1 (p1).toNatClampNeg)).toNatClampNeg (mn ((8 * p2) + (mz.2.2.2.1 (p1).toNatClampNeg)).toNatClampNeg)) me mu mr (mz.1, mz.2.1, mz.2.2.1, mz.2.2.2.1, upd mz.2.2.2.2 (p1).toNatClampNeg 1) mf 0) := hD
                      refine lv_aload_n hx hb dX3_settle_248 rfl (lv_at hl 2 rfl) ?_
                      refine pr_i (va_runV (As := []) (rest := []) ⟨hx, hb, hml, hown, hts⟩ (k_X3_left l D cyI cyZ ad mc mw (upd mn (24 + (mz.2.2.2.1 (p1).toNatClampNeg)).toNatClampNeg (mn ((8 * p2) + (mz.2.2.2.1 (p1).toNatClampNeg)).toNatClampNeg)) me mu mr (mz.1, mz.2.1, mz.2.2.1, mz.2.2.2.1, upd mz.2.2.2.2 (p1).toNatClampNeg 1) mf 0 (by first | omega | (simp only [l1_lists]; omega))) (cwV 0 hts gX3_settle_X3_left rfl rfl rfl (by decide +kernel) ⟨Nat.le_of_ble_eq_true rfl, Nat.le_of_ble_eq_true rfl⟩) (prV hG hP (ci := 3) rfl rfl rfl) rfl rfl hl.1 rfl (lv_room (Nat.le_of_ble_eq_true rfl)) dX3_settle_249 ⟨Nat.zero_le _, Nat.zero_le _⟩) hS hP (fun H locs hP hS => ?_)
                      have ef : f_X3_settle mc mw mn me mz mf p1 p2 = (f_X3_left (mz.1, mz.2.1, mz.2.2.1, mz.2.2.2.1, upd mz.2.2.2.2 (p1).toNatClampNeg 1), mc, mw, (upd mn (24 + (mz.2.2.2.1 (p1).toNatClampNeg)).toNatClampNeg (mn ((8 * p2) + (mz.2.2.2.1 (p1).toNatClampNeg)).toNatClampNeg)), me, (mz.1, mz.2.1, mz.2.2.1, mz.2.2.2.1, upd mz.2.2.2.2 (p1).toNatClampNeg 1), 0) := by rw [f_X3_settle, if_neg c_12, if_neg c_21, if_pos c_48, if_neg c_55, if_neg c_97, if_neg c_134, if_neg c_174, if_pos c_216]
                      exact W.iret (v := f_X3_left (mz.1, mz.2.1, mz.2.2.1, mz.2.2.2.1, upd mz.2.2.2.2 (p1).toNatClampNeg 1)) hx hb hr (fun t ht hW => ⟨⟨f_X3_left (mz.1, mz.2.1, mz.2.2.1, mz.2.2.2.1, upd mz.2.2.2.2 (p1).toNatClampNeg 1), (), rfl, by rw [ef], by rw [ht, ef]; exact hP, by rw [ef]; exact hD⟩, hS.F ht⟩) hS.2.2 dX3_settle_252
                  · refine lv_aload_n hx hb dX3_settle_177 rfl (lv_at hl 2 rfl) ?_
                    refine va_get (D := D) (ci := 3) (v := .ref (ad 1)) (C := RX3) (T := TX3) (N := 13) hx hb hts uin_X3_settle_X3 hown hG.1 hP 0 rfl rfl 0 (by decide) (hts (.fieldLink RX3 7 "TableSpliceModel" "columns" "[I") (List.mem_of_getElem? (i := 10) rfl)) (fun _ h9 => h9) rfl dX3_settle_178 ?_
                    refine lv_iconst (v := 3) hx hb dX3_settle_181 (by decide) ?_
                    refine lv_dup2_11 hx hb dX3_settle_182 rfl rfl ?_
                    refine va_iald hx hb hG.1 hP 1 0 rfl rfl (vp_in_nI (n := 3) (N := 4) (by decide) (by decide)) dX3_settle_183 ?_
                    refine lv_aload_n hx hb dX3_settle_184 rfl (lv_at hl 2 rfl) ?_
                    refine lv_iload_n hx hb dX3_settle_185 rfl (lv_at hl 4 rfl) ?_
                    refine lv_iload hx hb dX3_settle_186 (lv_at hl 0 rfl) ?_
                    refine pr_i (va_runV (As := [.int p2, .int (mz.2.2.2.1 (p1).toNatClampNeg)]) (rest := [.int (mc (3 : Int32).toNatClampNeg), .int 3, .ref (ad 1)]) ⟨hx, hb, hml, hown, hts⟩ (k_X3_hasColumn l D cyI cyZ ad mc mw mn me mu mr mz mf 0 p2 (mz.2.2.2.1 (p1).toNatClampNeg) (vi_mono (in_isIn (n := 2) rfl (by decide) c_21) (by decide))) (cwV 2 hts gX3_settle_X3_hasColumn rfl rfl rfl (by decide +kernel) ⟨Nat.le_of_ble_eq_true rfl, Nat.le_of_ble_eq_true rfl⟩) (prV hG hP (ci := 3) rfl rfl rfl) rfl rfl hl.1 rfl (lv_room (Nat.le_of_ble_eq_true rfl)) dX3_settle_188 ⟨Nat.zero_le _, Nat.zero_le _⟩) hS hP (fun H locs hP hS => ?_)
                    refine lv_if_eq (tgt := 198) hx hb dX3_settle_191 (by decide) (fun c_191 => ?_) (fun c_191 => ?_)
                    · refine lv_iconst (v := 1) hx hb dX3_settle_198 (by decide) ?_
                      refine lv_iload hx hb dX3_settle_199 (lv_at hl 0 rfl) ?_
                      refine lv_ishl hx hb dX3_settle_201 ?_
                      refine lv_iconst (v := (-1)) hx hb dX3_settle_202 (by decide) ?_
                      refine lv_ixor hx hb dX3_settle_203 ?_
                      refine lv_iand hx hb dX3_settle_204 ?_
                      refine va_iast hx hb hG.1 hP hD hS 1 0 rfl rfl (vp_in_nI (n := 3) (N := 4) (by decide) (by decide)) dX3_settle_205 (fun H locs hP hD hS => ?_)
                      have hP : va_P D vwCl (wN cyI cyZ ad (upd mc (3 : Int32).toNatClampNeg ((mc (3 : Int32).toNatClampNeg) &&& ((1 <<< ((mz.2.2.2.1 (p1).toNatClampNeg) &&& 31)) ^^^ (-1)))) mw mn me mu mr mz mf 0) H := hP
                      have hD : va_D A (wN cyI cyZ ad (upd mc (3 : Int32).toNatClampNeg ((mc (3 : Int32).toNatClampNeg) &&& ((1 <<< ((mz.2.2.2.1 (p1).toNatClampNeg) &&& 31)) ^^^ (-1)))) mw mn me mu mr mz mf 0) := hD
                      refine lv_goto (tgt := 241) hx hb dX3_settle_206 (by decide) ?_
                      refine lv_aload_n hx hb dX3_settle_241 rfl (lv_at hl 2 rfl) ?_
                      refine va_get (D := D) (ci := 3) (v := .ref (ad 10)) (C := RX3) (T := TX3) (N := 13) hx hb hts uin_X3_settle_X3 hown hG.1 hP 0 rfl rfl 11 (by decide) (hts (.fieldLink RX3 38 "TableSpliceModel" "settled" "[Z") (List.mem_of_getElem? (i := 3) rfl)) (fun _ h9 => h9) rfl dX3_settle_242 ?_
                      refine lv_iload_n hx hb dX3_settle_245 rfl (lv_at hl 3 rfl) ?_
                      refine lv_iconst (v := 1) hx hb dX3_settle_246 (by decide) ?_
                      refine va_zast hx hb hG.1 hP hD hS 10 1 rfl rfl (vi_mono (lt_lst hm c_12) hm) dX3_settle_247 (fun H locs hP hD hS => ?_)
                      have hP : va_P D vwCl (wN cyI cyZ ad (upd mc (3 : Int32).toNatClampNeg ((mc (3 : Int32).toNatClampNeg) &&& ((1 <<< ((mz.2.2.2.1 (p1).toNatClampNeg) &&& 31)) ^^^ (-1)))) mw mn me mu mr (mz.1, mz.2.1, mz.2.2.1, mz.2.2.2.1, upd mz.2.2.2.2 (p1).toNatClampNeg 1) mf 0) H := hP
                      have hD : va_D A (wN cyI cyZ ad (upd mc (3 : Int32).toNatClampNeg ((mc (3 : Int32).toNatClampNeg) &&& ((1 <<< ((mz.2.2.2.1 (p1).toNatClampNeg) &&& 31)) ^^^ (-1)))) mw mn me mu mr (mz.1, mz.2.1, mz.2.2.1, mz.2.2.2.1, upd mz.2.2.2.2 (p1).toNatClampNeg 1) mf 0) := hD
                      refine lv_aload_n hx hb dX3_settle_248 rfl (lv_at hl 2 rfl) ?_
                      refine pr_i (va_runV (As := []) (rest := []) ⟨hx, hb, hml, hown, hts⟩ (k_X3_left l D cyI cyZ ad (upd mc (3 : Int32).toNatClampNeg ((mc (3 : Int32).toNatClampNeg) &&& ((1 <<< ((mz.2.2.2.1 (p1).toNatClampNeg) &&& 31)) ^^^ (-1)))) mw mn me mu mr (mz.1, mz.2.1, mz.2.2.1, mz.2.2.2.1, upd mz.2.2.2.2 (p1).toNatClampNeg 1) mf 0 (by first | omega | (simp only [l1_lists]; omega))) (cwV 0 hts gX3_settle_X3_left rfl rfl rfl (by decide +kernel) ⟨Nat.le_of_ble_eq_true rfl, Nat.le_of_ble_eq_true rfl⟩) (prV hG hP (ci := 3) rfl rfl rfl) rfl rfl hl.1 rfl (lv_room (Nat.le_of_ble_eq_true rfl)) dX3_settle_249 ⟨Nat.zero_le _, Nat.zero_le _⟩) hS hP (fun H locs hP hS => ?_)
                      have ef : f_X3_settle mc mw mn me mz mf p1 p2 = (f_X3_left (mz.1, mz.2.1, mz.2.2.1, mz.2.2.2.1, upd mz.2.2.2.2 (p1).toNatClampNeg 1), (upd mc (3 : Int32).toNatClampNeg ((mc (3 : Int32).toNatClampNeg) &&& ((1 <<< ((mz.2.2.2.1 (p1).toNatClampNeg) &&& 31)) ^^^ (-1)))), mw, mn, me, (mz.1, mz.2.1, mz.2.2.1, mz.2.2.2.1, upd mz.2.2.2.2 (p1).toNatClampNeg 1), 0) := by rw [f_X3_settle, if_neg c_12, if_neg c_21, if_pos c_48, if_neg c_55, if_neg c_97, if_neg c_134, if_pos c_174, if_pos c_191]
                      exact W.iret (v := f_X3_left (mz.1, mz.2.1, mz.2.2.1, mz.2.2.2.1, upd mz.2.2.2.2 (p1).toNatClampNeg 1)) hx hb hr (fun t ht hW => ⟨⟨f_X3_left (mz.1, mz.2.1, mz.2.2.1, mz.2.2.2.1, upd mz.2.2.2.2 (p1).toNatClampNeg 1), (), rfl, by rw [ef], by rw [ht, ef]; exact hP, by rw [ef]; exact hD⟩, hS.F ht⟩) hS.2.2 dX3_settle_252
                    · refine lv_iconst (v := (-1)) hx hb dX3_settle_194 (by decide) ?_
                      refine lv_goto (tgt := 204) hx hb dX3_settle_195 (by decide) ?_
                      refine lv_iand hx hb dX3_settle_204 ?_
                      refine va_iast hx hb hG.1 hP hD hS 1 0 rfl rfl (vp_in_nI (n := 3) (N := 4) (by decide) (by decide)) dX3_settle_205 (fun H locs hP hD hS => ?_)
                      have hP : va_P D vwCl (wN cyI cyZ ad (upd mc (3 : Int32).toNatClampNeg ((mc (3 : Int32).toNatClampNeg) &&& (-1))) mw mn me mu mr mz mf 0) H := hP
                      have hD : va_D A (wN cyI cyZ ad (upd mc (3 : Int32).toNatClampNeg ((mc (3 : Int32).toNatClampNeg) &&& (-1))) mw mn me mu mr mz mf 0) := hD
                      refine lv_goto (tgt := 241) hx hb dX3_settle_206 (by decide) ?_
                      refine lv_aload_n hx hb dX3_settle_241 rfl (lv_at hl 2 rfl) ?_
                      refine va_get (D := D) (ci := 3) (v := .ref (ad 10)) (C := RX3) (T := TX3) (N := 13) hx hb hts uin_X3_settle_X3 hown hG.1 hP 0 rfl rfl 11 (by decide) (hts (.fieldLink RX3 38 "TableSpliceModel" "settled" "[Z") (List.mem_of_getElem? (i := 3) rfl)) (fun _ h9 => h9) rfl dX3_settle_242 ?_
                      refine lv_iload_n hx hb dX3_settle_245 rfl (lv_at hl 3 rfl) ?_
                      refine lv_iconst (v := 1) hx hb dX3_settle_246 (by decide) ?_
                      refine va_zast hx hb hG.1 hP hD hS 10 1 rfl rfl (vi_mono (lt_lst hm c_12) hm) dX3_settle_247 (fun H locs hP hD hS => ?_)
                      have hP : va_P D vwCl (wN cyI cyZ ad (upd mc (3 : Int32).toNatClampNeg ((mc (3 : Int32).toNatClampNeg) &&& (-1))) mw mn me mu mr (mz.1, mz.2.1, mz.2.2.1, mz.2.2.2.1, upd mz.2.2.2.2 (p1).toNatClampNeg 1) mf 0) H := hP
                      have hD : va_D A (wN cyI cyZ ad (upd mc (3 : Int32).toNatClampNeg ((mc (3 : Int32).toNatClampNeg) &&& (-1))) mw mn me mu mr (mz.1, mz.2.1, mz.2.2.1, mz.2.2.2.1, upd mz.2.2.2.2 (p1).toNatClampNeg 1) mf 0) := hD
                      refine lv_aload_n hx hb dX3_settle_248 rfl (lv_at hl 2 rfl) ?_
                      refine pr_i (va_runV (As := []) (rest := []) ⟨hx, hb, hml, hown, hts⟩ (k_X3_left l D cyI cyZ ad (upd mc (3 : Int32).toNatClampNeg ((mc (3 : Int32).toNatClampNeg) &&& (-1))) mw mn me mu mr (mz.1, mz.2.1, mz.2.2.1, mz.2.2.2.1, upd mz.2.2.2.2 (p1).toNatClampNeg 1) mf 0 (by first | omega | (simp only [l1_lists]; omega))) (cwV 0 hts gX3_settle_X3_left rfl rfl rfl (by decide +kernel) ⟨Nat.le_of_ble_eq_true rfl, Nat.le_of_ble_eq_true rfl⟩) (prV hG hP (ci := 3) rfl rfl rfl) rfl rfl hl.1 rfl (lv_room (Nat.le_of_ble_eq_true rfl)) dX3_settle_249 ⟨Nat.zero_le _, Nat.zero_le _⟩) hS hP (fun H locs hP hS => ?_)
                      have ef : f_X3_settle mc mw mn me mz mf p1 p2 = (f_X3_left (mz.1, mz.2.1, mz.2.2.1, mz.2.2.2.1, upd mz.2.2.2.2 (p1).toNatClampNeg 1), (upd mc (3 : Int32).toNatClampNeg ((mc (3 : Int32).toNatClampNeg) &&& (-1))), mw, mn, me, (mz.1, mz.2.1, mz.2.2.1, mz.2.2.2.1, upd mz.2.2.2.2 (p1).toNatClampNeg 1), 0) := by rw [f_X3_settle, if_neg c_12, if_neg c_21, if_pos c_48, if_neg c_55, if_neg c_97, if_neg c_134, if_pos c_174, if_neg c_191]
                      exact W.iret (v := f_X3_left (mz.1, mz.2.1, mz.2.2.1, mz.2.2.2.1, upd mz.2.2.2.2 (p1).toNatClampNeg 1)) hx hb hr (fun t ht hW => ⟨⟨f_X3_left (mz.1, mz.2.1, mz.2.2.1, mz.2.2.2.1, upd mz.2.2.2.2 (p1).toNatClampNeg 1), (), rfl, by rw [ef], by rw [ht, ef]; exact hP, by rw [ef]; exact hD⟩, hS.F ht⟩) hS.2.2 dX3_settle_252
                · refine lv_aload_n hx hb dX3_settle_137 rfl (lv_at hl 2 rfl) ?_
                  refine va_get (D := D) (ci := 3) (v := .ref (ad 2)) (C := RX3) (T := TX3) (N := 13) hx hb hts uin_X3_settle_X3 hown hG.1 hP 0 rfl rfl 1 (by decide) (hts (.fieldLink RX3 13 "TableSpliceModel" "rows" "[I") (List.mem_of_getElem? (i := 9) rfl)) (fun _ h9 => h9) rfl dX3_settle_138 ?_
                  refine lv_iconst (v := 3) hx hb dX3_settle_141 (by decide) ?_
                  refine lv_dup2_11 hx hb dX3_settle_142 rfl rfl ?_
                  refine va_iald hx hb hG.1 hP 2 0 rfl rfl (vp_in_nI (n := 3) (N := 4) (by decide) (by decide)) dX3_settle_143 ?_
                  refine lv_aload_n hx hb dX3_settle_144 rfl (lv_at hl 2 rfl) ?_
                  refine lv_iload_n hx hb dX3_settle_145 rfl (lv_at hl 4 rfl) ?_
                  refine lv_iload_n hx hb dX3_settle_146 rfl (lv_at hl 1 rfl) ?_
                  refine pr_i (va_runV (As := [.int p2, .int (mz.2.2.1 (p1).toNatClampNeg)]) (rest := [.int (mw (3 : Int32).toNatClampNeg), .int 3, .ref (ad 2)]) ⟨hx, hb, hml, hown, hts⟩ (k_X3_hasRow l D cyI cyZ ad mc mw mn me mu mr mz mf 0 p2 (mz.2.2.1 (p1).toNatClampNeg) (vi_mono (in_isIn (n := 2) rfl (by decide) c_21) (by decide))) (cwV 2 hts gX3_settle_X3_hasRow rfl rfl rfl (by decide +kernel) ⟨Nat.le_of_ble_eq_true rfl, Nat.le_of_ble_eq_true rfl⟩) (prV hG hP (ci := 3) rfl rfl rfl) rfl rfl hl.1 rfl (lv_room (Nat.le_of_ble_eq_true rfl)) dX3_settle_147 ⟨Nat.zero_le _, Nat.zero_le _⟩) hS hP (fun H locs hP hS => ?_)
                  refine lv_if_eq (tgt := 157) hx hb dX3_settle_150 (by decide) (fun c_150 => ?_) (fun c_150 => ?_)
                  · refine lv_iconst (v := 1) hx hb dX3_settle_157 (by decide) ?_
                    refine lv_iload_n hx hb dX3_settle_158 rfl (lv_at hl 1 rfl) ?_
                    refine lv_ishl hx hb dX3_settle_159 ?_
                    refine lv_iconst (v := (-1)) hx hb dX3_settle_160 (by decide) ?_
                    refine lv_ixor hx hb dX3_settle_161 ?_
                    refine lv_iand hx hb dX3_settle_162 ?_
                    refine va_iast hx hb hG.1 hP hD hS 2 0 rfl rfl (vp_in_nI (n := 3) (N := 4) (by decide) (by decide)) dX3_settle_163 (fun H locs hP hD hS => ?_)
                    have hP : va_P D vwCl (wN cyI cyZ ad mc (upd mw (3 : Int32).toNatClampNeg ((mw (3 : Int32).toNatClampNeg) &&& ((1 <<< ((mz.2.2.1 (p1).toNatClampNeg) &&& 31)) ^^^ (-1)))) mn me mu mr mz mf 0) H := hP
                    have hD : va_D A (wN cyI cyZ ad mc (upd mw (3 : Int32).toNatClampNeg ((mw (3 : Int32).toNatClampNeg) &&& ((1 <<< ((mz.2.2.1 (p1).toNatClampNeg) &&& 31)) ^^^ (-1)))) mn me mu mr mz mf 0) := hD
                    refine lv_goto (tgt := 241) hx hb dX3_settle_164 (by decide) ?_
                    refine lv_aload_n hx hb dX3_settle_241 rfl (lv_at hl 2 rfl) ?_
                    refine va_get (D := D) (ci := 3) (v := .ref (ad 10)) (C := RX3) (T := TX3) (N := 13) hx hb hts uin_X3_settle_X3 hown hG.1 hP 0 rfl rfl 11 (by decide) (hts (.fieldLink RX3 38 "TableSpliceModel" "settled" "[Z") (List.mem_of_getElem? (i := 3) rfl)) (fun _ h9 => h9) rfl dX3_settle_242 ?_
                    refine lv_iload_n hx hb dX3_settle_245 rfl (lv_at hl 3 rfl) ?_
                    refine lv_iconst (v := 1) hx hb dX3_settle_246 (by decide) ?_
                    refine va_zast hx hb hG.1 hP hD hS 10 1 rfl rfl (vi_mono (lt_lst hm c_12) hm) dX3_settle_247 (fun H locs hP hD hS => ?_)
                    have hP : va_P D vwCl (wN cyI cyZ ad mc (upd mw (3 : Int32).toNatClampNeg ((mw (3 : Int32).toNatClampNeg) &&& ((1 <<< ((mz.2.2.1 (p1).toNatClampNeg) &&& 31)) ^^^ (-1)))) mn me mu mr (mz.1, mz.2.1, mz.2.2.1, mz.2.2.2.1, upd mz.2.2.2.2 (p1).toNatClampNeg 1) mf 0) H := hP
                    have hD : va_D A (wN cyI cyZ ad mc (upd mw (3 : Int32).toNatClampNeg ((mw (3 : Int32).toNatClampNeg) &&& ((1 <<< ((mz.2.2.1 (p1).toNatClampNeg) &&& 31)) ^^^ (-1)))) mn me mu mr (mz.1, mz.2.1, mz.2.2.1, mz.2.2.2.1, upd mz.2.2.2.2 (p1).toNatClampNeg 1) mf 0) := hD
                    refine lv_aload_n hx hb dX3_settle_248 rfl (lv_at hl 2 rfl) ?_
                    refine pr_i (va_runV (As := []) (rest := []) ⟨hx, hb, hml, hown, hts⟩ (k_X3_left l D cyI cyZ ad mc (upd mw (3 : Int32).toNatClampNeg ((mw (3 : Int32).toNatClampNeg) &&& ((1 <<< ((mz.2.2.1 (p1).toNatClampNeg) &&& 31)) ^^^ (-1)))) mn me mu mr (mz.1, mz.2.1, mz.2.2.1, mz.2.2.2.1, upd mz.2.2.2.2 (p1).toNatClampNeg 1) mf 0 (by first | omega | (simp only [l1_lists]; omega))) (cwV 0 hts gX3_settle_X3_left rfl rfl rfl (by decide +kernel) ⟨Nat.le_of_ble_eq_true rfl, Nat.le_of_ble_eq_true rfl⟩) (prV hG hP (ci := 3) rfl rfl rfl) rfl rfl hl.1 rfl (lv_room (Nat.le_of_ble_eq_true rfl)) dX3_settle_249 ⟨Nat.zero_le _, Nat.zero_le _⟩) hS hP (fun H locs hP hS => ?_)
                    have ef : f_X3_settle mc mw mn me mz mf p1 p2 = (f_X3_left (mz.1, mz.2.1, mz.2.2.1, mz.2.2.2.1, upd mz.2.2.2.2 (p1).toNatClampNeg 1), mc, (upd mw (3 : Int32).toNatClampNeg ((mw (3 : Int32).toNatClampNeg) &&& ((1 <<< ((mz.2.2.1 (p1).toNatClampNeg) &&& 31)) ^^^ (-1)))), mn, me, (mz.1, mz.2.1, mz.2.2.1, mz.2.2.2.1, upd mz.2.2.2.2 (p1).toNatClampNeg 1), 0) := by rw [f_X3_settle, if_neg c_12, if_neg c_21, if_pos c_48, if_neg c_55, if_neg c_97, if_pos c_134, if_pos c_150]
                    exact W.iret (v := f_X3_left (mz.1, mz.2.1, mz.2.2.1, mz.2.2.2.1, upd mz.2.2.2.2 (p1).toNatClampNeg 1)) hx hb hr (fun t ht hW => ⟨⟨f_X3_left (mz.1, mz.2.1, mz.2.2.1, mz.2.2.2.1, upd mz.2.2.2.2 (p1).toNatClampNeg 1), (), rfl, by rw [ef], by rw [ht, ef]; exact hP, by rw [ef]; exact hD⟩, hS.F ht⟩) hS.2.2 dX3_settle_252
                  · refine lv_iconst (v := (-1)) hx hb dX3_settle_153 (by decide) ?_
                    refine lv_goto (tgt := 162) hx hb dX3_settle_154 (by decide) ?_
                    refine lv_iand hx hb dX3_settle_162 ?_
                    refine va_iast hx hb hG.1 hP hD hS 2 0 rfl rfl (vp_in_nI (n := 3) (N := 4) (by decide) (by decide)) dX3_settle_163 (fun H locs hP hD hS => ?_)
                    have hP : va_P D vwCl (wN cyI cyZ ad mc (upd mw (3 : Int32).toNatClampNeg ((mw (3 : Int32).toNatClampNeg) &&& (-1))) mn me mu mr mz mf 0) H := hP
                    have hD : va_D A (wN cyI cyZ ad mc (upd mw (3 : Int32).toNatClampNeg ((mw (3 : Int32).toNatClampNeg) &&& (-1))) mn me mu mr mz mf 0) := hD
                    refine lv_goto (tgt := 241) hx hb dX3_settle_164 (by decide) ?_
                    refine lv_aload_n hx hb dX3_settle_241 rfl (lv_at hl 2 rfl) ?_
                    refine va_get (D := D) (ci := 3) (v := .ref (ad 10)) (C := RX3) (T := TX3) (N := 13) hx hb hts uin_X3_settle_X3 hown hG.1 hP 0 rfl rfl 11 (by decide) (hts (.fieldLink RX3 38 "TableSpliceModel" "settled" "[Z") (List.mem_of_getElem? (i := 3) rfl)) (fun _ h9 => h9) rfl dX3_settle_242 ?_
                    refine lv_iload_n hx hb dX3_settle_245 rfl (lv_at hl 3 rfl) ?_
                    refine lv_iconst (v := 1) hx hb dX3_settle_246 (by decide) ?_
                    refine va_zast hx hb hG.1 hP hD hS 10 1 rfl rfl (vi_mono (lt_lst hm c_12) hm) dX3_settle_247 (fun H locs hP hD hS => ?_)
                    have hP : va_P D vwCl (wN cyI cyZ ad mc (upd mw (3 : Int32).toNatClampNeg ((mw (3 : Int32).toNatClampNeg) &&& (-1))) mn me mu mr (mz.1, mz.2.1, mz.2.2.1, mz.2.2.2.1, upd mz.2.2.2.2 (p1).toNatClampNeg 1) mf 0) H := hP
                    have hD : va_D A (wN cyI cyZ ad mc (upd mw (3 : Int32).toNatClampNeg ((mw (3 : Int32).toNatClampNeg) &&& (-1))) mn me mu mr (mz.1, mz.2.1, mz.2.2.1, mz.2.2.2.1, upd mz.2.2.2.2 (p1).toNatClampNeg 1) mf 0) := hD
                    refine lv_aload_n hx hb dX3_settle_248 rfl (lv_at hl 2 rfl) ?_
                    refine pr_i (va_runV (As := []) (rest := []) ⟨hx, hb, hml, hown, hts⟩ (k_X3_left l D cyI cyZ ad mc (upd mw (3 : Int32).toNatClampNeg ((mw (3 : Int32).toNatClampNeg) &&& (-1))) mn me mu mr (mz.1, mz.2.1, mz.2.2.1, mz.2.2.2.1, upd mz.2.2.2.2 (p1).toNatClampNeg 1) mf 0 (by first | omega | (simp only [l1_lists]; omega))) (cwV 0 hts gX3_settle_X3_left rfl rfl rfl (by decide +kernel) ⟨Nat.le_of_ble_eq_true rfl, Nat.le_of_ble_eq_true rfl⟩) (prV hG hP (ci := 3) rfl rfl rfl) rfl rfl hl.1 rfl (lv_room (Nat.le_of_ble_eq_true rfl)) dX3_settle_249 ⟨Nat.zero_le _, Nat.zero_le _⟩) hS hP (fun H locs hP hS => ?_)
                    have ef : f_X3_settle mc mw mn me mz mf p1 p2 = (f_X3_left (mz.1, mz.2.1, mz.2.2.1, mz.2.2.2.1, upd mz.2.2.2.2 (p1).toNatClampNeg 1), mc, (upd mw (3 : Int32).toNatClampNeg ((mw (3 : Int32).toNatClampNeg) &&& (-1))), mn, me, (mz.1, mz.2.1, mz.2.2.1, mz.2.2.2.1, upd mz.2.2.2.2 (p1).toNatClampNeg 1), 0) := by rw [f_X3_settle, if_neg c_12, if_neg c_21, if_pos c_48, if_neg c_55, if_neg c_97, if_pos c_134, if_neg c_150]
                    exact W.iret (v := f_X3_left (mz.1, mz.2.1, mz.2.2.1, mz.2.2.2.1, upd mz.2.2.2.2 (p1).toNatClampNeg 1)) hx hb hr (fun t ht hW => ⟨⟨f_X3_left (mz.1, mz.2.1, mz.2.2.1, mz.2.2.2.1, upd mz.2.2.2.2 (p1).toNatClampNeg 1), (), rfl, by rw [ef], by rw [ht, ef]; exact hP, by rw [ef]; exact hD⟩, hS.F ht⟩) hS.2.2 dX3_settle_252
              · refine lv_aload_n hx hb dX3_settle_100 rfl (lv_at hl 2 rfl) ?_
                refine va_get (D := D) (ci := 3) (v := .ref (ad 4)) (C := RX3) (T := TX3) (N := 13) hx hb hts uin_X3_settle_X3 hown hG.1 hP 0 rfl rfl 3 (by decide) (hts (.fieldLink RX3 19 "TableSpliceModel" "cell" "[I") (List.mem_of_getElem? (i := 8) rfl)) (fun _ h9 => h9) rfl dX3_settle_101 ?_
                refine lv_sipush (v := 576) hx hb dX3_settle_104 (by decide) ?_
                refine lv_bipush (v := 8) hx hb dX3_settle_107 (by decide) ?_
                refine lv_iload_n hx hb dX3_settle_109 rfl (lv_at hl 1 rfl) ?_
                refine lv_imul hx hb dX3_settle_110 ?_
                refine lv_iadd hx hb dX3_settle_111 ?_
                refine lv_iload hx hb dX3_settle_112 (lv_at hl 0 rfl) ?_
                refine lv_iadd hx hb dX3_settle_114 ?_
                refine lv_aload_n hx hb dX3_settle_115 rfl (lv_at hl 2 rfl) ?_
                refine lv_iload_n hx hb dX3_settle_116 rfl (lv_at hl 4 rfl) ?_
                refine lv_iload_n hx hb dX3_settle_117 rfl (lv_at hl 1 rfl) ?_
                refine lv_iload hx hb dX3_settle_118 (lv_at hl 0 rfl) ?_
                refine pr_i (va_runV (As := [.int p2, .int (mz.2.2.1 (p1).toNatClampNeg), .int (mz.2.2.2.1 (p1).toNatClampNeg)]) (rest := [.int ((576 + (8 * (mz.2.2.1 (p1).toNatClampNeg))) + (mz.2.2.2.1 (p1).toNatClampNeg)), .ref (ad 4)]) ⟨hx, hb, hml, hown, hts⟩ (k_X3_at l D cyI cyZ ad mc mw mn me mu mr mz mf 0 p2 (mz.2.2.1 (p1).toNatClampNeg) (mz.2.2.2.1 (p1).toNatClampNeg) (vi_mono (in_isIn (n := 2) rfl (by decide) c_21) (by decide)) ((hs _).1 (vt_in (lt_lst hm c_12)) c_97) ((hs _).2.1 (vt_in (lt_lst hm c_12)) c_97)) (cwV 3 hts gX3_settle_X3_at rfl rfl rfl (by decide +kernel) ⟨Nat.le_of_ble_eq_true rfl, Nat.le_of_ble_eq_true rfl⟩) (prV hG hP (ci := 3) rfl rfl rfl) rfl rfl hl.1 rfl (lv_room (Nat.le_of_ble_eq_true rfl)) dX3_settle_120 ⟨Nat.zero_le _, Nat.zero_le _⟩) hS hP (fun H locs hP hS => ?_)
                refine va_iast hx hb hG.1 hP hD hS 4 0 rfl rfl (vi_add (k := 768) (vi_add (k := 761) (vp_in_nI (n := 576) (N := 577) (by decide) (by decide)) (vi_mul (c := 8) (k := 185) rfl ((hs _).1 (vt_in (lt_lst hm c_12)) c_97) (by decide) (by decide) (by decide)) (by decide) (by decide)) ((hs _).2.1 (vt_in (lt_lst hm c_12)) c_97) (by decide) (by decide)) dX3_settle_123 (fun H locs hP hD hS => ?_)
                have hP : va_P D vwCl (wN cyI cyZ ad mc mw mn (upd me ((576 + (8 * (mz.2.2.1 (p1).toNatClampNeg))) + (mz.2.2.2.1 (p1).toNatClampNeg)).toNatClampNeg (f_X3_at me p2 (mz.2.2.1 (p1).toNatClampNeg) (mz.2.2.2.1 (p1).toNatClampNeg))) mu mr mz mf 0) H := hP
                have hD : va_D A (wN cyI cyZ ad mc mw mn (upd me ((576 + (8 * (mz.2.2.1 (p1).toNatClampNeg))) + (mz.2.2.2.1 (p1).toNatClampNeg)).toNatClampNeg (f_X3_at me p2 (mz.2.2.1 (p1).toNatClampNeg) (mz.2.2.2.1 (p1).toNatClampNeg))) mu mr mz mf 0) := hD
                refine lv_goto (tgt := 241) hx hb dX3_settle_124 (by decide) ?_
                refine lv_aload_n hx hb dX3_settle_241 rfl (lv_at hl 2 rfl) ?_
                refine va_get (D := D) (ci := 3) (v := .ref (ad 10)) (C := RX3) (T := TX3) (N := 13) hx hb hts uin_X3_settle_X3 hown hG.1 hP 0 rfl rfl 11 (by decide) (hts (.fieldLink RX3 38 "TableSpliceModel" "settled" "[Z") (List.mem_of_getElem? (i := 3) rfl)) (fun _ h9 => h9) rfl dX3_settle_242 ?_
                refine lv_iload_n hx hb dX3_settle_245 rfl (lv_at hl 3 rfl) ?_
                refine lv_iconst (v := 1) hx hb dX3_settle_246 (by decide) ?_
                refine va_zast hx hb hG.1 hP hD hS 10 1 rfl rfl (vi_mono (lt_lst hm c_12) hm) dX3_settle_247 (fun H locs hP hD hS => ?_)
                have hP : va_P D vwCl (wN cyI cyZ ad mc mw mn (upd me ((576 + (8 * (mz.2.2.1 (p1).toNatClampNeg))) + (mz.2.2.2.1 (p1).toNatClampNeg)).toNatClampNeg (f_X3_at me p2 (mz.2.2.1 (p1).toNatClampNeg) (mz.2.2.2.1 (p1).toNatClampNeg))) mu mr (mz.1, mz.2.1, mz.2.2.1, mz.2.2.2.1, upd mz.2.2.2.2 (p1).toNatClampNeg 1) mf 0) H := hP
                have hD : va_D A (wN cyI cyZ ad mc mw mn (upd me ((576 + (8 * (mz.2.2.1 (p1).toNatClampNeg))) + (mz.2.2.2.1 (p1).toNatClampNeg)).toNatClampNeg (f_X3_at me p2 (mz.2.2.1 (p1).toNatClampNeg) (mz.2.2.2.1 (p1).toNatClampNeg))) mu mr (mz.1, mz.2.1, mz.2.2.1, mz.2.2.2.1, upd mz.2.2.2.2 (p1).toNatClampNeg 1) mf 0) := hD
                refine lv_aload_n hx hb dX3_settle_248 rfl (lv_at hl 2 rfl) ?_
                refine pr_i (va_runV (As := []) (rest := []) ⟨hx, hb, hml, hown, hts⟩ (k_X3_left l D cyI cyZ ad mc mw mn (upd me ((576 + (8 * (mz.2.2.1 (p1).toNatClampNeg))) + (mz.2.2.2.1 (p1).toNatClampNeg)).toNatClampNeg (f_X3_at me p2 (mz.2.2.1 (p1).toNatClampNeg) (mz.2.2.2.1 (p1).toNatClampNeg))) mu mr (mz.1, mz.2.1, mz.2.2.1, mz.2.2.2.1, upd mz.2.2.2.2 (p1).toNatClampNeg 1) mf 0 (by first | omega | (simp only [l1_lists]; omega))) (cwV 0 hts gX3_settle_X3_left rfl rfl rfl (by decide +kernel) ⟨Nat.le_of_ble_eq_true rfl, Nat.le_of_ble_eq_true rfl⟩) (prV hG hP (ci := 3) rfl rfl rfl) rfl rfl hl.1 rfl (lv_room (Nat.le_of_ble_eq_true rfl)) dX3_settle_249 ⟨Nat.zero_le _, Nat.zero_le _⟩) hS hP (fun H locs hP hS => ?_)
                have ef : f_X3_settle mc mw mn me mz mf p1 p2 = (f_X3_left (mz.1, mz.2.1, mz.2.2.1, mz.2.2.2.1, upd mz.2.2.2.2 (p1).toNatClampNeg 1), mc, mw, mn, (upd me ((576 + (8 * (mz.2.2.1 (p1).toNatClampNeg))) + (mz.2.2.2.1 (p1).toNatClampNeg)).toNatClampNeg (f_X3_at me p2 (mz.2.2.1 (p1).toNatClampNeg) (mz.2.2.2.1 (p1).toNatClampNeg))), (mz.1, mz.2.1, mz.2.2.1, mz.2.2.2.1, upd mz.2.2.2.2 (p1).toNatClampNeg 1), 0) := by rw [f_X3_settle, if_neg c_12, if_neg c_21, if_pos c_48, if_neg c_55, if_pos c_97]
                exact W.iret (v := f_X3_left (mz.1, mz.2.1, mz.2.2.1, mz.2.2.2.1, upd mz.2.2.2.2 (p1).toNatClampNeg 1)) hx hb hr (fun t ht hW => ⟨⟨f_X3_left (mz.1, mz.2.1, mz.2.2.1, mz.2.2.2.1, upd mz.2.2.2.2 (p1).toNatClampNeg 1), (), rfl, by rw [ef], by rw [ht, ef]; exact hP, by rw [ef]; exact hD⟩, hS.F ht⟩) hS.2.2 dX3_settle_252
            · exact absurd (by decide) c_70
          · refine lv_iconst (v := 2) hx hb dX3_settle_58 (by decide) ?_
            refine lv_goto (tgt := 63) hx hb dX3_settle_59 (by decide) ?_
            refine va_put (D := D) (ci := 3) (v := .int 2) (ty := .int) (C := RX3) (T := TX3) (N := 13) hx hb hts uin_X3_settle_X3 tyX3 tyX3_ok nmX3 hown hG.1 hP hD hS 0 rfl rfl 12 (by decide) (hts (.fieldLink RX3 41 "TableSpliceModel" "thrown" "I") (List.mem_of_getElem? (i := 2) rfl)) (fun _ h9 => h9) rfl (by decide +kernel) rfl rfl (Nat.le_of_ble_eq_true rfl) dX3_settle_63 (fun H locs hP hD hS => ?_)
            have hP : va_P D vwCl (wN cyI cyZ ad mc mw mn me mu mr mz mf 2) H := hP
            have hD : va_D A (wN cyI cyZ ad mc mw mn me mu mr mz mf 2) := hD
            refine lv_aload_n hx hb dX3_settle_66 rfl (lv_at hl 0 rfl) ?_
            refine va_get (D := D) (ci := 3) (v := .int 2) (C := RX3) (T := TX3) (N := 13) hx hb hts uin_X3_settle_X3 hown hG.1 hP 0 rfl rfl 12 (by decide) (hts (.fieldLink RX3 41 "TableSpliceModel" "thrown" "I") (List.mem_of_getElem? (i := 2) rfl)) (fun _ h9 => h9) rfl dX3_settle_67 ?_
            refine lv_if_le (tgt := 75) hx hb dX3_settle_70 (by decide) (fun c_70 => ?_) (fun c_70 => ?_)
            · exact absurd c_70 (by decide)
            · refine lv_iconst (v := 0) hx hb dX3_settle_73 (by decide) ?_
              have ef : f_X3_settle mc mw mn me mz mf p1 p2 = (0, mc, mw, mn, me, mz, 2) := by rw [f_X3_settle, if_neg c_12, if_neg c_21, if_pos c_48, if_pos c_55]
              exact W.iret (v := 0) hx hb hr (fun t ht hW => ⟨⟨0, (), rfl, by rw [ef], by rw [ht, ef]; exact hP, by rw [ef]; exact hD⟩, hS.F ht⟩) hS.2.2 dX3_settle_74
      · exact absurd (by decide) c_36
    · refine lv_iconst (v := 1) hx hb dX3_settle_24 (by decide) ?_
      refine lv_goto (tgt := 29) hx hb dX3_settle_25 (by decide) ?_
      have hS := sw_n (B := A) hS
      refine va_put (D := D) (ci := 3) (v := .int 1) (ty := .int) (C := RX3) (T := TX3) (N := 13) hx hb hts uin_X3_settle_X3 tyX3 tyX3_ok nmX3 hown hG.1 hP hD hS 0 rfl rfl 12 (by decide) (hts (.fieldLink RX3 41 "TableSpliceModel" "thrown" "I") (List.mem_of_getElem? (i := 2) rfl)) (fun _ h9 => h9) rfl (by decide +kernel) rfl rfl (Nat.le_of_ble_eq_true rfl) dX3_settle_29 (fun H locs hP hD hS => ?_)
      have hP : va_P D vwCl (wN cyI cyZ ad mc mw mn me mu mr mz mf 1) H := hP
      have hD : va_D A (wN cyI cyZ ad mc mw mn me mu mr mz mf 1) := hD
      refine lv_aload_n hx hb dX3_settle_32 rfl (lv_at hl 0 rfl) ?_
      refine va_get (D := D) (ci := 3) (v := .int 1) (C := RX3) (T := TX3) (N := 13) hx hb hts uin_X3_settle_X3 hown hG.1 hP 0 rfl rfl 12 (by decide) (hts (.fieldLink RX3 41 "TableSpliceModel" "thrown" "I") (List.mem_of_getElem? (i := 2) rfl)) (fun _ h9 => h9) rfl dX3_settle_33 ?_
      refine lv_if_le (tgt := 41) hx hb dX3_settle_36 (by decide) (fun c_36 => ?_) (fun c_36 => ?_)
      · exact absurd c_36 (by decide)
      · refine lv_iconst (v := 0) hx hb dX3_settle_39 (by decide) ?_
        have ef : f_X3_settle mc mw mn me mz mf p1 p2 = (0, mc, mw, mn, me, mz, 1) := by rw [f_X3_settle, if_neg c_12, if_pos c_21]
        exact W.iret (v := 0) hx hb hr (fun t ht hW => ⟨⟨0, (), rfl, by rw [ef], by rw [ht, ef]; exact hP, by rw [ef]; exact hD⟩, hS.F ht⟩) hS.2.2 dX3_settle_40
