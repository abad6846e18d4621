def f_X3_lists (mz : Kr) (p1 : Int32) (p2 : Int32) (p3 : Int32) : Kr := ((mz.1 + 1), upd mz.2.1 (nI mz.1).toNatClampNeg p1, upd mz.2.2.1 (nI mz.1).toNatClampNeg p2, upd mz.2.2.2.1 (nI mz.1).toNatClampNeg p3, upd mz.2.2.2.2 (nI mz.1).toNatClampNeg 0)
theorem uin_X3_lists_X3 : ∀ w ∈ wsX30, w ∈ wsX3_lists := fun _ h => List.mem_cons_of_mem _ (List.mem_append_right _ h)
set_option maxHeartbeats 4000000 in
set_option maxRecDepth 100000 in
theorem k_X3_lists (l : Launch) (D : va_G) (cyI cyZ : ClassId) (ad : Nat → Nat) (mc : Nat → Int32) (mw : Nat → Int32) (mn : Nat → Int32) (me : Nat → Int32) (mu : Nat → Int32) (mr : Nat → Int32) (mz : Kr) (mf : Int32) (mt : Int32) (p1 : Int32) (p2 : Int32) (p3 : Int32) (A : Nat → Prop) (sz : Nat) (hAe : A = va_A (wN cyI cyZ ad mc mw mn me mu mr mz mf mt) sz) (hn : mz.1 < 440) : Met l yX3_lists wsX3_lists ({ frames := 0, cells := 0, slots := 0, locals := 0 } : Room) (pcM D cyI cyZ sz [.ref (ad 0), .int p1, .int p2, .int p3] (wN cyI cyZ ad mc mw mn me mu mr mz mf mt)) (mV D A (wN cyI cyZ ad mc mw mn me mu mr (f_X3_lists mz p1 p2 p3) mf mt)) 0 0 A := by
  refine Met.ofW (cc := cX3_lists) (maxL := 4) (ret := none) (by decide) rfl ?_
  intro p e s m args below meth c s₁ B hml hv
  obtain ⟨rfl, hsz, hP, hG, hD0⟩ := hv
  have hx := B.exec
  have hb := B.bytes
  have hr := B.returns
  have hts := atoms_spec (ws := wsX3_lists) B.pre
  have hown : s.vm.findClass RX3 = some m.cls := findClass_of_methodNamed B.named
  have hlocks := B.notSynchronized
  subst hsz
  have hD : va_D A (wN cyI cyZ ad mc mw mn me mu mr mz mf mt) := by rw [hAe]; exact hD0.self
  have hA : ∀ q : Nat, s.heap.size ≤ q → A q := fun q h => by rw [hAe]; exact Or.inr h
  clear hAe hD0
  have hS : va_S nA s.heap s.heap [] := va_S.rf
  have hl := lv_entry ([.ref (ad 0), .int p1, .int p2, .int p3]) (n := 4) (Nat.le_of_ble_eq_true rfl)
  rw [lg_entry_eq]
  generalize (lg_sl ([.ref (ad 0), .int p1, .int p2, .int p3]) ++ List.replicate (4 - (lg_sl ([.ref (ad 0), .int p1, .int p2, .int p3])).length) Slot.unset).toArray = ls at hl ⊢
  have hl : lv_has ls 4 [(0, .ref (ad 0)), (1, .int p1), (2, .int p2), (3, .int p3)] := hl
  have hP : va_P D vwCl (wN cyI cyZ ad mc mw mn me mu mr mz mf mt) s.heap := hP
  refine lv_aload_n hx hb dX3_lists_0 rfl (lv_at hl 0 rfl) ?_
  refine va_get (D := D) (ci := 3) (v := .ref (ad 7)) (C := RX3) (T := TX3) (N := 13) hx hb hts uin_X3_lists_X3 hown hG.1 hP 0 rfl rfl 8 (by decide) (hts (.fieldLink RX3 29 "TableSpliceModel" "kind" "[I") (List.mem_of_getElem? (i := 1) rfl)) (fun _ h9 => h9) rfl dX3_lists_1 ?_
  refine lv_aload_n hx hb dX3_lists_4 rfl (lv_at hl 0 rfl) ?_
  refine va_get (D := D) (ci := 3) (v := .int (nI mz.1)) (C := RX3) (T := TX3) (N := 13) hx hb hts uin_X3_lists_X3 hown hG.1 hP 0 rfl rfl 6 (by decide) (hts (.fieldLink RX3 97 "TableSpliceModel" "listed" "I") (List.mem_of_getElem? (i := 2) rfl)) (fun _ h9 => h9) rfl dX3_lists_5 ?_
  refine lv_iload_n hx hb dX3_lists_8 rfl (lv_at hl 1 rfl) ?_
  have hS := sw_n (B := A) hS
  refine va_iast hx hb hG.1 hP hD hS 7 0 rfl rfl (vp_in_nI (n := mz.1) (N := 440) hn (by decide)) dX3_lists_9 (fun H locs hP hD hS => ?_)
  have hP : va_P D vwCl (wN cyI cyZ ad mc mw mn me mu mr (mz.1, upd mz.2.1 (nI mz.1).toNatClampNeg p1, mz.2.2.1, mz.2.2.2.1, mz.2.2.2.2) mf mt) H := hP
  have hD : va_D A (wN cyI cyZ ad mc mw mn me mu mr (mz.1, upd mz.2.1 (nI mz.1).toNatClampNeg p1, mz.2.2.1, mz.2.2.2.1, mz.2.2.2.2) mf mt) := hD
  refine lv_aload_n hx hb dX3_lists_10 rfl (lv_at hl 0 rfl) ?_
  refine va_get (D := D) (ci := 3) (v := .ref (ad 8)) (C := RX3) (T := TX3) (N := 13) hx hb hts uin_X3_lists_X3 hown hG.1 hP 0 rfl rfl 9 (by decide) (hts (.fieldLink RX3 32 "TableSpliceModel" "key" "[I") (List.mem_of_getElem? (i := 3) rfl)) (fun _ h9 => h9) rfl dX3_lists_11 ?_
  refine lv_aload_n hx hb dX3_lists_14 rfl (lv_at hl 0 rfl) ?_
  refine va_get (D := D) (ci := 3) (v := .int (nI mz.1)) (C := RX3) (T := TX3) (N := 13) hx hb hts uin_X3_lists_X3 hown hG.1 hP 0 rfl rfl 6 (by decide) (hts (.fieldLink RX3 97 "TableSpliceModel" "listed" "I") (List.mem_of_getElem? (i := 2) rfl)) (fun _ h9 => h9) rfl dX3_lists_15 ?_
  refine lv_iload_n hx hb dX3_lists_18 rfl (lv_at hl 2 rfl) ?_
  refine va_iast hx hb hG.1 hP hD hS 8 0 rfl rfl (vp_in_nI (n := mz.1) (N := 440) hn (by decide)) dX3_lists_19 (fun H locs hP hD hS => ?_)
  have hP : va_P D vwCl (wN cyI cyZ ad mc mw mn me mu mr (mz.1, upd mz.2.1 (nI mz.1).toNatClampNeg p1, upd mz.2.2.1 (nI mz.1).toNatClampNeg p2, mz.2.2.2.1, mz.2.2.2.2) mf mt) H := hP
  have hD : va_D A (wN cyI cyZ ad mc mw mn me mu mr (mz.1, upd mz.2.1 (nI mz.1).toNatClampNeg p1, upd mz.2.2.1 (nI mz.1).toNatClampNeg p2, mz.2.2.2.1, mz.2.2.2.2) mf mt) := hD
  refine lv_aload_n hx hb dX3_lists_20 rfl (lv_at hl 0 rfl) ?_
  refine va_get (D := D) (ci := 3) (v := .ref (ad 9)) (C := RX3) (T := TX3) (N := 13) hx hb hts uin_X3_lists_X3 hown hG.1 hP 0 rfl rfl 10 (by decide) (hts (.fieldLink RX3 35 "TableSpliceModel" "column" "[I") (List.mem_of_getElem? (i := 4) rfl)) (fun _ h9 => h9) rfl dX3_lists_21 ?_
  refine lv_aload_n hx hb dX3_lists_24 rfl (lv_at hl 0 rfl) ?_
  refine va_get (D := D) (ci := 3) (v := .int (nI mz.1)) (C := RX3) (T := TX3) (N := 13) hx hb hts uin_X3_lists_X3 hown hG.1 hP 0 rfl rfl 6 (by decide) (hts (.fieldLink RX3 97 "TableSpliceModel" "listed" "I") (List.mem_of_getElem? (i := 2) rfl)) (fun _ h9 => h9) rfl dX3_lists_25 ?_
  refine lv_iload_n hx hb dX3_lists_28 rfl (lv_at hl 3 rfl) ?_
  refine va_iast hx hb hG.1 hP hD hS 9 0 rfl rfl (vp_in_nI (n := mz.1) (N := 440) hn (by decide)) dX3_lists_29 (fun H locs hP hD hS => ?_)
  have hP : va_P D vwCl (wN cyI cyZ ad mc mw mn me mu mr (mz.1, upd mz.2.1 (nI mz.1).toNatClampNeg p1, upd mz.2.2.1 (nI mz.1).toNatClampNeg p2, upd mz.2.2.2.1 (nI mz.1).toNatClampNeg p3, mz.2.2.2.2) mf mt) H := hP
  have hD : va_D A (wN cyI cyZ ad mc mw mn me mu mr (mz.1, upd mz.2.1 (nI mz.1).toNatClampNeg p1, upd mz.2.2.1 (nI mz.1).toNatClampNeg p2, upd mz.2.2.2.1 (nI mz.1).toNatClampNeg p3, mz.2.2.2.2) mf mt) := hD
  refine lv_aload_n hx hb dX3_lists_30 rfl (lv_at hl 0 rfl) ?_
  refine va_get (D := D) (ci := 3) (v := .ref (ad 10)) (C := RX3) (T := TX3) (N := 13) hx hb hts uin_X3_lists_X3 hown hG.1 hP 0 rfl rfl 11 (by decide) (hts (.fieldLink RX3 38 "TableSpliceModel" "settled" "[Z") (List.mem_of_getElem? (i := 5) rfl)) (fun _ h9 => h9) rfl dX3_lists_31 ?_
  refine lv_aload_n hx hb dX3_lists_34 rfl (lv_at hl 0 rfl) ?_
  refine va_get (D := D) (ci := 3) (v := .int (nI mz.1)) (C := RX3) (T := TX3) (N := 13) hx hb hts uin_X3_lists_X3 hown hG.1 hP 0 rfl rfl 6 (by decide) (hts (.fieldLink RX3 97 "TableSpliceModel" "listed" "I") (List.mem_of_getElem? (i := 2) rfl)) (fun _ h9 => h9) rfl dX3_lists_35 ?_
  refine lv_iconst (v := 0) hx hb dX3_lists_38 (by decide) ?_
  refine va_zast hx hb hG.1 hP hD hS 10 1 rfl rfl (vp_in_nI (n := mz.1) (N := 440) hn (by decide)) dX3_lists_39 (fun H locs hP hD hS => ?_)
  have hP : va_P D vwCl (wN cyI cyZ ad mc mw mn me mu mr (mz.1, upd mz.2.1 (nI mz.1).toNatClampNeg p1, upd mz.2.2.1 (nI mz.1).toNatClampNeg p2, upd mz.2.2.2.1 (nI mz.1).toNatClampNeg p3, upd mz.2.2.2.2 (nI mz.1).toNatClampNeg 0) mf mt) H := hP
  have hD : va_D A (wN cyI cyZ ad mc mw mn me mu mr (mz.1, upd mz.2.1 (nI mz.1).toNatClampNeg p1, upd mz.2.2.1 (nI mz.1).toNatClampNeg p2, upd mz.2.2.2.1 (nI mz.1).toNatClampNeg p3, upd mz.2.2.2.2 (nI mz.1).toNatClampNeg 0) mf mt) := hD
  refine lv_aload_n hx hb dX3_lists_40 rfl (lv_at hl 0 rfl) ?_
  refine lv_dup hx hb dX3_lists_41 rfl ?_
  refine va_get (D := D) (ci := 3) (v := .int (nI mz.1)) (C := RX3) (T := TX3) (N := 13) hx hb hts uin_X3_lists_X3 hown hG.1 hP 0 rfl rfl 6 (by decide) (hts (.fieldLink RX3 97 "TableSpliceModel" "listed" "I") (List.mem_of_getElem? (i := 2) rfl)) (fun _ h9 => h9) rfl dX3_lists_42 ?_
  refine lv_iconst (v := 1) hx hb dX3_lists_45 (by decide) ?_
  refine lv_iadd hx hb dX3_lists_46 ?_
  refine W.eq (g2 := F0 m 47 ls (.int (nI (mz.1 + 1)) :: [.ref (ad 0)])) (by rw [← nI_1]) ?_
  refine va_put (D := D) (ci := 3) (v := .int (nI (mz.1 + 1))) (ty := .int) (C := RX3) (T := TX3) (N := 13) hx hb hts uin_X3_lists_X3 tyX3 tyX3_ok nmX3 hown hG.1 hP hD hS 0 rfl rfl 6 (by decide) (hts (.fieldLink RX3 97 "TableSpliceModel" "listed" "I") (List.mem_of_getElem? (i := 2) rfl)) (fun _ h9 => h9) rfl (by decide +kernel) rfl rfl (Nat.le_of_ble_eq_true rfl) dX3_lists_47 (fun H locs hP hD hS => ?_)
  have hP : va_P D vwCl (wN cyI cyZ ad mc mw mn me mu mr ((mz.1 + 1), upd mz.2.1 (nI mz.1).toNatClampNeg p1, upd mz.2.2.1 (nI mz.1).toNatClampNeg p2, upd mz.2.2.2.1 (nI mz.1).toNatClampNeg p3, upd mz.2.2.2.2 (nI mz.1).toNatClampNeg 0) mf mt) H := hP
  have hD : va_D A (wN cyI cyZ ad mc mw mn me mu mr ((mz.1 + 1), upd mz.2.1 (nI mz.1).toNatClampNeg p1, upd mz.2.2.1 (nI mz.1).toNatClampNeg p2, upd mz.2.2.2.1 (nI mz.1).toNatClampNeg p3, upd mz.2.2.2.2 (nI mz.1).toNatClampNeg 0) mf mt) := hD
  have ef : f_X3_lists mz p1 p2 p3 = ((mz.1 + 1), upd mz.2.1 (nI mz.1).toNatClampNeg p1, upd mz.2.2.1 (nI mz.1).toNatClampNeg p2, upd mz.2.2.2.1 (nI mz.1).toNatClampNeg p3, upd mz.2.2.2.2 (nI mz.1).toNatClampNeg 0) := by rw [f_X3_lists]
  exact W.vret hx hb hr (fun t ht hW => ⟨⟨(), rfl, trivial, by rw [ht, ef]; exact hP, by rw [ef]; exact hD⟩, hS.F ht⟩) hS.2.2 dX3_lists_50
theorem l1_lists {mz : Kr} {p1 p2 p3 : Int32} : (f_X3_lists mz p1 p2 p3).1 = mz.1 + 1 := rfl
def f_X3_fills_sa (mw : Nat → Int32) (me : Nat → Int32) (ia : Nat) (mc_a : Nat → Int32) (mn_a : Nat → Int32) (mz_a : Kr) : (Nat → Int32) × (Nat → Int32) × Kr := if (f_X3_mergedColumn mc_a (upd mw (3 : Int32).toNatClampNeg 0) mn_a me (nI ia)) ≤ 0 then (if (f_X3_mergedColumn mc_a (upd mw (3 : Int32).toNatClampNeg 0) mn_a me (nI ia)) = 2 then (mc_a, mn_a, (f_X3_lists mz_a 3 (-1) (nI ia))) else (mc_a, mn_a, mz_a)) else (if (f_X3_naming (upd mc_a (3 : Int32).toNatClampNeg ((mc_a (3 : Int32).toNatClampNeg) ||| (1 <<< ((nI ia) &&& 31)))) mn_a (nI ia)) = 2 then (if (f_X3_mergedColumn mc_a (upd mw (3 : Int32).toNatClampNeg 0) mn_a me (nI ia)) = 2 then (if (f_X3_naming (upd mc_a (3 : Int32).toNatClampNeg ((mc_a (3 : Int32).toNatClampNeg) ||| (1 <<< ((nI ia) &&& 31)))) (upd mn_a (24 + (nI ia)).toNatClampNeg (mn_a (16 + (nI ia)).toNatClampNeg)) (nI ia)) = 0 then ((upd mc_a (3 : Int32).toNatClampNeg ((mc_a (3 : Int32).toNatClampNeg) ||| (1 <<< ((nI ia) &&& 31)))), (upd mn_a (24 + (nI ia)).toNatClampNeg (mn_a (16 + (nI ia)).toNatClampNeg)), (f_X3_lists (f_X3_lists mz_a 3 (-1) (nI ia)) 4 (-1) (nI ia))) else ((upd mc_a (3 : Int32).toNatClampNeg ((mc_a (3 : Int32).toNatClampNeg) ||| (1 <<< ((nI ia) &&& 31)))), (upd mn_a (24 + (nI ia)).toNatClampNeg (mn_a (16 + (nI ia)).toNatClampNeg)), (f_X3_lists mz_a 3 (-1) (nI ia)))) else (if (f_X3_naming (upd mc_a (3 : Int32).toNatClampNeg ((mc_a (3 : Int32).toNatClampNeg) ||| (1 <<< ((nI ia) &&& 31)))) (upd mn_a (24 + (nI ia)).toNatClampNeg (mn_a (16 + (nI ia)).toNatClampNeg)) (nI ia)) = 0 then ((upd mc_a (3 : Int32).toNatClampNeg ((mc_a (3 : Int32).toNatClampNeg) ||| (1 <<< ((nI ia) &&& 31)))), (upd mn_a (24 + (nI ia)).toNatClampNeg (mn_a (16 + (nI ia)).toNatClampNeg)), (f_X3_lists mz_a 4 (-1) (nI ia))) else ((upd mc_a (3 : Int32).toNatClampNeg ((mc_a (3 : Int32).toNatClampNeg) ||| (1 <<< ((nI ia) &&& 31)))), (upd mn_a (24 + (nI ia)).toNatClampNeg (mn_a (16 + (nI ia)).toNatClampNeg)), mz_a))) else (if (f_X3_mergedColumn mc_a (upd mw (3 : Int32).toNatClampNeg 0) mn_a me (nI ia)) = 2 then (if (f_X3_naming (upd mc_a (3 : Int32).toNatClampNeg ((mc_a (3 : Int32).toNatClampNeg) ||| (1 <<< ((nI ia) &&& 31)))) (upd mn_a (24 + (nI ia)).toNatClampNeg (mn_a (8 + (nI ia)).toNatClampNeg)) (nI ia)) = 0 then ((upd mc_a (3 : Int32).toNatClampNeg ((mc_a (3 : Int32).toNatClampNeg) ||| (1 <<< ((nI ia) &&& 31)))), (upd mn_a (24 + (nI ia)).toNatClampNeg (mn_a (8 + (nI ia)).toNatClampNeg)), (f_X3_lists (f_X3_lists mz_a 3 (-1) (nI ia)) 4 (-1) (nI ia))) else ((upd mc_a (3 : Int32).toNatClampNeg ((mc_a (3 : Int32).toNatClampNeg) ||| (1 <<< ((nI ia) &&& 31)))), (upd mn_a (24 + (nI ia)).toNatClampNeg (mn_a (8 + (nI ia)).toNatClampNeg)), (f_X3_lists mz_a 3 (-1) (nI ia)))) else (if (f_X3_naming (upd mc_a (3 : Int32).toNatClampNeg ((mc_a (3 : Int32).toNatClampNeg) ||| (1 <<< ((nI ia) &&& 31)))) (upd mn_a (24 + (nI ia)).toNatClampNeg (mn_a (8 + (nI ia)).toNatClampNeg)) (nI ia)) = 0 then ((upd mc_a (3 : Int32).toNatClampNeg ((mc_a (3 : Int32).toNatClampNeg) ||| (1 <<< ((nI ia) &&& 31)))), (upd mn_a (24 + (nI ia)).toNatClampNeg (mn_a (8 + (nI ia)).toNatClampNeg)), (f_X3_lists mz_a 4 (-1) (nI ia))) else ((upd mc_a (3 : Int32).toNatClampNeg ((mc_a (3 : Int32).toNatClampNeg) ||| (1 <<< ((nI ia) &&& 31)))), (upd mn_a (24 + (nI ia)).toNatClampNeg (mn_a (8 + (nI ia)).toNatClampNeg)), mz_a))))
def f_X3_fills_la (mc : Nat → Int32) (mw : Nat → Int32) (mn : Nat → Int32) (me : Nat → Int32) (mz : Kr) : (Nat → Int32) × (Nat → Int32) × Kr := it (fun (i9 : Nat) (z9 : (Nat → Int32) × (Nat → Int32) × Kr) => f_X3_fills_sa mw me i9 z9.1 z9.2.1 z9.2.2) ((upd mc (3 : Int32).toNatClampNeg 0), mn, mz) 8
def f_X3_fills_sb (mc : Nat → Int32) (mw : Nat → Int32) (mn : Nat → Int32) (me : Nat → Int32) (mz : Kr) (ib : Nat) (mw_b : Nat → Int32) (mz_b : Kr) : (Nat → Int32) × Kr := if (f_X3_mergedRow (((f_X3_fills_la mc mw mn me mz)).1) mw_b me (nI ib)) ≤ 0 then (if (f_X3_mergedRow (((f_X3_fills_la mc mw mn me mz)).1) mw_b me (nI ib)) = 2 then ((upd mw_b (3 : Int32).toNatClampNeg ((mw_b (3 : Int32).toNatClampNeg) ||| 0)), (f_X3_lists mz_b 2 (nI ib) (-1))) else ((upd mw_b (3 : Int32).toNatClampNeg ((mw_b (3 : Int32).toNatClampNeg) ||| 0)), mz_b)) else (if (f_X3_mergedRow (((f_X3_fills_la mc mw mn me mz)).1) mw_b me (nI ib)) = 2 then ((upd mw_b (3 : Int32).toNatClampNeg ((mw_b (3 : Int32).toNatClampNeg) ||| (1 <<< ((nI ib) &&& 31)))), (f_X3_lists mz_b 2 (nI ib) (-1))) else ((upd mw_b (3 : Int32).toNatClampNeg ((mw_b (3 : Int32).toNatClampNeg) ||| (1 <<< ((nI ib) &&& 31)))), mz_b))
def f_X3_fills_lb (mc : Nat → Int32) (mw : Nat → Int32) (mn : Nat → Int32) (me : Nat → Int32) (mz : Kr) : (Nat → Int32) × Kr := it (fun (i9 : Nat) (z9 : (Nat → Int32) × Kr) => f_X3_fills_sb mc mw mn me mz i9 z9.1 z9.2) ((upd mw (3 : Int32).toNatClampNeg 0), (((f_X3_fills_la mc mw mn me mz)).2.2)) 24
def f_X3_fills (mc : Nat → Int32) (mw : Nat → Int32) (mn : Nat → Int32) (me : Nat → Int32) (mz : Kr) : (Nat → Int32) × (Nat → Int32) × (Nat → Int32) × Kr := ((((f_X3_fills_la mc mw mn me mz)).1), (((f_X3_fills_lb mc mw mn me mz)).1), (((f_X3_fills_la mc mw mn me mz)).2.1), (((f_X3_fills_lb mc mw mn me mz)).2))
theorem uin_X3_fills_X3 : ∀ w ∈ wsX30, w ∈ wsX3_fills := fun _ h => List.mem_cons_of_mem _ (List.mem_append_right _ h)
set_option maxHeartbeats 4000000 in
set_option maxRecDepth 100000 in
theorem k_X3_fills (l : Launch) (D : va_G) (cyI cyZ : ClassId) (ad : Nat → Nat) (mc : Nat → Int32) (mw : Nat → Int32) (mn : Nat → Int32) (me : Nat → Int32) (mu : Nat → Int32) (mr : Nat → Int32) (mz : Kr) (mf : Int32) (mt : Int32) (A : Nat → Prop) (sz : Nat) (hAe : A = va_A (wN cyI cyZ ad mc mw mn me mu mr mz mf mt) sz) (h0 : mz.1 = 0) : Met l yX3_fills wsX3_fills ({ frames := 5, cells := 0, slots := 0, locals := 114 } : Room) (pcM D cyI cyZ sz [.ref (ad 0)] (wN cyI cyZ ad mc mw mn me mu mr mz mf mt)) (mV D A (wN cyI cyZ ad (f_X3_fills mc mw mn me mz).1 (f_X3_fills mc mw mn me mz).2.1 (f_X3_fills mc mw mn me mz).2.2.1 me mu mr (f_X3_fills mc mw mn me mz).2.2.2 mf mt)) 0 0 A := by
  refine Met.ofW (cc := cX3_fills) (maxL := 3) (ret := none) (by decide) rfl ?_
  intro p e s m args below meth c s₁ B hml hv
  obtain ⟨rfl, hsz, hP, hG, hD0⟩ := hv
  have hx := B.exec
  have hb := B.bytes
  have hr := B.returns
  have hts := atoms_spec (ws := wsX3_fills) B.pre
  have hown : s.vm.findClass RX3 = some m.cls := findClass_of_methodNamed B.named
  have hlocks := B.notSynchronized
  subst hsz
  have hD : va_D A (wN cyI cyZ ad mc mw mn me mu mr mz mf mt) := by rw [hAe]; exact hD0.self
  have hA : ∀ q : Nat, s.heap.size ≤ q → A q := fun q h => by rw [hAe]; exact Or.inr h
  clear hAe hD0
  have hS : va_S nA s.heap s.heap [] := va_S.rf
  have hl := lv_entry ([.ref (ad 0)]) (n := 3) (Nat.le_of_ble_eq_true rfl)
  rw [lg_entry_eq]
  generalize (lg_sl ([.ref (ad 0)]) ++ List.replicate (3 - (lg_sl ([.ref (ad 0)])).length) Slot.unset).toArray = ls at hl ⊢
  have hl : lv_has ls 3 [(0, .ref (ad 0))] := hl
  have hP : va_P D vwCl (wN cyI cyZ ad mc mw mn me mu mr mz mf mt) s.heap := hP
  refine lv_aload_n hx hb dX3_fills_0 rfl (lv_at hl 0 rfl) ?_
  refine va_get (D := D) (ci := 3) (v := .ref (ad 1)) (C := RX3) (T := TX3) (N := 13) hx hb hts uin_X3_fills_X3 hown hG.1 hP 0 rfl rfl 0 (by decide) (hts (.fieldLink RX3 7 "TableSpliceModel" "columns" "[I") (List.mem_of_getElem? (i := 1) rfl)) (fun _ h9 => h9) rfl dX3_fills_1 ?_
  refine lv_iconst (v := 3) hx hb dX3_fills_4 (by decide) ?_
  refine lv_iconst (v := 0) hx hb dX3_fills_5 (by decide) ?_
  have hS := sw_n (B := A) hS
  refine va_iast hx hb hG.1 hP hD hS 1 0 rfl rfl (vp_in_nI (n := 3) (N := 4) (by decide) (by decide)) dX3_fills_6 (fun H locs hP hD hS => ?_)
  have hP : va_P D vwCl (wN cyI cyZ ad (upd mc (3 : Int32).toNatClampNeg 0) mw mn me mu mr mz mf mt) H := hP
  have hD : va_D A (wN cyI cyZ ad (upd mc (3 : Int32).toNatClampNeg 0) mw mn me mu mr mz mf mt) := hD
  refine lv_aload_n hx hb dX3_fills_7 rfl (lv_at hl 0 rfl) ?_
  refine va_get (D := D) (ci := 3) (v := .ref (ad 2)) (C := RX3) (T := TX3) (N := 13) hx hb hts uin_X3_fills_X3 hown hG.1 hP 0 rfl rfl 1 (by decide) (hts (.fieldLink RX3 13 "TableSpliceModel" "rows" "[I") (List.mem_of_getElem? (i := 2) rfl)) (fun _ h9 => h9) rfl dX3_fills_8 ?_
  refine lv_iconst (v := 3) hx hb dX3_fills_11 (by decide) ?_
  refine lv_iconst (v := 0) hx hb dX3_fills_12 (by decide) ?_
  refine va_iast hx hb hG.1 hP hD hS 2 0 rfl rfl (vp_in_nI (n := 3) (N := 4) (by decide) (by decide)) dX3_fills_13 (fun H locs hP hD hS => ?_)
  have hP : va_P D vwCl (wN cyI cyZ ad (upd mc (3 : Int32).toNatClampNeg 0) (upd mw (3 : Int32).toNatClampNeg 0) mn me mu mr mz mf mt) H := hP
  have hD : va_D A (wN cyI cyZ ad (upd mc (3 : Int32).toNatClampNeg 0) (upd mw (3 : Int32).toNatClampNeg 0) mn me mu mr mz mf mt) := hD
  refine lv_iconst (v := 0) hx hb dX3_fills_14 (by decide) ?_
  refine lv_istore_n (lv' := [(1, .int 0), (0, .ref (ad 0))]) hx hb dX3_fills_15 rfl hl (by decide) rfl (fun ls hl => ?_)
  have lp_a : ∀ (n ia : Nat), ia + n = 8 → ∀ (mc_a : Nat → Int32) (mn_a : Nat → Int32) (mz_a : Kr), (mc_a, mn_a, mz_a) = it (fun (i9 : Nat) (z9 : (Nat → Int32) × (Nat → Int32) × Kr) => f_X3_fills_sa mw me i9 z9.1 z9.2.1 z9.2.2) ((upd mc (3 : Int32).toNatClampNeg 0), mn, mz) ia → (mz_a.1 ≤ 2 * ia) → ∀ (H : Heap) (locs : List Loc), va_P D vwCl (wN cyI cyZ ad mc_a (upd mw (3 : Int32).toNatClampNeg 0) mn_a me mu mr mz_a mf mt) H → va_D A (wN cyI cyZ ad mc_a (upd mw (3 : Int32).toNatClampNeg 0) mn_a me mu mr mz_a mf mt) → va_S A s.heap H locs → ∀ (ls : Array Slot), lv_has ls 3 [(1, .int (nI ia)), (0, .ref (ad 0))] → W p l e (headSpec wsX3_fills ({ frames := 5, cells := 0, slots := 0, locals := 114 } : Room)).room s m ([.ref (ad 0)] : List Value).toArray below meth c H locs 0 0 (MQ below (mV D A (wN cyI cyZ ad (f_X3_fills mc mw mn me mz).1 (f_X3_fills mc mw mn me mz).2.1 (f_X3_fills mc mw mn me mz).2.2.1 me mu mr (f_X3_fills mc mw mn me mz).2.2.2 mf mt)) ([.ref (ad 0)] : List Value).toArray s 0 0 A) (F0 m 16 ls []) := by
    intro n
    induction n with
    | zero =>
      intro ia hi_a mc_a mn_a mz_a hs_a hn_a H locs hP hD hS ls hl
      obtain rfl : 8 = ia := by omega
      obtain rfl : mc_a = ((f_X3_fills_la mc mw mn me mz)).1 := congrArg (fun z => z.1) hs_a
      obtain rfl : mn_a = ((f_X3_fills_la mc mw mn me mz)).2.1 := congrArg (fun z => z.2.1) hs_a
      obtain rfl : mz_a = ((f_X3_fills_la mc mw mn me mz)).2.2 := congrArg (fun z => z.2.2) hs_a
      refine lv_iload_n hx hb dX3_fills_16 rfl (lv_at hl 0 rfl) ?_
      refine lv_bipush (v := 8) hx hb dX3_fills_17 (by decide) ?_
      refine lv_icmp_ge (tgt := 115) hx hb dX3_fills_19 (by decide) (fun c_19 => ?_) (fun c_19 => ?_)
      · refine lv_iconst (v := 0) hx hb dX3_fills_115 (by decide) ?_
        refine lv_istore_n (lv' := [(1, .int 0), (0, .ref (ad 0))]) hx hb dX3_fills_116 rfl hl (by decide) rfl (fun ls hl => ?_)
        have lp_b : ∀ (n ib : Nat), ib + n = 24 → ∀ (mw_b : Nat → Int32) (mz_b : Kr), (mw_b, mz_b) = it (fun (i9 : Nat) (z9 : (Nat → Int32) × Kr) => f_X3_fills_sb mc mw mn me mz i9 z9.1 z9.2) ((upd mw (3 : Int32).toNatClampNeg 0), (((f_X3_fills_la mc mw mn me mz)).2.2)) ib → (mz_b.1 ≤ 16 + ib) → ∀ (H : Heap) (locs : List Loc), va_P D vwCl (wN cyI cyZ ad (((f_X3_fills_la mc mw mn me mz)).1) mw_b (((f_X3_fills_la mc mw mn me mz)).2.1) me mu mr mz_b mf mt) H → va_D A (wN cyI cyZ ad (((f_X3_fills_la mc mw mn me mz)).1) mw_b (((f_X3_fills_la mc mw mn me mz)).2.1) me mu mr mz_b mf mt) → va_S A s.heap H locs → ∀ (ls : Array Slot), lv_has ls 3 [(1, .int (nI ib)), (0, .ref (ad 0))] → W p l e (headSpec wsX3_fills ({ frames := 5, cells := 0, slots := 0, locals := 114 } : Room)).room s m ([.ref (ad 0)] : List Value).toArray below meth c H locs 0 0 (MQ below (mV D A (wN cyI cyZ ad (f_X3_fills mc mw mn me mz).1 (f_X3_fills mc mw mn me mz).2.1 (f_X3_fills mc mw mn me mz).2.2.1 me mu mr (f_X3_fills mc mw mn me mz).2.2.2 mf mt)) ([.ref (ad 0)] : List Value).toArray s 0 0 A) (F0 m 117 ls []) := by
          intro n
          induction n with
          | zero =>
            intro ib hi_b mw_b mz_b hs_b hn_b H locs hP hD hS ls hl
            obtain rfl : 24 = ib := by omega
            obtain rfl : mw_b = ((f_X3_fills_lb mc mw mn me mz)).1 := congrArg (fun z => z.1) hs_b
            obtain rfl : mz_b = ((f_X3_fills_lb mc mw mn me mz)).2 := congrArg (fun z => z.2) hs_b
            refine lv_iload_n hx hb dX3_fills_117 rfl (lv_at hl 0 rfl) ?_
            refine lv_bipush (v := 24) hx hb dX3_fills_118 (by decide) ?_
            refine lv_icmp_ge (tgt := 167) hx hb dX3_fills_120 (by decide) (fun c_120 => ?_) (fun c_120 => ?_)
            · have ef : f_X3_fills mc mw mn me mz = ((((f_X3_fills_la mc mw mn me mz)).1), (((f_X3_fills_lb mc mw mn me mz)).1), (((f_X3_fills_la mc mw mn me mz)).2.1), (((f_X3_fills_lb mc mw mn me mz)).2)) := by rw [f_X3_fills]
              exact W.vret hx hb hr (fun t ht hW => ⟨⟨(), rfl, trivial, by rw [ht, ef]; exact hP, by rw [ef]; exact hD⟩, hS.F ht⟩) hS.2.2 dX3_fills_167
            · exact absurd (by decide) c_120
          | succ n ih_b =>
            intro ib hi_b mw_b mz_b hs_b hn_b H locs hP hD hS ls hl
            have hj_b : ib < 24 := by omega
            refine lv_iload_n hx hb dX3_fills_117 rfl (lv_at hl 0 rfl) ?_
            refine lv_bipush (v := 24) hx hb dX3_fills_118 (by decide) ?_
            refine lv_icmp_ge (tgt := 167) hx hb dX3_fills_120 (by decide) (fun c_120 => ?_) (fun c_120 => ?_)
            · exact absurd c_120 (nI_ge hj_b (by decide))
            · refine lv_aload_n hx hb dX3_fills_123 rfl (lv_at hl 1 rfl) ?_
              refine lv_iload_n hx hb dX3_fills_124 rfl (lv_at hl 0 rfl) ?_
              refine pr_i (va_runV (As := [.int (nI ib)]) (rest := []) ⟨hx, hb, hml, hown, hts⟩ (k_X3_mergedRow l D cyI cyZ ad (((f_X3_fills_la mc mw mn me mz)).1) mw_b (((f_X3_fills_la mc mw mn me mz)).2.1) me mu mr mz_b mf mt (nI ib) (vp_in_nI (n := ib) (N := 24) (by omega) (by omega))) (cwV 1 hts gX3_fills_X3_mergedRow rfl rfl rfl (by decide +kernel) ⟨Nat.le_of_ble_eq_true rfl, Nat.le_of_ble_eq_true rfl⟩) (prV hG hP (ci := 3) rfl rfl rfl) rfl rfl hl.1 rfl (lv_room (Nat.le_of_ble_eq_true rfl)) dX3_fills_125 ⟨Nat.zero_le _, Nat.zero_le _⟩) hS hP (fun H locs hP hS => ?_)
              refine lv_istore_n (lv' := [(2, .int (f_X3_mergedRow (((f_X3_fills_la mc mw mn me mz)).1) mw_b me (nI ib))), (1, .int (nI ib)), (0, .ref (ad 0))]) hx hb dX3_fills_128 rfl hl (by decide) rfl (fun ls hl => ?_)
              refine lv_aload_n hx hb dX3_fills_129 rfl (lv_at hl 2 rfl) ?_
              refine va_get (D := D) (ci := 3) (v := .ref (ad 2)) (C := RX3) (T := TX3) (N := 13) hx hb hts uin_X3_fills_X3 hown hG.1 hP 0 rfl rfl 1 (by decide) (hts (.fieldLink RX3 13 "TableSpliceModel" "rows" "[I") (List.mem_of_getElem? (i := 2) rfl)) (fun _ h9 => h9) rfl dX3_fills_130 ?_
              refine lv_iconst (v := 3) hx hb dX3_fills_133 (by decide) ?_
              refine lv_dup2_11 hx hb dX3_fills_134 rfl rfl ?_
              refine va_iald hx hb hG.1 hP 2 0 rfl rfl (vp_in_nI (n := 3) (N := 4) (by decide) (by decide)) dX3_fills_135 ?_
              refine lv_iload_n hx hb dX3_fills_136 rfl (lv_at hl 0 rfl) ?_
              refine lv_if_le (tgt := 146) hx hb dX3_fills_137 (by decide) (fun c_137 => ?_) (fun c_137 => ?_)
              · refine lv_iconst (v := 0) hx hb dX3_fills_146 (by decide) ?_
                refine lv_ior hx hb dX3_fills_147 ?_
                refine va_iast hx hb hG.1 hP hD hS 2 0 rfl rfl (vp_in_nI (n := 3) (N := 4) (by decide) (by decide)) dX3_fills_148 (fun H locs hP hD hS => ?_)
                have hP : va_P D vwCl (wN cyI cyZ ad (((f_X3_fills_la mc mw mn me mz)).1) (upd mw_b (3 : Int32).toNatClampNeg ((mw_b (3 : Int32).toNatClampNeg) ||| 0)) (((f_X3_fills_la mc mw mn me mz)).2.1) me mu mr mz_b mf mt) H := hP
                have hD : va_D A (wN cyI cyZ ad (((f_X3_fills_la mc mw mn me mz)).1) (upd mw_b (3 : Int32).toNatClampNeg ((mw_b (3 : Int32).toNatClampNeg) ||| 0)) (((f_X3_fills_la mc mw mn me mz)).2.1) me mu mr mz_b mf mt) := hD
                refine lv_iload_n hx hb dX3_fills_149 rfl (lv_at hl 0 rfl) ?_
                refine lv_iconst (v := 2) hx hb dX3_fills_150 (by decide) ?_
                refine lv_icmp_ne (tgt := 161) hx hb dX3_fills_151 (by decide) (fun c_151 => ?_) (fun c_151 => ?_)
                · refine lv_iinc (v := nI (ib + 1)) (lv' := [(1, .int (nI (ib + 1))), (2, .int (f_X3_mergedRow (((f_X3_fills_la mc mw mn me mz)).1) mw_b me (nI ib))), (0, .ref (ad 0))]) hx hb dX3_fills_161 hl (k := 1) rfl (nI_1 _) (by decide) rfl (fun ls hl => ?_)
                  refine lv_goto (tgt := 117) hx hb dX3_fills_164 (by decide) ?_
                  exact ih_b (ib + 1) (by omega) (upd mw_b (3 : Int32).toNatClampNeg ((mw_b (3 : Int32).toNatClampNeg) ||| 0)) mz_b (it_s hs_b (by show f_X3_fills_sb mc mw mn me mz ib mw_b mz_b = _; rw [f_X3_fills_sb, if_pos c_137, if_neg c_151])) (by first | omega | (simp only [l1_lists]; omega)) _ _ hP hD hS ls (lv_sub hl [0, 2] rfl)
                · refine lv_aload_n hx hb dX3_fills_154 rfl (lv_at hl 2 rfl) ?_
                  refine lv_iconst (v := 2) hx hb dX3_fills_155 (by decide) ?_
                  refine lv_iload_n hx hb dX3_fills_156 rfl (lv_at hl 1 rfl) ?_
                  refine lv_iconst (v := (-1)) hx hb dX3_fills_157 (by decide) ?_
                  refine mr_v0 (va_runV (As := [.int 2, .int (nI ib), .int (-1)]) (rest := []) ⟨hx, hb, hml, hown, hts⟩ (k_X3_lists l D cyI cyZ ad (((f_X3_fills_la mc mw mn me mz)).1) (upd mw_b (3 : Int32).toNatClampNeg ((mw_b (3 : Int32).toNatClampNeg) ||| 0)) (((f_X3_fills_la mc mw mn me mz)).2.1) me mu mr mz_b mf mt 2 (nI ib) (-1) _ _ rfl (by first | omega | (simp only [l1_lists]; omega))) (cwV 3 hts gX3_fills_X3_lists rfl rfl rfl (by decide +kernel) ⟨Nat.le_of_ble_eq_true rfl, Nat.le_of_ble_eq_true rfl⟩) (pmV hG hP hD (ci := 3) rfl rfl rfl) rfl rfl hl.1 rfl (lv_room (Nat.le_of_ble_eq_true rfl)) dX3_fills_158 ⟨Nat.zero_le _, Nat.zero_le _⟩) hD hS hA (fun H locs hP hD hS => ?_)
                  have hP : va_P D vwCl (wN cyI cyZ ad (((f_X3_fills_la mc mw mn me mz)).1) (upd mw_b (3 : Int32).toNatClampNeg ((mw_b (3 : Int32).toNatClampNeg) ||| 0)) (((f_X3_fills_la mc mw mn me mz)).2.1) me mu mr (f_X3_lists mz_b 2 (nI ib) (-1)) mf mt) H := hP
                  have hD : va_D A (wN cyI cyZ ad (((f_X3_fills_la mc mw mn me mz)).1) (upd mw_b (3 : Int32).toNatClampNeg ((mw_b (3 : Int32).toNatClampNeg) ||| 0)) (((f_X3_fills_la mc mw mn me mz)).2.1) me mu mr (f_X3_lists mz_b 2 (nI ib) (-1)) mf mt) := hD
                  refine lv_iinc (v := nI (ib + 1)) (lv' := [(1, .int (nI (ib + 1))), (2, .int (f_X3_mergedRow (((f_X3_fills_la mc mw mn me mz)).1) mw_b me (nI ib))), (0, .ref (ad 0))]) hx hb dX3_fills_161 hl (k := 1) rfl (nI_1 _) (by decide) rfl (fun ls hl => ?_)
                  refine lv_goto (tgt := 117) hx hb dX3_fills_164 (by decide) ?_
                  exact ih_b (ib + 1) (by omega) (upd mw_b (3 : Int32).toNatClampNeg ((mw_b (3 : Int32).toNatClampNeg) ||| 0)) (f_X3_lists mz_b 2 (nI ib) (-1)) (it_s hs_b (by show f_X3_fills_sb mc mw mn me mz ib mw_b mz_b = _; rw [f_X3_fills_sb, if_pos c_137, if_pos c_151])) (by first | omega | (simp only [l1_lists]; omega)) _ _ hP hD hS ls (lv_sub hl [0, 2] rfl)
              · refine lv_iconst (v := 1) hx hb dX3_fills_140 (by decide) ?_
                refine lv_iload_n hx hb dX3_fills_141 rfl (lv_at hl 1 rfl) ?_
                refine lv_ishl hx hb dX3_fills_142 ?_
                refine lv_goto (tgt := 147) hx hb dX3_fills_143 (by decide) ?_
                refine lv_ior hx hb dX3_fills_147 ?_
                refine va_iast hx hb hG.1 hP hD hS 2 0 rfl rfl (vp_in_nI (n := 3) (N := 4) (by decide) (by decide)) dX3_fills_148 (fun H locs hP hD hS => ?_)
                have hP : va_P D vwCl (wN cyI cyZ ad (((f_X3_fills_la mc mw mn me mz)).1) (upd mw_b (3 : Int32).toNatClampNeg ((mw_b (3 : Int32).toNatClampNeg) ||| (1 <<< ((nI ib) &&& 31)))) (((f_X3_fills_la mc mw mn me mz)).2.1) me mu mr mz_b mf mt) H := hP
                have hD : va_D A (wN cyI cyZ ad (((f_X3_fills_la mc mw mn me mz)).1) (upd mw_b (3 : Int32).toNatClampNeg ((mw_b (3 : Int32).toNatClampNeg) ||| (1 <<< ((nI ib) &&& 31)))) (((f_X3_fills_la mc mw mn me mz)).2.1) me mu mr mz_b mf mt) := hD
                refine lv_iload_n hx hb dX3_fills_149 rfl (lv_at hl 0 rfl) ?_
                refine lv_iconst (v := 2) hx hb dX3_fills_150 (by decide) ?_
                refine lv_icmp_ne (tgt := 161) hx hb dX3_fills_151 (by decide) (fun c_151 => ?_) (fun c_151 => ?_)
                · refine lv_iinc (v := nI (ib + 1)) (lv' := [(1, .int (nI (ib + 1))), (2, .int (f_X3_mergedRow (((f_X3_fills_la mc mw mn me mz)).1) mw_b me (nI ib))), (0, .ref (ad 0))]) hx hb dX3_fills_161 hl (k := 1) rfl (nI_1 _) (by decide) rfl (fun ls hl => ?_)
                  refine lv_goto (tgt := 117) hx hb dX3_fills_164 (by decide) ?_
                  exact ih_b (ib + 1) (by omega) (upd mw_b (3 : Int32).toNatClampNeg ((mw_b (3 : Int32).toNatClampNeg) ||| (1 <<< ((nI ib) &&& 31)))) mz_b (it_s hs_b (by show f_X3_fills_sb mc mw mn me mz ib mw_b mz_b = _; rw [f_X3_fills_sb, if_neg c_137, if_neg c_151])) (by first | omega | (simp only [l1_lists]; omega)) _ _ hP hD hS ls (lv_sub hl [0, 2] rfl)
                · refine lv_aload_n hx hb dX3_fills_154 rfl (lv_at hl 2 rfl) ?_
                  refine lv_iconst (v := 2) hx hb dX3_fills_155 (by decide) ?_
                  refine lv_iload_n hx hb dX3_fills_156 rfl (lv_at hl 1 rfl) ?_
                  refine lv_iconst (v := (-1)) hx hb dX3_fills_157 (by decide) ?_
                  refine mr_v0 (va_runV (As := [.int 2, .int (nI ib), .int (-1)]) (rest := []) ⟨hx, hb, hml, hown, hts⟩ (k_X3_lists l D cyI cyZ ad (((f_X3_fills_la mc mw mn me mz)).1) (upd mw_b (3 : Int32).toNatClampNeg ((mw_b (3 : Int32).toNatClampNeg) ||| (1 <<< ((nI ib) &&& 31)))) (((f_X3_fills_la mc mw mn me mz)).2.1) me mu mr mz_b mf mt 2 (nI ib) (-1) _ _ rfl (by first | omega | (simp only [l1_lists]; omega))) (cwV 3 hts gX3_fills_X3_lists rfl rfl rfl (by decide +kernel) ⟨Nat.le_of_ble_eq_true rfl, Nat.le_of_ble_eq_true rfl⟩) (pmV hG hP hD (ci := 3) rfl rfl rfl) rfl rfl hl.1 rfl (lv_room (Nat.le_of_ble_eq_true rfl)) dX3_fills_158 ⟨Nat.zero_le _, Nat.zero_le _⟩) hD hS hA (fun H locs hP hD hS => ?_)
                  have hP : va_P D vwCl (wN cyI cyZ ad (((f_X3_fills_la mc mw mn me mz)).1) (upd mw_b (3 : Int32).toNatClampNeg ((mw_b (3 : Int32).toNatClampNeg) ||| (1 <<< ((nI ib) &&& 31)))) (((f_X3_fills_la mc mw mn me mz)).2.1) me mu mr (f_X3_lists mz_b 2 (nI ib) (-1)) mf mt) H := hP
                  have hD : va_D A (wN cyI cyZ ad (((f_X3_fills_la mc mw mn me mz)).1) (upd mw_b (3 : Int32).toNatClampNeg ((mw_b (3 : Int32).toNatClampNeg) ||| (1 <<< ((nI ib) &&& 31)))) (((f_X3_fills_la mc mw mn me mz)).2.1) me mu mr (f_X3_lists mz_b 2 (nI ib) (-1)) mf mt) := hD
                  refine lv_iinc (v := nI (ib + 1)) (lv' := [(1, .int (nI (ib + 1))), (2, .int (f_X3_mergedRow (((f_X3_fills_la mc mw mn me mz)).1) mw_b me (nI ib))), (0, .ref (ad 0))]) hx hb dX3_fills_161 hl (k := 1) rfl (nI_1 _) (by decide) rfl (fun ls hl => ?_)
                  refine lv_goto (tgt := 117) hx hb dX3_fills_164 (by decide) ?_
                  exact ih_b (ib + 1) (by omega) (upd mw_b (3 : Int32).toNatClampNeg ((mw_b (3 : Int32).toNatClampNeg) ||| (1 <<< ((nI ib) &&& 31)))) (f_X3_lists mz_b 2 (nI ib) (-1)) (it_s hs_b (by show f_X3_fills_sb mc mw mn me mz ib mw_b mz_b = _; rw [f_X3_fills_sb, if_neg c_137, if_pos c_151])) (by first | omega | (simp only [l1_lists]; omega)) _ _ hP hD hS ls (lv_sub hl [0, 2] rfl)
        exact lp_b 24 0 (by omega) (upd mw (3 : Int32).toNatClampNeg 0) (((f_X3_fills_la mc mw mn me mz)).2.2) rfl (by omega) _ _ hP hD hS ls (lv_sub hl [0, 1] rfl)
      · exact absurd (by decide) c_19
    | succ n ih_a =>
      intro ia hi_a mc_a mn_a mz_a hs_a hn_a H locs hP hD hS ls hl
      have hj_a : ia < 8 := by omega
      refine lv_iload_n hx hb dX3_fills_16 rfl (lv_at hl 0 rfl) ?_
      refine lv_bipush (v := 8) hx hb dX3_fills_17 (by decide) ?_
      refine lv_icmp_ge (tgt := 115) hx hb dX3_fills_19 (by decide) (fun c_19 => ?_) (fun c_19 => ?_)
      · exact absurd c_19 (nI_ge hj_a (by decide))
      · refine lv_aload_n hx hb dX3_fills_22 rfl (lv_at hl 1 rfl) ?_
        refine lv_iload_n hx hb dX3_fills_23 rfl (lv_at hl 0 rfl) ?_
        refine pr_i (va_runV (As := [.int (nI ia)]) (rest := []) ⟨hx, hb, hml, hown, hts⟩ (k_X3_mergedColumn l D cyI cyZ ad mc_a (upd mw (3 : Int32).toNatClampNeg 0) mn_a me mu mr mz_a mf mt (nI ia) (vp_in_nI (n := ia) (N := 8) (by omega) (by omega))) (cwV 1 hts gX3_fills_X3_mergedColumn rfl rfl rfl (by decide +kernel) ⟨Nat.le_of_ble_eq_true rfl, Nat.le_of_ble_eq_true rfl⟩) (prV hG hP (ci := 3) rfl rfl rfl) rfl rfl hl.1 rfl (lv_room (Nat.le_of_ble_eq_true rfl)) dX3_fills_24 ⟨Nat.zero_le _, Nat.zero_le _⟩) hS hP (fun H locs hP hS => ?_)
        refine lv_istore_n (lv' := [(2, .int (f_X3_mergedColumn mc_a (upd mw (3 : Int32).toNatClampNeg 0) mn_a me (nI ia))), (1, .int (nI ia)), (0, .ref (ad 0))]) hx hb dX3_fills_27 rfl hl (by decide) rfl (fun ls hl => ?_)
        refine lv_iload_n hx hb dX3_fills_28 rfl (lv_at hl 0 rfl) ?_
        refine lv_if_le (tgt := 78) hx hb dX3_fills_29 (by decide) (fun c_29 => ?_) (fun c_29 => ?_)
        · refine lv_iload_n hx hb dX3_fills_78 rfl (lv_at hl 0 rfl) ?_
          refine lv_iconst (v := 2) hx hb dX3_fills_79 (by decide) ?_
          refine lv_icmp_ne (tgt := 90) hx hb dX3_fills_80 (by decide) (fun c_80 => ?_) (fun c_80 => ?_)
          · refine lv_iload_n hx hb dX3_fills_90 rfl (lv_at hl 0 rfl) ?_
            refine lv_if_le (tgt := 109) hx hb dX3_fills_91 (by decide) (fun c_91 => ?_) (fun c_91 => ?_)
            · refine lv_iinc (v := nI (ia + 1)) (lv' := [(1, .int (nI (ia + 1))), (2, .int (f_X3_mergedColumn mc_a (upd mw (3 : Int32).toNatClampNeg 0) mn_a me (nI ia))), (0, .ref (ad 0))]) hx hb dX3_fills_109 hl (k := 1) rfl (nI_1 _) (by decide) rfl (fun ls hl => ?_)
              refine lv_goto (tgt := 16) hx hb dX3_fills_112 (by decide) ?_
              exact ih_a (ia + 1) (by omega) mc_a mn_a mz_a (it_s hs_a (by show f_X3_fills_sa mw me ia mc_a mn_a mz_a = _; rw [f_X3_fills_sa, if_pos c_29, if_neg c_80])) (by first | omega | (simp only [l1_lists]; omega)) _ _ hP hD hS ls (lv_sub hl [0, 2] rfl)
            · exact absurd c_29 c_91
          · refine lv_aload_n hx hb dX3_fills_83 rfl (lv_at hl 2 rfl) ?_
            refine lv_iconst (v := 3) hx hb dX3_fills_84 (by decide) ?_
            refine lv_iconst (v := (-1)) hx hb dX3_fills_85 (by decide) ?_
            refine lv_iload_n hx hb dX3_fills_86 rfl (lv_at hl 1 rfl) ?_
            refine mr_v0 (va_runV (As := [.int 3, .int (-1), .int (nI ia)]) (rest := []) ⟨hx, hb, hml, hown, hts⟩ (k_X3_lists l D cyI cyZ ad mc_a (upd mw (3 : Int32).toNatClampNeg 0) mn_a me mu mr mz_a mf mt 3 (-1) (nI ia) _ _ rfl (by first | omega | (simp only [l1_lists]; omega))) (cwV 3 hts gX3_fills_X3_lists rfl rfl rfl (by decide +kernel) ⟨Nat.le_of_ble_eq_true rfl, Nat.le_of_ble_eq_true rfl⟩) (pmV hG hP hD (ci := 3) rfl rfl rfl) rfl rfl hl.1 rfl (lv_room (Nat.le_of_ble_eq_true rfl)) dX3_fills_87 ⟨Nat.zero_le _, Nat.zero_le _⟩) hD hS hA (fun H locs hP hD hS => ?_)
            have hP : va_P D vwCl (wN cyI cyZ ad mc_a (upd mw (3 : Int32).toNatClampNeg 0) mn_a me mu mr (f_X3_lists mz_a 3 (-1) (nI ia)) mf mt) H := hP
            have hD : va_D A (wN cyI cyZ ad mc_a (upd mw (3 : Int32).toNatClampNeg 0) mn_a me mu mr (f_X3_lists mz_a 3 (-1) (nI ia)) mf mt) := hD
            refine lv_iload_n hx hb dX3_fills_90 rfl (lv_at hl 0 rfl) ?_
            refine lv_if_le (tgt := 109) hx hb dX3_fills_91 (by decide) (fun c_91 => ?_) (fun c_91 => ?_)
            · refine lv_iinc (v := nI (ia + 1)) (lv' := [(1, .int (nI (ia + 1))), (2, .int (f_X3_mergedColumn mc_a (upd mw (3 : Int32).toNatClampNeg 0) mn_a me (nI ia))), (0, .ref (ad 0))]) hx hb dX3_fills_109 hl (k := 1) rfl (nI_1 _) (by decide) rfl (fun ls hl => ?_)
              refine lv_goto (tgt := 16) hx hb dX3_fills_112 (by decide) ?_
              exact ih_a (ia + 1) (by omega) mc_a mn_a (f_X3_lists mz_a 3 (-1) (nI ia)) (it_s hs_a (by show f_X3_fills_sa mw me ia mc_a mn_a mz_a = _; rw [f_X3_fills_sa, if_pos c_29, if_pos c_80])) (by first | omega | (simp only [l1_lists]; omega)) _ _ hP hD hS ls (lv_sub hl [0, 2] rfl)
            · exact absurd c_29 c_91
        · refine lv_aload_n hx hb dX3_fills_32 rfl (lv_at hl 2 rfl) ?_
          refine va_get (D := D) (ci := 3) (v := .ref (ad 1)) (C := RX3) (T := TX3) (N := 13) hx hb hts uin_X3_fills_X3 hown hG.1 hP 0 rfl rfl 0 (by decide) (hts (.fieldLink RX3 7 "TableSpliceModel" "columns" "[I") (List.mem_of_getElem? (i := 1) rfl)) (fun _ h9 => h9) rfl dX3_fills_33 ?_
          refine lv_iconst (v := 3) hx hb dX3_fills_36 (by decide) ?_
          refine lv_dup2_11 hx hb dX3_fills_37 rfl rfl ?_
          refine va_iald hx hb hG.1 hP 1 0 rfl rfl (vp_in_nI (n := 3) (N := 4) (by decide) (by decide)) dX3_fills_38 ?_
          refine lv_iconst (v := 1) hx hb dX3_fills_39 (by decide) ?_
          refine lv_iload_n hx hb dX3_fills_40 rfl (lv_at hl 1 rfl) ?_
          refine lv_ishl hx hb dX3_fills_41 ?_
          refine lv_ior hx hb dX3_fills_42 ?_
          refine va_iast hx hb hG.1 hP hD hS 1 0 rfl rfl (vp_in_nI (n := 3) (N := 4) (by decide) (by decide)) dX3_fills_43 (fun H locs hP hD hS => ?_)
          have hP : va_P D vwCl (wN cyI cyZ ad (upd mc_a (3 : Int32).toNatClampNeg ((mc_a (3 : Int32).toNatClampNeg) ||| (1 <<< ((nI ia) &&& 31)))) (upd mw (3 : Int32).toNatClampNeg 0) mn_a me mu mr mz_a mf mt) H := hP
          have hD : va_D A (wN cyI cyZ ad (upd mc_a (3 : Int32).toNatClampNeg ((mc_a (3 : Int32).toNatClampNeg) ||| (1 <<< ((nI ia) &&& 31)))) (upd mw (3 : Int32).toNatClampNeg 0) mn_a me mu mr mz_a mf mt) := hD
          refine lv_aload_n hx hb dX3_fills_44 rfl (lv_at hl 2 rfl) ?_
          refine va_get (D := D) (ci := 3) (v := .ref (ad 3)) (C := RX3) (T := TX3) (N := 13) hx hb hts uin_X3_fills_X3 hown hG.1 hP 0 rfl rfl 2 (by decide) (hts (.fieldLink RX3 16 "TableSpliceModel" "name" "[I") (List.mem_of_getElem? (i := 3) rfl)) (fun _ h9 => h9) rfl dX3_fills_45 ?_
          refine lv_bipush (v := 24) hx hb dX3_fills_48 (by decide) ?_
          refine lv_iload_n hx hb dX3_fills_50 rfl (lv_at hl 1 rfl) ?_
          refine lv_iadd hx hb dX3_fills_51 ?_
          refine lv_aload_n hx hb dX3_fills_52 rfl (lv_at hl 2 rfl) ?_
          refine va_get (D := D) (ci := 3) (v := .ref (ad 3)) (C := RX3) (T := TX3) (N := 13) hx hb hts uin_X3_fills_X3 hown hG.1 hP 0 rfl rfl 2 (by decide) (hts (.fieldLink RX3 16 "TableSpliceModel" "name" "[I") (List.mem_of_getElem? (i := 3) rfl)) (fun _ h9 => h9) rfl dX3_fills_53 ?_
          refine lv_aload_n hx hb dX3_fills_56 rfl (lv_at hl 2 rfl) ?_
          refine lv_iload_n hx hb dX3_fills_57 rfl (lv_at hl 1 rfl) ?_
          refine pr_i (va_runV (As := [.int (nI ia)]) (rest := [.ref (ad 3), .int (24 + (nI ia)), .ref (ad 3)]) ⟨hx, hb, hml, hown, hts⟩ (k_X3_naming l D cyI cyZ ad (upd mc_a (3 : Int32).toNatClampNeg ((mc_a (3 : Int32).toNatClampNeg) ||| (1 <<< ((nI ia) &&& 31)))) (upd mw (3 : Int32).toNatClampNeg 0) mn_a me mu mr mz_a mf mt (nI ia) (vp_in_nI (n := ia) (N := 8) (by omega) (by omega))) (cwV 1 hts gX3_fills_X3_naming rfl rfl rfl (by decide +kernel) ⟨Nat.le_of_ble_eq_true rfl, Nat.le_of_ble_eq_true rfl⟩) (prV hG hP (ci := 3) rfl rfl rfl) rfl rfl hl.1 rfl (lv_room (Nat.le_of_ble_eq_true rfl)) dX3_fills_58 ⟨Nat.zero_le _, Nat.zero_le _⟩) hS hP (fun H locs hP hS => ?_)
          refine lv_iconst (v := 2) hx hb dX3_fills_61 (by decide) ?_
          refine lv_icmp_ne (tgt := 72) hx hb dX3_fills_62 (by decide) (fun c_62 => ?_) (fun c_62 => ?_)
          · refine lv_bipush (v := 8) hx hb dX3_fills_72 (by decide) ?_
            refine lv_iload_n hx hb dX3_fills_74 rfl (lv_at hl 1 rfl) ?_
            refine lv_iadd hx hb dX3_fills_75 ?_
            refine va_iald hx hb hG.1 hP 3 0 rfl rfl (vi_mono (vi_add (k := 16) (vp_in_nI (n := 8) (N := 9) (by decide) (by decide)) (vp_in_nI (n := ia) (N := 8) (by omega) (by omega)) (by decide) (by decide)) (by decide)) dX3_fills_76 ?_
            refine va_iast hx hb hG.1 hP hD hS 3 0 rfl rfl (vi_add (k := 32) (vp_in_nI (n := 24) (N := 25) (by decide) (by decide)) (vp_in_nI (n := ia) (N := 8) (by omega) (by omega)) (by decide) (by decide)) dX3_fills_77 (fun H locs hP hD hS => ?_)
            have hP : va_P D vwCl (wN cyI cyZ ad (upd mc_a (3 : Int32).toNatClampNeg ((mc_a (3 : Int32).toNatClampNeg) ||| (1 <<< ((nI ia) &&& 31)))) (upd mw (3 : Int32).toNatClampNeg 0) (upd mn_a (24 + (nI ia)).toNatClampNeg (mn_a (8 + (nI ia)).toNatClampNeg)) me mu mr mz_a mf mt) H := hP
            have hD : va_D A (wN cyI cyZ ad (upd mc_a (3 : Int32).toNatClampNeg ((mc_a (3 : Int32).toNatClampNeg) ||| (1 <<< ((nI ia) &&& 31)))) (upd mw (3 : Int32).toNatClampNeg 0) (upd mn_a (24 + (nI ia)).toNatClampNeg (mn_a (8 + (nI ia)).toNatClampNeg)) me mu mr mz_a mf mt) := hD
            refine lv_iload_n hx hb dX3_fills_78 rfl (lv_at hl 0 rfl) ?_
            refine lv_iconst (v := 2) hx hb dX3_fills_79 (by decide) ?_
            refine lv_icmp_ne (tgt := 90) hx hb dX3_fills_80 (by decide) (fun c_80 => ?_) (fun c_80 => ?_)
            · refine lv_iload_n hx hb dX3_fills_90 rfl (lv_at hl 0 rfl) ?_
              refine lv_if_le (tgt := 109) hx hb dX3_fills_91 (by decide) (fun c_91 => ?_) (fun c_91 => ?_)
              · exact absurd c_91 c_29
              · refine lv_aload_n hx hb dX3_fills_94 rfl (lv_at hl 2 rfl) ?_
                refine lv_iload_n hx hb dX3_fills_95 rfl (lv_at hl 1 rfl) ?_
                refine pr_i (va_runV (As := [.int (nI ia)]) (rest := []) ⟨hx, hb, hml, hown, hts⟩ (k_X3_naming l D cyI cyZ ad (upd mc_a (3 : Int32).toNatClampNeg ((mc_a (3 : Int32).toNatClampNeg) ||| (1 <<< ((nI ia) &&& 31)))) (upd mw (3 : Int32).toNatClampNeg 0) (upd mn_a (24 + (nI ia)).toNatClampNeg (mn_a (8 + (nI ia)).toNatClampNeg)) me mu mr mz_a mf mt (nI ia) (vp_in_nI (n := ia) (N := 8) (by omega) (by omega))) (cwV 1 hts gX3_fills_X3_naming rfl rfl rfl (by decide +kernel) ⟨Nat.le_of_ble_eq_true rfl, Nat.le_of_ble_eq_true rfl⟩) (prV hG hP (ci := 3) rfl rfl rfl) rfl rfl hl.1 rfl (lv_room (Nat.le_of_ble_eq_true rfl)) dX3_fills_96 ⟨Nat.zero_le _, Nat.zero_le _⟩) hS hP (fun H locs hP hS => ?_)
                refine lv_if_ne (tgt := 109) hx hb dX3_fills_99 (by decide) (fun c_99 => ?_) (fun c_99 => ?_)
                · refine lv_iinc (v := nI (ia + 1)) (lv' := [(1, .int (nI (ia + 1))), (2, .int (f_X3_mergedColumn mc_a (upd mw (3 : Int32).toNatClampNeg 0) mn_a me (nI ia))), (0, .ref (ad 0))]) hx hb dX3_fills_109 hl (k := 1) rfl (nI_1 _) (by decide) rfl (fun ls hl => ?_)
                  refine lv_goto (tgt := 16) hx hb dX3_fills_112 (by decide) ?_
                  exact ih_a (ia + 1) (by omega) (upd mc_a (3 : Int32).toNatClampNeg ((mc_a (3 : Int32).toNatClampNeg) ||| (1 <<< ((nI ia) &&& 31)))) (upd mn_a (24 + (nI ia)).toNatClampNeg (mn_a (8 + (nI ia)).toNatClampNeg)) mz_a (it_s hs_a (by show f_X3_fills_sa mw me ia mc_a mn_a mz_a = _; rw [f_X3_fills_sa, if_neg c_29, if_neg c_62, if_neg c_80, if_neg c_99])) (by first | omega | (simp only [l1_lists]; omega)) _ _ hP hD hS ls (lv_sub hl [0, 2] rfl)
                · refine lv_aload_n hx hb dX3_fills_102 rfl (lv_at hl 2 rfl) ?_
                  refine lv_iconst (v := 4) hx hb dX3_fills_103 (by decide) ?_
                  refine lv_iconst (v := (-1)) hx hb dX3_fills_104 (by decide) ?_
                  refine lv_iload_n hx hb dX3_fills_105 rfl (lv_at hl 1 rfl) ?_
                  refine mr_v0 (va_runV (As := [.int 4, .int (-1), .int (nI ia)]) (rest := []) ⟨hx, hb, hml, hown, hts⟩ (k_X3_lists l D cyI cyZ ad (upd mc_a (3 : Int32).toNatClampNeg ((mc_a (3 : Int32).toNatClampNeg) ||| (1 <<< ((nI ia) &&& 31)))) (upd mw (3 : Int32).toNatClampNeg 0) (upd mn_a (24 + (nI ia)).toNatClampNeg (mn_a (8 + (nI ia)).toNatClampNeg)) me mu mr mz_a mf mt 4 (-1) (nI ia) _ _ rfl (by first | omega | (simp only [l1_lists]; omega))) (cwV 3 hts gX3_fills_X3_lists rfl rfl rfl (by decide +kernel) ⟨Nat.le_of_ble_eq_true rfl, Nat.le_of_ble_eq_true rfl⟩) (pmV hG hP hD (ci := 3) rfl rfl rfl) rfl rfl hl.1 rfl (lv_room (Nat.le_of_ble_eq_true rfl)) dX3_fills_106 ⟨Nat.zero_le _, Nat.zero_le _⟩) hD hS hA (fun H locs hP hD hS => ?_)
                  have hP : va_P D vwCl (wN cyI cyZ ad (upd mc_a (3 : Int32).toNatClampNeg ((mc_a (3 : Int32).toNatClampNeg) ||| (1 <<< ((nI ia) &&& 31)))) (upd mw (3 : Int32).toNatClampNeg 0) (upd mn_a (24 + (nI ia)).toNatClampNeg (mn_a (8 + (nI ia)).toNatClampNeg)) me mu mr (f_X3_lists mz_a 4 (-1) (nI ia)) mf mt) H := hP
                  have hD : va_D A (wN cyI cyZ ad (upd mc_a (3 : Int32).toNatClampNeg ((mc_a (3 : Int32).toNatClampNeg) ||| (1 <<< ((nI ia) &&& 31)))) (upd mw (3 : Int32).toNatClampNeg 0) (upd mn_a (24 + (nI ia)).toNatClampNeg (mn_a (8 + (nI ia)).toNatClampNeg)) me mu mr (f_X3_lists mz_a 4 (-1) (nI ia)) mf mt) := hD
                  refine lv_iinc (v := nI (ia + 1)) (lv' := [(1, .int (nI (ia + 1))), (2, .int (f_X3_mergedColumn mc_a (upd mw (3 : Int32).toNatClampNeg 0) mn_a me (nI ia))), (0, .ref (ad 0))]) hx hb dX3_fills_109 hl (k := 1) rfl (nI_1 _) (by decide) rfl (fun ls hl => ?_)
                  refine lv_goto (tgt := 16) hx hb dX3_fills_112 (by decide) ?_
                  exact ih_a (ia + 1) (by omega) (upd mc_a (3 : Int32).toNatClampNeg ((mc_a (3 : Int32).toNatClampNeg) ||| (1 <<< ((nI ia) &&& 31)))) (upd mn_a (24 + (nI ia)).toNatClampNeg (mn_a (8 + (nI ia)).toNatClampNeg)) (f_X3_lists mz_a 4 (-1) (nI ia)) (it_s hs_a (by show f_X3_fills_sa mw me ia mc_a mn_a mz_a = _; rw [f_X3_fills_sa, if_neg c_29, if_neg c_62, if_neg c_80, if_pos c_99])) (by first | omega | (simp only [l1_lists]; omega)) _ _ hP hD hS ls (lv_sub hl [0, 2] rfl)
            · refine lv_aload_n hx hb dX3_fills_83 rfl (lv_at hl 2 rfl) ?_
              refine lv_iconst (v := 3) hx hb dX3_fills_84 (by decide) ?_
              refine lv_iconst (v := (-1)) hx hb dX3_fills_85 (by decide) ?_
              refine lv_iload_n hx hb dX3_fills_86 rfl (lv_at hl 1 rfl) ?_
              refine mr_v0 (va_runV (As := [.int 3, .int (-1), .int (nI ia)]) (rest := []) ⟨hx, hb, hml, hown, hts⟩ (k_X3_lists l D cyI cyZ ad (upd mc_a (3 : Int32).toNatClampNeg ((mc_a (3 : Int32).toNatClampNeg) ||| (1 <<< ((nI ia) &&& 31)))) (upd mw (3 : Int32).toNatClampNeg 0) (upd mn_a (24 + (nI ia)).toNatClampNeg (mn_a (8 + (nI ia)).toNatClampNeg)) me mu mr mz_a mf mt 3 (-1) (nI ia) _ _ rfl (by first | omega | (simp only [l1_lists]; omega))) (cwV 3 hts gX3_fills_X3_lists rfl rfl rfl (by decide +kernel) ⟨Nat.le_of_ble_eq_true rfl, Nat.le_of_ble_eq_true rfl⟩) (pmV hG hP hD (ci := 3) rfl rfl rfl) rfl rfl hl.1 rfl (lv_room (Nat.le_of_ble_eq_true rfl)) dX3_fills_87 ⟨Nat.zero_le _, Nat.zero_le _⟩) hD hS hA (fun H locs hP hD hS => ?_)
              have hP : va_P D vwCl (wN cyI cyZ ad (upd mc_a (3 : Int32).toNatClampNeg ((mc_a (3 : Int32).toNatClampNeg) ||| (1 <<< ((nI ia) &&& 31)))) (upd mw (3 : Int32).toNatClampNeg 0) (upd mn_a (24 + (nI ia)).toNatClampNeg (mn_a (8 + (nI ia)).toNatClampNeg)) me mu mr (f_X3_lists mz_a 3 (-1) (nI ia)) mf mt) H := hP
              have hD : va_D A (wN cyI cyZ ad (upd mc_a (3 : Int32).toNatClampNeg ((mc_a (3 : Int32).toNatClampNeg) ||| (1 <<< ((nI ia) &&& 31)))) (upd mw (3 : Int32).toNatClampNeg 0) (upd mn_a (24 + (nI ia)).toNatClampNeg (mn_a (8 + (nI ia)).toNatClampNeg)) me mu mr (f_X3_lists mz_a 3 (-1) (nI ia)) mf mt) := hD
              refine lv_iload_n hx hb dX3_fills_90 rfl (lv_at hl 0 rfl) ?_
              refine lv_if_le (tgt := 109) hx hb dX3_fills_91 (by decide) (fun c_91 => ?_) (fun c_91 => ?_)
              · exact absurd c_91 c_29
              · refine lv_aload_n hx hb dX3_fills_94 rfl (lv_at hl 2 rfl) ?_
                refine lv_iload_n hx hb dX3_fills_95 rfl (lv_at hl 1 rfl) ?_
                refine pr_i (va_runV (As := [.int (nI ia)]) (rest := []) ⟨hx, hb, hml, hown, hts⟩ (k_X3_naming l D cyI cyZ ad (upd mc_a (3 : Int32).toNatClampNeg ((mc_a (3 : Int32).toNatClampNeg) ||| (1 <<< ((nI ia) &&& 31)))) (upd mw (3 : Int32).toNatClampNeg 0) (upd mn_a (24 + (nI ia)).toNatClampNeg (mn_a (8 + (nI ia)).toNatClampNeg)) me mu mr (f_X3_lists mz_a 3 (-1) (nI ia)) mf mt (nI ia) (vp_in_nI (n := ia) (N := 8) (by omega) (by omega))) (cwV 1 hts gX3_fills_X3_naming rfl rfl rfl (by decide +kernel) ⟨Nat.le_of_ble_eq_true rfl, Nat.le_of_ble_eq_true rfl⟩) (prV hG hP (ci := 3) rfl rfl rfl) rfl rfl hl.1 rfl (lv_room (Nat.le_of_ble_eq_true rfl)) dX3_fills_96 ⟨Nat.zero_le _, Nat.zero_le _⟩) hS hP (fun H locs hP hS => ?_)
                refine lv_if_ne (tgt := 109) hx hb dX3_fills_99 (by decide) (fun c_99 => ?_) (fun c_99 => ?_)
                · refine lv_iinc (v := nI (ia + 1)) (lv' := [(1, .int (nI (ia + 1))), (2, .int (f_X3_mergedColumn mc_a (upd mw (3 : Int32).toNatClampNeg 0) mn_a me (nI ia))), (0, .ref (ad 0))]) hx hb dX3_fills_109 hl (k := 1) rfl (nI_1 _) (by decide) rfl (fun ls hl => ?_)
                  refine lv_goto (tgt := 16) hx hb dX3_fills_112 (by decide) ?_
                  exact ih_a (ia + 1) (by omega) (upd mc_a (3 : Int32).toNatClampNeg ((mc_a (3 : Int32).toNatClampNeg) ||| (1 <<< ((nI ia) &&& 31)))) (upd mn_a (24 + (nI ia)).toNatClampNeg (mn_a (8 + (nI ia)).toNatClampNeg)) (f_X3_lists mz_a 3 (-1) (nI ia)) (it_s hs_a (by show f_X3_fills_sa mw me ia mc_a mn_a mz_a = _; rw [f_X3_fills_sa, if_neg c_29, if_neg c_62, if_pos c_80, if_neg c_99])) (by first | omega | (simp only [l1_lists]; omega)) _ _ hP hD hS ls (lv_sub hl [0, 2] rfl)
                · refine lv_aload_n hx hb dX3_fills_102 rfl (lv_at hl 2 rfl) ?_
                  refine lv_iconst (v := 4) hx hb dX3_fills_103 (by decide) ?_
                  refine lv_iconst (v := (-1)) hx hb dX3_fills_104 (by decide) ?_
                  refine lv_iload_n hx hb dX3_fills_105 rfl (lv_at hl 1 rfl) ?_
                  refine mr_v0 (va_runV (As := [.int 4, .int (-1), .int (nI ia)]) (rest := []) ⟨hx, hb, hml, hown, hts⟩ (k_X3_lists l D cyI cyZ ad (upd mc_a (3 : Int32).toNatClampNeg ((mc_a (3 : Int32).toNatClampNeg) ||| (1 <<< ((nI ia) &&& 31)))) (upd mw (3 : Int32).toNatClampNeg 0) (upd mn_a (24 + (nI ia)).toNatClampNeg (mn_a (8 + (nI ia)).toNatClampNeg)) me mu mr (f_X3_lists mz_a 3 (-1) (nI ia)) mf mt 4 (-1) (nI ia) _ _ rfl (by first | omega | (simp only [l1_lists]; omega))) (cwV 3 hts gX3_fills_X3_lists rfl rfl rfl (by decide +kernel) ⟨Nat.le_of_ble_eq_true rfl, Nat.le_of_ble_eq_true rfl⟩) (pmV hG hP hD (ci := 3) rfl rfl rfl) rfl rfl hl.1 rfl (lv_room (Nat.le_of_ble_eq_true rfl)) dX3_fills_106 ⟨Nat.zero_le _, Nat.zero_le _⟩) hD hS hA (fun H locs hP hD hS => ?_)
                  have hP : va_P D vwCl (wN cyI cyZ ad (upd mc_a (3 : Int32).toNatClampNeg ((mc_a (3 : Int32).toNatClampNeg) ||| (1 <<< ((nI ia) &&& 31)))) (upd mw (3 : Int32).toNatClampNeg 0) (upd mn_a (24 + (nI ia)).toNatClampNeg (mn_a (8 + (nI ia)).toNatClampNeg)) me mu mr (f_X3_lists (f_X3_lists mz_a 3 (-1) (nI ia)) 4 (-1) (nI ia)) mf mt) H := hP
                  have hD : va_D A (wN cyI cyZ ad (upd mc_a (3 : Int32).toNatClampNeg ((mc_a (3 : Int32).toNatClampNeg) ||| (1 <<< ((nI ia) &&& 31)))) (upd mw (3 : Int32).toNatClampNeg 0) (upd mn_a (24 + (nI ia)).toNatClampNeg (mn_a (8 + (nI ia)).toNatClampNeg)) me mu mr (f_X3_lists (f_X3_lists mz_a 3 (-1) (nI ia)) 4 (-1) (nI ia)) mf mt) := hD
                  refine lv_iinc (v := nI (ia + 1)) (lv' := [(1, .int (nI (ia + 1))), (2, .int (f_X3_mergedColumn mc_a (upd mw (3 : Int32).toNatClampNeg 0) mn_a me (nI ia))), (0, .ref (ad 0))]) hx hb dX3_fills_109 hl (k := 1) rfl (nI_1 _) (by decide) rfl (fun ls hl => ?_)
                  refine lv_goto (tgt := 16) hx hb dX3_fills_112 (by decide) ?_
                  exact ih_a (ia + 1) (by omega) (upd mc_a (3 : Int32).toNatClampNeg ((mc_a (3 : Int32).toNatClampNeg) ||| (1 <<< ((nI ia) &&& 31)))) (upd mn_a (24 + (nI ia)).toNatClampNeg (mn_a (8 + (nI ia)).toNatClampNeg)) (f_X3_lists (f_X3_lists mz_a 3 (-1) (nI ia)) 4 (-1) (nI ia)) (it_s hs_a (by show f_X3_fills_sa mw me ia mc_a mn_a mz_a = _; rw [f_X3_fills_sa, if_neg c_29, if_neg c_62, if_pos c_80, if_pos c_99])) (by first | omega | (simp only [l1_lists]; omega)) _ _ hP hD hS ls (lv_sub hl [0, 2] rfl)
          · refine lv_bipush (v := 16) hx hb dX3_fills_65 (by decide) ?_
            refine lv_iload_n hx hb dX3_fills_67 rfl (lv_at hl 1 rfl) ?_
            refine lv_iadd hx hb dX3_fills_68 ?_
            refine lv_goto (tgt := 76) hx hb dX3_fills_69 (by decide) ?_
            refine va_iald hx hb hG.1 hP 3 0 rfl rfl (vi_mono (vi_add (k := 24) (vp_in_nI (n := 16) (N := 17) (by decide) (by decide)) (vp_in_nI (n := ia) (N := 8) (by omega) (by omega)) (by decide) (by decide)) (by decide)) dX3_fills_76 ?_
            refine va_iast hx hb hG.1 hP hD hS 3 0 rfl rfl (vi_add (k := 32) (vp_in_nI (n := 24) (N := 25) (by decide) (by decide)) (vp_in_nI (n := ia) (N := 8) (by omega) (by omega)) (by decide) (by decide)) dX3_fills_77 (fun H locs hP hD hS => ?_)
            have hP : va_P D vwCl (wN cyI cyZ ad (upd mc_a (3 : Int32).toNatClampNeg ((mc_a (3 : Int32).toNatClampNeg) ||| (1 <<< ((nI ia) &&& 31)))) (upd mw (3 : Int32).toNatClampNeg 0) (upd mn_a (24 + (nI ia)).toNatClampNeg (mn_a (16 + (nI ia)).toNatClampNeg)) me mu mr mz_a mf mt) H := hP
            have hD : va_D A (wN cyI cyZ ad (upd mc_a (3 : Int32).toNatClampNeg ((mc_a (3 : Int32).toNatClampNeg) ||| (1 <<< ((nI ia) &&& 31)))) (upd mw (3 : Int32).toNatClampNeg 0) (upd mn_a (24 + (nI ia)).toNatClampNeg (mn_a (16 + (nI ia)).toNatClampNeg)) me mu mr mz_a mf mt) := hD
            refine lv_iload_n hx hb dX3_fills_78 rfl (lv_at hl 0 rfl) ?_
            refine lv_iconst (v := 2) hx hb dX3_fills_79 (by decide) ?_
            refine lv_icmp_ne (tgt := 90) hx hb dX3_fills_80 (by decide) (fun c_80 => ?_) (fun c_80 => ?_)
            · refine lv_iload_n hx hb dX3_fills_90 rfl (lv_at hl 0 rfl) ?_
              refine lv_if_le (tgt := 109) hx hb dX3_fills_91 (by decide) (fun c_91 => ?_) (fun c_91 => ?_)
              · exact absurd c_91 c_29
              · refine lv_aload_n hx hb dX3_fills_94 rfl (lv_at hl 2 rfl) ?_
                refine lv_iload_n hx hb dX3_fills_95 rfl (lv_at hl 1 rfl) ?_
                refine pr_i (va_runV (As := [.int (nI ia)]) (rest := []) ⟨hx, hb, hml, hown, hts⟩ (k_X3_naming l D cyI cyZ ad (upd mc_a (3 : Int32).toNatClampNeg ((mc_a (3 : Int32).toNatClampNeg) ||| (1 <<< ((nI ia) &&& 31)))) (upd mw (3 : Int32).toNatClampNeg 0) (upd mn_a (24 + (nI ia)).toNatClampNeg (mn_a (16 + (nI ia)).toNatClampNeg)) me mu mr mz_a mf mt (nI ia) (vp_in_nI (n := ia) (N := 8) (by omega) (by omega))) (cwV 1 hts gX3_fills_X3_naming rfl rfl rfl (by decide +kernel) ⟨Nat.le_of_ble_eq_true rfl, Nat.le_of_ble_eq_true rfl⟩) (prV hG hP (ci := 3) rfl rfl rfl) rfl rfl hl.1 rfl (lv_room (Nat.le_of_ble_eq_true rfl)) dX3_fills_96 ⟨Nat.zero_le _, Nat.zero_le _⟩) hS hP (fun H locs hP hS => ?_)
                refine lv_if_ne (tgt := 109) hx hb dX3_fills_99 (by decide) (fun c_99 => ?_) (fun c_99 => ?_)
                · refine lv_iinc (v := nI (ia + 1)) (lv' := [(1, .int (nI (ia + 1))), (2, .int (f_X3_mergedColumn mc_a (upd mw (3 : Int32).toNatClampNeg 0) mn_a me (nI ia))), (0, .ref (ad 0))]) hx hb dX3_fills_109 hl (k := 1) rfl (nI_1 _) (by decide) rfl (fun ls hl => ?_)
                  refine lv_goto (tgt := 16) hx hb dX3_fills_112 (by decide) ?_
                  exact ih_a (ia + 1) (by omega) (upd mc_a (3 : Int32).toNatClampNeg ((mc_a (3 : Int32).toNatClampNeg) ||| (1 <<< ((nI ia) &&& 31)))) (upd mn_a (24 + (nI ia)).toNatClampNeg (mn_a (16 + (nI ia)).toNatClampNeg)) mz_a (it_s hs_a (by show f_X3_fills_sa mw me ia mc_a mn_a mz_a = _; rw [f_X3_fills_sa, if_neg c_29, if_pos c_62, if_neg c_80, if_neg c_99])) (by first | omega | (simp only [l1_lists]; omega)) _ _ hP hD hS ls (lv_sub hl [0, 2] rfl)
                · refine lv_aload_n hx hb dX3_fills_102 rfl (lv_at hl 2 rfl) ?_
                  refine lv_iconst (v := 4) hx hb dX3_fills_103 (by decide) ?_
                  refine lv_iconst (v := (-1)) hx hb dX3_fills_104 (by decide) ?_
                  refine lv_iload_n hx hb dX3_fills_105 rfl (lv_at hl 1 rfl) ?_
                  refine mr_v0 (va_runV (As := [.int 4, .int (-1), .int (nI ia)]) (rest := []) ⟨hx, hb, hml, hown, hts⟩ (k_X3_lists l D cyI cyZ ad (upd mc_a (3 : Int32).toNatClampNeg ((mc_a (3 : Int32).toNatClampNeg) ||| (1 <<< ((nI ia) &&& 31)))) (upd mw (3 : Int32).toNatClampNeg 0) (upd mn_a (24 + (nI ia)).toNatClampNeg (mn_a (16 + (nI ia)).toNatClampNeg)) me mu mr mz_a mf mt 4 (-1) (nI ia) _ _ rfl (by first | omega | (simp only [l1_lists]; omega))) (cwV 3 hts gX3_fills_X3_lists rfl rfl rfl (by decide +kernel) ⟨Nat.le_of_ble_eq_true rfl, Nat.le_of_ble_eq_true rfl⟩) (pmV hG hP hD (ci := 3) rfl rfl rfl) rfl rfl hl.1 rfl (lv_room (Nat.le_of_ble_eq_true rfl)) dX3_fills_106 ⟨Nat.zero_le _, Nat.zero_le _⟩) hD hS hA (fun H locs hP hD hS => ?_)
                  have hP : va_P D vwCl (wN cyI cyZ ad (upd mc_a (3 : Int32).toNatClampNeg ((mc_a (3 : Int32).toNatClampNeg) ||| (1 <<< ((nI ia) &&& 31)))) (upd mw (3 : Int32).toNatClampNeg 0) (upd mn_a (24 + (nI ia)).toNatClampNeg (mn_a (16 + (nI ia)).toNatClampNeg)) me mu mr (f_X3_lists mz_a 4 (-1) (nI ia)) mf mt) H := hP
                  have hD : va_D A (wN cyI cyZ ad (upd mc_a (3 : Int32).toNatClampNeg ((mc_a (3 : Int32).toNatClampNeg) ||| (1 <<< ((nI ia) &&& 31)))) (upd mw (3 : Int32).toNatClampNeg 0) (upd mn_a (24 + (nI ia)).toNatClampNeg (mn_a (16 + (nI ia)).toNatClampNeg)) me mu mr (f_X3_lists mz_a 4 (-1) (nI ia)) mf mt) := hD
                  refine lv_iinc (v := nI (ia + 1)) (lv' := [(1, .int (nI (ia + 1))), (2, .int (f_X3_mergedColumn mc_a (upd mw (3 : Int32).toNatClampNeg 0) mn_a me (nI ia))), (0, .ref (ad 0))]) hx hb dX3_fills_109 hl (k := 1) rfl (nI_1 _) (by decide) rfl (fun ls hl => ?_)
                  refine lv_goto (tgt := 16) hx hb dX3_fills_112 (by decide) ?_
                  exact ih_a (ia + 1) (by omega) (upd mc_a (3 : Int32).toNatClampNeg ((mc_a (3 : Int32).toNatClampNeg) ||| (1 <<< ((nI ia) &&& 31)))) (upd mn_a (24 + (nI ia)).toNatClampNeg (mn_a (16 + (nI ia)).toNatClampNeg)) (f_X3_lists mz_a 4 (-1) (nI ia)) (it_s hs_a (by show f_X3_fills_sa mw me ia mc_a mn_a mz_a = _; rw [f_X3_fills_sa, if_neg c_29, if_pos c_62, if_neg c_80, if_pos c_99])) (by first | omega | (simp only [l1_lists]; omega)) _ _ hP hD hS ls (lv_sub hl [0, 2] rfl)
            · refine lv_aload_n hx hb dX3_fills_83 rfl (lv_at hl 2 rfl) ?_
              refine lv_iconst (v := 3) hx hb dX3_fills_84 (by decide) ?_
              refine lv_iconst (v := (-1)) hx hb dX3_fills_85 (by decide) ?_
              refine lv_iload_n hx hb dX3_fills_86 rfl (lv_at hl 1 rfl) ?_
              refine mr_v0 (va_runV (As := [.int 3, .int (-1), .int (nI ia)]) (rest := []) ⟨hx, hb, hml, hown, hts⟩ (k_X3_lists l D cyI cyZ ad (upd mc_a (3 : Int32).toNatClampNeg ((mc_a (3 : Int32).toNatClampNeg) ||| (1 <<< ((nI ia) &&& 31)))) (upd mw (3 : Int32).toNatClampNeg 0) (upd mn_a (24 + (nI ia)).toNatClampNeg (mn_a (16 + (nI ia)).toNatClampNeg)) me mu mr mz_a mf mt 3 (-1) (nI ia) _ _ rfl (by first | omega | (simp only [l1_lists]; omega))) (cwV 3 hts gX3_fills_X3_lists rfl rfl rfl (by decide +kernel) ⟨Nat.le_of_ble_eq_true rfl, Nat.le_of_ble_eq_true rfl⟩) (pmV hG hP hD (ci := 3) rfl rfl rfl) rfl rfl hl.1 rfl (lv_room (Nat.le_of_ble_eq_true rfl)) dX3_fills_87 ⟨Nat.zero_le _, Nat.zero_le _⟩) hD hS hA (fun H locs hP hD hS => ?_)
              have hP : va_P D vwCl (wN cyI cyZ ad (upd mc_a (3 : Int32).toNatClampNeg ((mc_a (3 : Int32).toNatClampNeg) ||| (1 <<< ((nI ia) &&& 31)))) (upd mw (3 : Int32).toNatClampNeg 0) (upd mn_a (24 + (nI ia)).toNatClampNeg (mn_a (16 + (nI ia)).toNatClampNeg)) me mu mr (f_X3_lists mz_a 3 (-1) (nI ia)) mf mt) H := hP
              have hD : va_D A (wN cyI cyZ ad (upd mc_a (3 : Int32).toNatClampNeg ((mc_a (3 : Int32).toNatClampNeg) ||| (1 <<< ((nI ia) &&& 31)))) (upd mw (3 : Int32).toNatClampNeg 0) (upd mn_a (24 + (nI ia)).toNatClampNeg (mn_a (16 + (nI ia)).toNatClampNeg)) me mu mr (f_X3_lists mz_a 3 (-1) (nI ia)) mf mt) := hD
              refine lv_iload_n hx hb dX3_fills_90 rfl (lv_at hl 0 rfl) ?_
              refine lv_if_le (tgt := 109) hx hb dX3_fills_91 (by decide) (fun c_91 => ?_) (fun c_91 => ?_)
              · exact absurd c_91 c_29
              · refine lv_aload_n hx hb dX3_fills_94 rfl (lv_at hl 2 rfl) ?_
                refine lv_iload_n hx hb dX3_fills_95 rfl (lv_at hl 1 rfl) ?_
                refine pr_i (va_runV (As := [.int (nI ia)]) (rest := []) ⟨hx, hb, hml, hown, hts⟩ (k_X3_naming l D cyI cyZ ad (upd mc_a (3 : Int32).toNatClampNeg ((mc_a (3 : Int32).toNatClampNeg) ||| (1 <<< ((nI ia) &&& 31)))) (upd mw (3 : Int32).toNatClampNeg 0) (upd mn_a (24 + (nI ia)).toNatClampNeg (mn_a (16 + (nI ia)).toNatClampNeg)) me mu mr (f_X3_lists mz_a 3 (-1) (nI ia)) mf mt (nI ia) (vp_in_nI (n := ia) (N := 8) (by omega) (by omega))) (cwV 1 hts gX3_fills_X3_naming rfl rfl rfl (by decide +kernel) ⟨Nat.le_of_ble_eq_true rfl, Nat.le_of_ble_eq_true rfl⟩) (prV hG hP (ci := 3) rfl rfl rfl) rfl rfl hl.1 rfl (lv_room (Nat.le_of_ble_eq_true rfl)) dX3_fills_96 ⟨Nat.zero_le _, Nat.zero_le _⟩) hS hP (fun H locs hP hS => ?_)
                refine lv_if_ne (tgt := 109) hx hb dX3_fills_99 (by decide) (fun c_99 => ?_) (fun c_99 => ?_)
                · refine lv_iinc (v := nI (ia + 1)) (lv' := [(1, .int (nI (ia + 1))), (2, .int (f_X3_mergedColumn mc_a (upd mw (3 : Int32).toNatClampNeg 0) mn_a me (nI ia))), (0, .ref (ad 0))]) hx hb dX3_fills_109 hl (k := 1) rfl (nI_1 _) (by decide) rfl (fun ls hl => ?_)
                  refine lv_goto (tgt := 16) hx hb dX3_fills_112 (by decide) ?_
                  exact ih_a (ia + 1) (by omega) (upd mc_a (3 : Int32).toNatClampNeg ((mc_a (3 : Int32).toNatClampNeg) ||| (1 <<< ((nI ia) &&& 31)))) (upd mn_a (24 + (nI ia)).toNatClampNeg (mn_a (16 + (nI ia)).toNatClampNeg)) (f_X3_lists mz_a 3 (-1) (nI ia)) (it_s hs_a (by show f_X3_fills_sa mw me ia mc_a mn_a mz_a = _; rw [f_X3_fills_sa, if_neg c_29, if_pos c_62, if_pos c_80, if_neg c_99])) (by first | omega | (simp only [l1_lists]; omega)) _ _ hP hD hS ls (lv_sub hl [0, 2] rfl)
                · refine lv_aload_n hx hb dX3_fills_102 rfl (lv_at hl 2 rfl) ?_
                  refine lv_iconst (v := 4) hx hb dX3_fills_103 (by decide) ?_
                  refine lv_iconst (v := (-1)) hx hb dX3_fills_104 (by decide) ?_
                  refine lv_iload_n hx hb dX3_fills_105 rfl (lv_at hl 1 rfl) ?_
                  refine mr_v0 (va_runV (As := [.int 4, .int (-1), .int (nI ia)]) (rest := []) ⟨hx, hb, hml, hown, hts⟩ (k_X3_lists l D cyI cyZ ad (upd mc_a (3 : Int32).toNatClampNeg ((mc_a (3 : Int32).toNatClampNeg) ||| (1 <<< ((nI ia) &&& 31)))) (upd mw (3 : Int32).toNatClampNeg 0) (upd mn_a (24 + (nI ia)).toNatClampNeg (mn_a (16 + (nI ia)).toNatClampNeg)) me mu mr (f_X3_lists mz_a 3 (-1) (nI ia)) mf mt 4 (-1) (nI ia) _ _ rfl (by first | omega | (simp only [l1_lists]; omega))) (cwV 3 hts gX3_fills_X3_lists rfl rfl rfl (by decide +kernel) ⟨Nat.le_of_ble_eq_true rfl, Nat.le_of_ble_eq_true rfl⟩) (pmV hG hP hD (ci := 3) rfl rfl rfl) rfl rfl hl.1 rfl (lv_room (Nat.le_of_ble_eq_true rfl)) dX3_fills_106 ⟨Nat.zero_le _, Nat.zero_le _⟩) hD hS hA (fun H locs hP hD hS => ?_)
                  have hP : va_P D vwCl (wN cyI cyZ ad (upd mc_a (3 : Int32).toNatClampNeg ((mc_a (3 : Int32).toNatClampNeg) ||| (1 <<< ((nI ia) &&& 31)))) (upd mw (3 : Int32).toNatClampNeg 0) (upd mn_a (24 + (nI ia)).toNatClampNeg (mn_a (16 + (nI ia)).toNatClampNeg)) me mu mr (f_X3_lists (f_X3_lists mz_a 3 (-1) (nI ia)) 4 (-1) (nI ia)) mf mt) H := hP
                  have hD : va_D A (wN cyI cyZ ad (upd mc_a (3 : Int32).toNatClampNeg ((mc_a (3 : Int32).toNatClampNeg) ||| (1 <<< ((nI ia) &&& 31)))) (upd mw (3 : Int32).toNatClampNeg 0) (upd mn_a (24 + (nI ia)).toNatClampNeg (mn_a (16 + (nI ia)).toNatClampNeg)) me mu mr (f_X3_lists (f_X3_lists mz_a 3 (-1) (nI ia)) 4 (-1) (nI ia)) mf mt) := hD
                  refine lv_iinc (v := nI (ia + 1)) (lv' := [(1, .int (nI (ia + 1))), (2, .int (f_X3_mergedColumn mc_a (upd mw (3 : Int32).toNatClampNeg 0) mn_a me (nI ia))), (0, .ref (ad 0))]) hx hb dX3_fills_109 hl (k := 1) rfl (nI_1 _) (by decide) rfl (fun ls hl => ?_)
                  refine lv_goto (tgt := 16) hx hb dX3_fills_112 (by decide) ?_
                  exact ih_a (ia + 1) (by omega) (upd mc_a (3 : Int32).toNatClampNeg ((mc_a (3 : Int32).toNatClampNeg) ||| (1 <<< ((nI ia) &&& 31)))) (upd mn_a (24 + (nI ia)).toNatClampNeg (mn_a (16 + (nI ia)).toNatClampNeg)) (f_X3_lists (f_X3_lists mz_a 3 (-1) (nI ia)) 4 (-1) (nI ia)) (it_s hs_a (by show f_X3_fills_sa mw me ia mc_a mn_a mz_a = _; rw [f_X3_fills_sa, if_neg c_29, if_pos c_62, if_pos c_80, if_pos c_99])) (by first | omega | (simp only [l1_lists]; omega)) _ _ hP hD hS ls (lv_sub hl [0, 2] rfl)
  exact lp_a 8 0 (by omega) (upd mc (3 : Int32).toNatClampNeg 0) mn mz rfl (by omega) _ _ hP hD hS ls (lv_sub hl [0, 1] rfl)
