def f_X3_copies_sb (p1 : Int32) (p2 : Int32) (ib : Nat) (me_b : Nat → Int32) : (Nat → Int32) := (upd me_b ((192 * p2) + (nI ib)).toNatClampNeg (me_b ((192 * p1) + (nI ib)).toNatClampNeg))
def f_X3_copies_sa (p1 : Int32) (p2 : Int32) (ia : Nat) (mn_a : Nat → Int32) : (Nat → Int32) := (upd mn_a ((8 * p2) + (nI ia)).toNatClampNeg (mn_a ((8 * p1) + (nI ia)).toNatClampNeg))
def f_X3_copies_la (mn : Nat → Int32) (p1 : Int32) (p2 : Int32) : (Nat → Int32) := it (fun (i9 : Nat) (z9 : (Nat → Int32)) => f_X3_copies_sa p1 p2 i9 z9) mn 8
def f_X3_copies_lb (me : Nat → Int32) (p1 : Int32) (p2 : Int32) : (Nat → Int32) := it (fun (i9 : Nat) (z9 : (Nat → Int32)) => f_X3_copies_sb p1 p2 i9 z9) me 192
def f_X3_copies (mc : Nat → Int32) (mw : Nat → Int32) (mn : Nat → Int32) (me : Nat → Int32) (p1 : Int32) (p2 : Int32) : (Nat → Int32) × (Nat → Int32) × (Nat → Int32) × (Nat → Int32) := ((upd mc (p2).toNatClampNeg (mc (p1).toNatClampNeg)), (upd mw (p2).toNatClampNeg (mw (p1).toNatClampNeg)), ((f_X3_copies_la mn p1 p2)), ((f_X3_copies_lb me p1 p2)))
theorem uin_X3_copies_X3 : ∀ w ∈ wsX30, w ∈ wsX3_copies := fun _ h => List.mem_cons_of_mem _ (List.mem_append_right _ h)
set_option maxHeartbeats 4000000 in
set_option maxRecDepth 100000 in
theorem k_X3_copies (l : Launch) (D : va_G) (cyI cyZ : ClassId) (ad : Nat → Nat) (mc : Nat → Int32) (mw : Nat → Int32) (mn : Nat → Int32) (me : Nat → Int32) (mu : Nat → Int32) (mr : Nat → Int32) (mz : Kr) (mf : Int32) (mt : Int32) (p1 : Int32) (p2 : Int32) (A : Nat → Prop) (sz : Nat) (hAe : A = va_A (wN cyI cyZ ad mc mw mn me mu mr mz mf mt) sz) (hi1 : vp_in p1 4) (hi2 : vp_in p2 4) : Met l yX3_copies wsX3_copies ({ frames := 0, cells := 0, slots := 0, locals := 0 } : Room) (pcM D cyI cyZ sz [.ref (ad 0), .int p1, .int p2] (wN cyI cyZ ad mc mw mn me mu mr mz mf mt)) (mV D A (wN cyI cyZ ad (f_X3_copies mc mw mn me p1 p2).1 (f_X3_copies mc mw mn me p1 p2).2.1 (f_X3_copies mc mw mn me p1 p2).2.2.1 (f_X3_copies mc mw mn me p1 p2).2.2.2 mu mr mz mf mt)) 0 0 A := by
  refine Met.ofW (cc := cX3_copies) (maxL := 4) (ret := none) (by decide) rfl ?_
  intro p e s m args below meth c s₁ B hml hv
  obtain ⟨rfl, hsz, hP, hG, hD0⟩ := hv
  have hx := B.exec
  have hb := B.bytes
  have hr := B.returns
  have hts := atoms_spec (ws := wsX3_copies) B.pre
  have hown : s.vm.findClass RX3 = some m.cls := findClass_of_methodNamed B.named
  have hlocks := B.notSynchronized
  subst hsz
  have hD : va_D A (wN cyI cyZ ad mc mw mn me mu mr mz mf mt) := by rw [hAe]; exact hD0.self
  have hA : ∀ q : Nat, s.heap.size ≤ q → A q := fun q h => by rw [hAe]; exact Or.inr h
  clear hAe hD0
  have hS : va_S nA s.heap s.heap [] := va_S.rf
  have hl := lv_entry ([.ref (ad 0), .int p1, .int p2]) (n := 4) (Nat.le_of_ble_eq_true rfl)
  rw [lg_entry_eq]
  generalize (lg_sl ([.ref (ad 0), .int p1, .int p2]) ++ List.replicate (4 - (lg_sl ([.ref (ad 0), .int p1, .int p2])).length) Slot.unset).toArray = ls at hl ⊢
  have hl : lv_has ls 4 [(0, .ref (ad 0)), (1, .int p1), (2, .int p2)] := hl
  have hP : va_P D vwCl (wN cyI cyZ ad mc mw mn me mu mr mz mf mt) s.heap := hP
  refine lv_aload_n hx hb dX3_copies_0 rfl (lv_at hl 0 rfl) ?_
  refine va_get (D := D) (ci := 3) (v := .ref (ad 1)) (C := RX3) (T := TX3) (N := 13) hx hb hts uin_X3_copies_X3 hown hG.1 hP 0 rfl rfl 0 (by decide) (hts (.fieldLink RX3 7 "TableSpliceModel" "columns" "[I") (List.mem_of_getElem? (i := 1) rfl)) (fun _ h9 => h9) rfl dX3_copies_1 ?_
  refine lv_iload_n hx hb dX3_copies_4 rfl (lv_at hl 2 rfl) ?_
  refine lv_aload_n hx hb dX3_copies_5 rfl (lv_at hl 0 rfl) ?_
  refine va_get (D := D) (ci := 3) (v := .ref (ad 1)) (C := RX3) (T := TX3) (N := 13) hx hb hts uin_X3_copies_X3 hown hG.1 hP 0 rfl rfl 0 (by decide) (hts (.fieldLink RX3 7 "TableSpliceModel" "columns" "[I") (List.mem_of_getElem? (i := 1) rfl)) (fun _ h9 => h9) rfl dX3_copies_6 ?_
  refine lv_iload_n hx hb dX3_copies_9 rfl (lv_at hl 1 rfl) ?_
  refine va_iald hx hb hG.1 hP 1 0 rfl rfl hi1 dX3_copies_10 ?_
  have hS := sw_n (B := A) hS
  refine va_iast hx hb hG.1 hP hD hS 1 0 rfl rfl hi2 dX3_copies_11 (fun H locs hP hD hS => ?_)
  have hP : va_P D vwCl (wN cyI cyZ ad (upd mc (p2).toNatClampNeg (mc (p1).toNatClampNeg)) mw mn me mu mr mz mf mt) H := hP
  have hD : va_D A (wN cyI cyZ ad (upd mc (p2).toNatClampNeg (mc (p1).toNatClampNeg)) mw mn me mu mr mz mf mt) := hD
  refine lv_aload_n hx hb dX3_copies_12 rfl (lv_at hl 0 rfl) ?_
  refine va_get (D := D) (ci := 3) (v := .ref (ad 2)) (C := RX3) (T := TX3) (N := 13) hx hb hts uin_X3_copies_X3 hown hG.1 hP 0 rfl rfl 1 (by decide) (hts (.fieldLink RX3 13 "TableSpliceModel" "rows" "[I") (List.mem_of_getElem? (i := 2) rfl)) (fun _ h9 => h9) rfl dX3_copies_13 ?_
  refine lv_iload_n hx hb dX3_copies_16 rfl (lv_at hl 2 rfl) ?_
  refine lv_aload_n hx hb dX3_copies_17 rfl (lv_at hl 0 rfl) ?_
  refine va_get (D := D) (ci := 3) (v := .ref (ad 2)) (C := RX3) (T := TX3) (N := 13) hx hb hts uin_X3_copies_X3 hown hG.1 hP 0 rfl rfl 1 (by decide) (hts (.fieldLink RX3 13 "TableSpliceModel" "rows" "[I") (List.mem_of_getElem? (i := 2) rfl)) (fun _ h9 => h9) rfl dX3_copies_18 ?_
  refine lv_iload_n hx hb dX3_copies_21 rfl (lv_at hl 1 rfl) ?_
  refine va_iald hx hb hG.1 hP 2 0 rfl rfl hi1 dX3_copies_22 ?_
  refine va_iast hx hb hG.1 hP hD hS 2 0 rfl rfl hi2 dX3_copies_23 (fun H locs hP hD hS => ?_)
  have hP : va_P D vwCl (wN cyI cyZ ad (upd mc (p2).toNatClampNeg (mc (p1).toNatClampNeg)) (upd mw (p2).toNatClampNeg (mw (p1).toNatClampNeg)) mn me mu mr mz mf mt) H := hP
  have hD : va_D A (wN cyI cyZ ad (upd mc (p2).toNatClampNeg (mc (p1).toNatClampNeg)) (upd mw (p2).toNatClampNeg (mw (p1).toNatClampNeg)) mn me mu mr mz mf mt) := hD
  refine lv_iconst (v := 0) hx hb dX3_copies_24 (by decide) ?_
  refine lv_istore_n (lv' := [(3, .int 0), (0, .ref (ad 0)), (1, .int p1), (2, .int p2)]) hx hb dX3_copies_25 rfl hl (by decide) rfl (fun ls hl => ?_)
  have lp_a : ∀ (n ia : Nat), ia + n = 8 → ∀ (mn_a : Nat → Int32), mn_a = it (fun (i9 : Nat) (z9 : (Nat → Int32)) => f_X3_copies_sa p1 p2 i9 z9) mn ia → ∀ (H : Heap) (locs : List Loc), va_P D vwCl (wN cyI cyZ ad (upd mc (p2).toNatClampNeg (mc (p1).toNatClampNeg)) (upd mw (p2).toNatClampNeg (mw (p1).toNatClampNeg)) mn_a me mu mr mz mf mt) H → va_D A (wN cyI cyZ ad (upd mc (p2).toNatClampNeg (mc (p1).toNatClampNeg)) (upd mw (p2).toNatClampNeg (mw (p1).toNatClampNeg)) mn_a me mu mr mz mf mt) → va_S A s.heap H locs → ∀ (ls : Array Slot), lv_has ls 4 [(3, .int (nI ia)), (0, .ref (ad 0)), (1, .int p1), (2, .int p2)] → W p l e (headSpec wsX3_copies ({ frames := 0, cells := 0, slots := 0, locals := 0 } : Room)).room s m ([.ref (ad 0), .int p1, .int p2] : List Value).toArray below meth c H locs 0 0 (MQ below (mV D A (wN cyI cyZ ad (f_X3_copies mc mw mn me p1 p2).1 (f_X3_copies mc mw mn me p1 p2).2.1 (f_X3_copies mc mw mn me p1 p2).2.2.1 (f_X3_copies mc mw mn me p1 p2).2.2.2 mu mr mz mf mt)) ([.ref (ad 0), .int p1, .int p2] : List Value).toArray s 0 0 A) (F0 m 26 ls []) := by
    intro n
    induction n with
    | zero =>
      intro ia hi_a mn_a hs_a H locs hP hD hS ls hl
      obtain rfl : 8 = ia := by omega
      obtain rfl : mn_a = (f_X3_copies_la mn p1 p2) := hs_a
      refine lv_iload_n hx hb dX3_copies_26 rfl (lv_at hl 0 rfl) ?_
      refine lv_bipush (v := 8) hx hb dX3_copies_27 (by decide) ?_
      refine lv_icmp_ge (tgt := 60) hx hb dX3_copies_29 (by decide) (fun c_29 => ?_) (fun c_29 => ?_)
      · refine lv_iconst (v := 0) hx hb dX3_copies_60 (by decide) ?_
        refine lv_istore_n (lv' := [(3, .int 0), (0, .ref (ad 0)), (1, .int p1), (2, .int p2)]) hx hb dX3_copies_61 rfl hl (by decide) rfl (fun ls hl => ?_)
        have lp_b : ∀ (n ib : Nat), ib + n = 192 → ∀ (me_b : Nat → Int32), me_b = it (fun (i9 : Nat) (z9 : (Nat → Int32)) => f_X3_copies_sb p1 p2 i9 z9) me ib → ∀ (H : Heap) (locs : List Loc), va_P D vwCl (wN cyI cyZ ad (upd mc (p2).toNatClampNeg (mc (p1).toNatClampNeg)) (upd mw (p2).toNatClampNeg (mw (p1).toNatClampNeg)) ((f_X3_copies_la mn p1 p2)) me_b mu mr mz mf mt) H → va_D A (wN cyI cyZ ad (upd mc (p2).toNatClampNeg (mc (p1).toNatClampNeg)) (upd mw (p2).toNatClampNeg (mw (p1).toNatClampNeg)) ((f_X3_copies_la mn p1 p2)) me_b mu mr mz mf mt) → va_S A s.heap H locs → ∀ (ls : Array Slot), lv_has ls 4 [(3, .int (nI ib)), (0, .ref (ad 0)), (1, .int p1), (2, .int p2)] → W p l e (headSpec wsX3_copies ({ frames := 0, cells := 0, slots := 0, locals := 0 } : Room)).room s m ([.ref (ad 0), .int p1, .int p2] : List Value).toArray below meth c H locs 0 0 (MQ below (mV D A (wN cyI cyZ ad (f_X3_copies mc mw mn me p1 p2).1 (f_X3_copies mc mw mn me p1 p2).2.1 (f_X3_copies mc mw mn me p1 p2).2.2.1 (f_X3_copies mc mw mn me p1 p2).2.2.2 mu mr mz mf mt)) ([.ref (ad 0), .int p1, .int p2] : List Value).toArray s 0 0 A) (F0 m 62 ls []) := by
          intro n
          induction n with
          | zero =>
            intro ib hi_b me_b hs_b H locs hP hD hS ls hl
            obtain rfl : 192 = ib := by omega
            obtain rfl : me_b = (f_X3_copies_lb me p1 p2) := hs_b
            refine lv_iload_n hx hb dX3_copies_62 rfl (lv_at hl 0 rfl) ?_
            refine lv_sipush (v := 192) hx hb dX3_copies_63 (by decide) ?_
            refine lv_icmp_ge (tgt := 99) hx hb dX3_copies_66 (by decide) (fun c_66 => ?_) (fun c_66 => ?_)
            · have ef : f_X3_copies mc mw mn me p1 p2 = ((upd mc (p2).toNatClampNeg (mc (p1).toNatClampNeg)), (upd mw (p2).toNatClampNeg (mw (p1).toNatClampNeg)), ((f_X3_copies_la mn p1 p2)), ((f_X3_copies_lb me p1 p2))) := by rw [f_X3_copies]
              exact W.vret hx hb hr (fun t ht hW => ⟨⟨(), rfl, trivial, by rw [ht, ef]; exact hP, by rw [ef]; exact hD⟩, hS.F ht⟩) hS.2.2 dX3_copies_99
            · exact absurd (by decide) c_66
          | succ n ih_b =>
            intro ib hi_b me_b hs_b H locs hP hD hS ls hl
            have hj_b : ib < 192 := by omega
            refine lv_iload_n hx hb dX3_copies_62 rfl (lv_at hl 0 rfl) ?_
            refine lv_sipush (v := 192) hx hb dX3_copies_63 (by decide) ?_
            refine lv_icmp_ge (tgt := 99) hx hb dX3_copies_66 (by decide) (fun c_66 => ?_) (fun c_66 => ?_)
            · exact absurd c_66 (nI_ge hj_b (by decide))
            · refine lv_aload_n hx hb dX3_copies_69 rfl (lv_at hl 1 rfl) ?_
              refine va_get (D := D) (ci := 3) (v := .ref (ad 4)) (C := RX3) (T := TX3) (N := 13) hx hb hts uin_X3_copies_X3 hown hG.1 hP 0 rfl rfl 3 (by decide) (hts (.fieldLink RX3 19 "TableSpliceModel" "cell" "[I") (List.mem_of_getElem? (i := 4) rfl)) (fun _ h9 => h9) rfl dX3_copies_70 ?_
              refine lv_sipush (v := 192) hx hb dX3_copies_73 (by decide) ?_
              refine lv_iload_n hx hb dX3_copies_76 rfl (lv_at hl 3 rfl) ?_
              refine lv_imul hx hb dX3_copies_77 ?_
              refine lv_iload_n hx hb dX3_copies_78 rfl (lv_at hl 0 rfl) ?_
              refine lv_iadd hx hb dX3_copies_79 ?_
              refine lv_aload_n hx hb dX3_copies_80 rfl (lv_at hl 1 rfl) ?_
              refine va_get (D := D) (ci := 3) (v := .ref (ad 4)) (C := RX3) (T := TX3) (N := 13) hx hb hts uin_X3_copies_X3 hown hG.1 hP 0 rfl rfl 3 (by decide) (hts (.fieldLink RX3 19 "TableSpliceModel" "cell" "[I") (List.mem_of_getElem? (i := 4) rfl)) (fun _ h9 => h9) rfl dX3_copies_81 ?_
              refine lv_sipush (v := 192) hx hb dX3_copies_84 (by decide) ?_
              refine lv_iload_n hx hb dX3_copies_87 rfl (lv_at hl 2 rfl) ?_
              refine lv_imul hx hb dX3_copies_88 ?_
              refine lv_iload_n hx hb dX3_copies_89 rfl (lv_at hl 0 rfl) ?_
              refine lv_iadd hx hb dX3_copies_90 ?_
              refine va_iald hx hb hG.1 hP 4 0 rfl rfl (vi_add (k := 768) (vi_mul (c := 192) (k := 577) rfl hi1 (by decide) (by decide) (by decide)) (vp_in_nI (n := ib) (N := 192) (by omega) (by omega)) (by decide) (by decide)) dX3_copies_91 ?_
              refine va_iast hx hb hG.1 hP hD hS 4 0 rfl rfl (vi_add (k := 768) (vi_mul (c := 192) (k := 577) rfl hi2 (by decide) (by decide) (by decide)) (vp_in_nI (n := ib) (N := 192) (by omega) (by omega)) (by decide) (by decide)) dX3_copies_92 (fun H locs hP hD hS => ?_)
              have hP : va_P D vwCl (wN cyI cyZ ad (upd mc (p2).toNatClampNeg (mc (p1).toNatClampNeg)) (upd mw (p2).toNatClampNeg (mw (p1).toNatClampNeg)) ((f_X3_copies_la mn p1 p2)) (upd me_b ((192 * p2) + (nI ib)).toNatClampNeg (me_b ((192 * p1) + (nI ib)).toNatClampNeg)) mu mr mz mf mt) H := hP
              have hD : va_D A (wN cyI cyZ ad (upd mc (p2).toNatClampNeg (mc (p1).toNatClampNeg)) (upd mw (p2).toNatClampNeg (mw (p1).toNatClampNeg)) ((f_X3_copies_la mn p1 p2)) (upd me_b ((192 * p2) + (nI ib)).toNatClampNeg (me_b ((192 * p1) + (nI ib)).toNatClampNeg)) mu mr mz mf mt) := hD
              refine lv_iinc (v := nI (ib + 1)) (lv' := [(3, .int (nI (ib + 1))), (0, .ref (ad 0)), (1, .int p1), (2, .int p2)]) hx hb dX3_copies_93 hl (k := 0) rfl (nI_1 _) (by decide) rfl (fun ls hl => ?_)
              refine lv_goto (tgt := 62) hx hb dX3_copies_96 (by decide) ?_
              exact ih_b (ib + 1) (by omega) (upd me_b ((192 * p2) + (nI ib)).toNatClampNeg (me_b ((192 * p1) + (nI ib)).toNatClampNeg)) (it_s hs_b (by show f_X3_copies_sb p1 p2 ib me_b = _; rw [f_X3_copies_sb])) _ _ hP hD hS ls (lv_sub hl [0, 1, 2, 3] rfl)
        exact lp_b 192 0 (by omega) me rfl _ _ hP hD hS ls (lv_sub hl [0, 1, 2, 3] rfl)
      · exact absurd (by decide) c_29
    | succ n ih_a =>
      intro ia hi_a mn_a hs_a H locs hP hD hS ls hl
      have hj_a : ia < 8 := by omega
      refine lv_iload_n hx hb dX3_copies_26 rfl (lv_at hl 0 rfl) ?_
      refine lv_bipush (v := 8) hx hb dX3_copies_27 (by decide) ?_
      refine lv_icmp_ge (tgt := 60) hx hb dX3_copies_29 (by decide) (fun c_29 => ?_) (fun c_29 => ?_)
      · exact absurd c_29 (nI_ge hj_a (by decide))
      · refine lv_aload_n hx hb dX3_copies_32 rfl (lv_at hl 1 rfl) ?_
        refine va_get (D := D) (ci := 3) (v := .ref (ad 3)) (C := RX3) (T := TX3) (N := 13) hx hb hts uin_X3_copies_X3 hown hG.1 hP 0 rfl rfl 2 (by decide) (hts (.fieldLink RX3 16 "TableSpliceModel" "name" "[I") (List.mem_of_getElem? (i := 3) rfl)) (fun _ h9 => h9) rfl dX3_copies_33 ?_
        refine lv_bipush (v := 8) hx hb dX3_copies_36 (by decide) ?_
        refine lv_iload_n hx hb dX3_copies_38 rfl (lv_at hl 3 rfl) ?_
        refine lv_imul hx hb dX3_copies_39 ?_
        refine lv_iload_n hx hb dX3_copies_40 rfl (lv_at hl 0 rfl) ?_
        refine lv_iadd hx hb dX3_copies_41 ?_
        refine lv_aload_n hx hb dX3_copies_42 rfl (lv_at hl 1 rfl) ?_
        refine va_get (D := D) (ci := 3) (v := .ref (ad 3)) (C := RX3) (T := TX3) (N := 13) hx hb hts uin_X3_copies_X3 hown hG.1 hP 0 rfl rfl 2 (by decide) (hts (.fieldLink RX3 16 "TableSpliceModel" "name" "[I") (List.mem_of_getElem? (i := 3) rfl)) (fun _ h9 => h9) rfl dX3_copies_43 ?_
        refine lv_bipush (v := 8) hx hb dX3_copies_46 (by decide) ?_
        refine lv_iload_n hx hb dX3_copies_48 rfl (lv_at hl 2 rfl) ?_
        refine lv_imul hx hb dX3_copies_49 ?_
        refine lv_iload_n hx hb dX3_copies_50 rfl (lv_at hl 0 rfl) ?_
        refine lv_iadd hx hb dX3_copies_51 ?_
        refine va_iald hx hb hG.1 hP 3 0 rfl rfl (vi_add (k := 32) (vi_mul (c := 8) (k := 25) rfl hi1 (by decide) (by decide) (by decide)) (vp_in_nI (n := ia) (N := 8) (by omega) (by omega)) (by decide) (by decide)) dX3_copies_52 ?_
        refine va_iast hx hb hG.1 hP hD hS 3 0 rfl rfl (vi_add (k := 32) (vi_mul (c := 8) (k := 25) rfl hi2 (by decide) (by decide) (by decide)) (vp_in_nI (n := ia) (N := 8) (by omega) (by omega)) (by decide) (by decide)) dX3_copies_53 (fun H locs hP hD hS => ?_)
        have hP : va_P D vwCl (wN cyI cyZ ad (upd mc (p2).toNatClampNeg (mc (p1).toNatClampNeg)) (upd mw (p2).toNatClampNeg (mw (p1).toNatClampNeg)) (upd mn_a ((8 * p2) + (nI ia)).toNatClampNeg (mn_a ((8 * p1) + (nI ia)).toNatClampNeg)) me mu mr mz mf mt) H := hP
        have hD : va_D A (wN cyI cyZ ad (upd mc (p2).toNatClampNeg (mc (p1).toNatClampNeg)) (upd mw (p2).toNatClampNeg (mw (p1).toNatClampNeg)) (upd mn_a ((8 * p2) + (nI ia)).toNatClampNeg (mn_a ((8 * p1) + (nI ia)).toNatClampNeg)) me mu mr mz mf mt) := hD
        refine lv_iinc (v := nI (ia + 1)) (lv' := [(3, .int (nI (ia + 1))), (0, .ref (ad 0)), (1, .int p1), (2, .int p2)]) hx hb dX3_copies_54 hl (k := 0) rfl (nI_1 _) (by decide) rfl (fun ls hl => ?_)
        refine lv_goto (tgt := 26) hx hb dX3_copies_57 (by decide) ?_
        exact ih_a (ia + 1) (by omega) (upd mn_a ((8 * p2) + (nI ia)).toNatClampNeg (mn_a ((8 * p1) + (nI ia)).toNatClampNeg)) (it_s hs_a (by show f_X3_copies_sa p1 p2 ia mn_a = _; rw [f_X3_copies_sa])) _ _ hP hD hS ls (lv_sub hl [0, 1, 2, 3] rfl)
  exact lp_a 8 0 (by omega) mn rfl _ _ hP hD hS ls (lv_sub hl [0, 1, 2, 3] rfl)
def f_X3_forks (mc : Nat → Int32) (mw : Nat → Int32) (mn : Nat → Int32) (me : Nat → Int32) (mz : Kr) : Int32 × (Nat → Int32) × (Nat → Int32) × (Nat → Int32) × (Nat → Int32) × Kr × Int32 := ((f_X3_count ((upd ((f_X3_copies ((f_X3_copies mc mw mn me 0 1).1) ((f_X3_copies mc mw mn me 0 1).2.1) ((f_X3_copies mc mw mn me 0 1).2.2.1) ((f_X3_copies mc mw mn me 0 1).2.2.2) 0 2).1) (3 : Int32).toNatClampNeg 0) (0 : Int32).toNatClampNeg)) * (f_X3_count ((upd ((f_X3_copies ((f_X3_copies mc mw mn me 0 1).1) ((f_X3_copies mc mw mn me 0 1).2.1) ((f_X3_copies mc mw mn me 0 1).2.2.1) ((f_X3_copies mc mw mn me 0 1).2.2.2) 0 2).2.1) (3 : Int32).toNatClampNeg 0) (0 : Int32).toNatClampNeg)), (upd ((f_X3_copies ((f_X3_copies mc mw mn me 0 1).1) ((f_X3_copies mc mw mn me 0 1).2.1) ((f_X3_copies mc mw mn me 0 1).2.2.1) ((f_X3_copies mc mw mn me 0 1).2.2.2) 0 2).1) (3 : Int32).toNatClampNeg 0), (upd ((f_X3_copies ((f_X3_copies mc mw mn me 0 1).1) ((f_X3_copies mc mw mn me 0 1).2.1) ((f_X3_copies mc mw mn me 0 1).2.2.1) ((f_X3_copies mc mw mn me 0 1).2.2.2) 0 2).2.1) (3 : Int32).toNatClampNeg 0), ((f_X3_copies ((f_X3_copies mc mw mn me 0 1).1) ((f_X3_copies mc mw mn me 0 1).2.1) ((f_X3_copies mc mw mn me 0 1).2.2.1) ((f_X3_copies mc mw mn me 0 1).2.2.2) 0 2).2.2.1), ((f_X3_copies ((f_X3_copies mc mw mn me 0 1).1) ((f_X3_copies mc mw mn me 0 1).2.1) ((f_X3_copies mc mw mn me 0 1).2.2.1) ((f_X3_copies mc mw mn me 0 1).2.2.2) 0 2).2.2.2), (0, mz.2.1, mz.2.2.1, mz.2.2.2.1, mz.2.2.2.2), 0)
theorem uin_X3_forks_X3 : ∀ w ∈ wsX30, w ∈ wsX3_forks := fun _ h => List.mem_cons_of_mem _ (List.mem_append_right _ h)
set_option maxHeartbeats 4000000 in
set_option maxRecDepth 100000 in
theorem k_X3_forks (l : Launch) (D : va_G) (cyI cyZ : ClassId) (ad : Nat → Nat) (mc : Nat → Int32) (mw : Nat → Int32) (mn : Nat → Int32) (me : Nat → Int32) (mu : Nat → Int32) (mr : Nat → Int32) (mz : Kr) (mf : Int32) (mt : Int32) (A : Nat → Prop) (sz : Nat) (hAe : A = va_A (wN cyI cyZ ad mc mw mn me mu mr mz mf mt) sz) : Met l yX3_forks wsX3_forks ({ frames := 1, cells := 0, slots := 0, locals := 23 } : Room) (pcM D cyI cyZ sz [.ref (ad 0)] (wN cyI cyZ ad mc mw mn me mu mr mz mf mt)) (mI D A (wN cyI cyZ ad (f_X3_forks mc mw mn me mz).2.1 (f_X3_forks mc mw mn me mz).2.2.1 (f_X3_forks mc mw mn me mz).2.2.2.1 (f_X3_forks mc mw mn me mz).2.2.2.2.1 mu mr (f_X3_forks mc mw mn me mz).2.2.2.2.2.1 (f_X3_forks mc mw mn me mz).2.2.2.2.2.2 mt) (f_X3_forks mc mw mn me mz).1) 0 0 A := by
  refine Met.ofW (cc := cX3_forks) (maxL := 1) (ret := (some .int)) (by decide) rfl ?_
  intro p e s m args below meth c s₁ B hml hv
  obtain ⟨rfl, hsz, hP, hG, hD0⟩ := hv
  have hx := B.exec
  have hb := B.bytes
  have hr := B.returns
  have hts := atoms_spec (ws := wsX3_forks) B.pre
  have hown : s.vm.findClass RX3 = some m.cls := findClass_of_methodNamed B.named
  have hlocks := B.notSynchronized
  subst hsz
  have hD : va_D A (wN cyI cyZ ad mc mw mn me mu mr mz mf mt) := by rw [hAe]; exact hD0.self
  have hA : ∀ q : Nat, s.heap.size ≤ q → A q := fun q h => by rw [hAe]; exact Or.inr h
  clear hAe hD0
  have hS : va_S nA s.heap s.heap [] := va_S.rf
  have hl := lv_entry ([.ref (ad 0)]) (n := 1) (Nat.le_of_ble_eq_true rfl)
  rw [lg_entry_eq]
  generalize (lg_sl ([.ref (ad 0)]) ++ List.replicate (1 - (lg_sl ([.ref (ad 0)])).length) Slot.unset).toArray = ls at hl ⊢
  have hl : lv_has ls 1 [(0, .ref (ad 0))] := hl
  have hP : va_P D vwCl (wN cyI cyZ ad mc mw mn me mu mr mz mf mt) s.heap := hP
  refine lv_aload_n hx hb dX3_forks_0 rfl (lv_at hl 0 rfl) ?_
  refine lv_iconst (v := 0) hx hb dX3_forks_1 (by decide) ?_
  refine lv_iconst (v := 1) hx hb dX3_forks_2 (by decide) ?_
  have hS := sw_n (B := A) hS
  refine mr_v0 (va_runV (As := [.int 0, .int 1]) (rest := []) ⟨hx, hb, hml, hown, hts⟩ (k_X3_copies l D cyI cyZ ad mc mw mn me mu mr mz mf mt 0 1 _ _ rfl (vi_mono (vp_in_nI (n := 0) (N := 1) (by decide) (by decide)) (by decide)) (vi_mono (vp_in_nI (n := 1) (N := 2) (by decide) (by decide)) (by decide))) (cwV 2 hts gX3_forks_X3_copies rfl rfl rfl (by decide +kernel) ⟨Nat.le_of_ble_eq_true rfl, Nat.le_of_ble_eq_true rfl⟩) (pmV hG hP hD (ci := 3) rfl rfl rfl) rfl rfl hl.1 rfl (lv_room (Nat.le_of_ble_eq_true rfl)) dX3_forks_3 ⟨Nat.zero_le _, Nat.zero_le _⟩) hD hS hA (fun H locs hP hD hS => ?_)
  have hP : va_P D vwCl (wN cyI cyZ ad ((f_X3_copies mc mw mn me 0 1).1) ((f_X3_copies mc mw mn me 0 1).2.1) ((f_X3_copies mc mw mn me 0 1).2.2.1) ((f_X3_copies mc mw mn me 0 1).2.2.2) mu mr mz mf mt) H := hP
  have hD : va_D A (wN cyI cyZ ad ((f_X3_copies mc mw mn me 0 1).1) ((f_X3_copies mc mw mn me 0 1).2.1) ((f_X3_copies mc mw mn me 0 1).2.2.1) ((f_X3_copies mc mw mn me 0 1).2.2.2) mu mr mz mf mt) := hD
  refine lv_aload_n hx hb dX3_forks_6 rfl (lv_at hl 0 rfl) ?_
  refine lv_iconst (v := 0) hx hb dX3_forks_7 (by decide) ?_
  refine lv_iconst (v := 2) hx hb dX3_forks_8 (by decide) ?_
  refine mr_v0 (va_runV (As := [.int 0, .int 2]) (rest := []) ⟨hx, hb, hml, hown, hts⟩ (k_X3_copies l D cyI cyZ ad ((f_X3_copies mc mw mn me 0 1).1) ((f_X3_copies mc mw mn me 0 1).2.1) ((f_X3_copies mc mw mn me 0 1).2.2.1) ((f_X3_copies mc mw mn me 0 1).2.2.2) mu mr mz mf mt 0 2 _ _ rfl (vi_mono (vp_in_nI (n := 0) (N := 1) (by decide) (by decide)) (by decide)) (vi_mono (vp_in_nI (n := 2) (N := 3) (by decide) (by decide)) (by decide))) (cwV 2 hts gX3_forks_X3_copies rfl rfl rfl (by decide +kernel) ⟨Nat.le_of_ble_eq_true rfl, Nat.le_of_ble_eq_true rfl⟩) (pmV hG hP hD (ci := 3) rfl rfl rfl) rfl rfl hl.1 rfl (lv_room (Nat.le_of_ble_eq_true rfl)) dX3_forks_9 ⟨Nat.zero_le _, Nat.zero_le _⟩) hD hS hA (fun H locs hP hD hS => ?_)
  have hP : va_P D vwCl (wN cyI cyZ ad ((f_X3_copies ((f_X3_copies mc mw mn me 0 1).1) ((f_X3_copies mc mw mn me 0 1).2.1) ((f_X3_copies mc mw mn me 0 1).2.2.1) ((f_X3_copies mc mw mn me 0 1).2.2.2) 0 2).1) ((f_X3_copies ((f_X3_copies mc mw mn me 0 1).1) ((f_X3_copies mc mw mn me 0 1).2.1) ((f_X3_copies mc mw mn me 0 1).2.2.1) ((f_X3_copies mc mw mn me 0 1).2.2.2) 0 2).2.1) ((f_X3_copies ((f_X3_copies mc mw mn me 0 1).1) ((f_X3_copies mc mw mn me 0 1).2.1) ((f_X3_copies mc mw mn me 0 1).2.2.1) ((f_X3_copies mc mw mn me 0 1).2.2.2) 0 2).2.2.1) ((f_X3_copies ((f_X3_copies mc mw mn me 0 1).1) ((f_X3_copies mc mw mn me 0 1).2.1) ((f_X3_copies mc mw mn me 0 1).2.2.1) ((f_X3_copies mc mw mn me 0 1).2.2.2) 0 2).2.2.2) mu mr mz mf mt) H := hP
  have hD : va_D A (wN cyI cyZ ad ((f_X3_copies ((f_X3_copies mc mw mn me 0 1).1) ((f_X3_copies mc mw mn me 0 1).2.1) ((f_X3_copies mc mw mn me 0 1).2.2.1) ((f_X3_copies mc mw mn me 0 1).2.2.2) 0 2).1) ((f_X3_copies ((f_X3_copies mc mw mn me 0 1).1) ((f_X3_copies mc mw mn me 0 1).2.1) ((f_X3_copies mc mw mn me 0 1).2.2.1) ((f_X3_copies mc mw mn me 0 1).2.2.2) 0 2).2.1) ((f_X3_copies ((f_X3_copies mc mw mn me 0 1).1) ((f_X3_copies mc mw mn me 0 1).2.1) ((f_X3_copies mc mw mn me 0 1).2.2.1) ((f_X3_copies mc mw mn me 0 1).2.2.2) 0 2).2.2.1) ((f_X3_copies ((f_X3_copies mc mw mn me 0 1).1) ((f_X3_copies mc mw mn me 0 1).2.1) ((f_X3_copies mc mw mn me 0 1).2.2.1) ((f_X3_copies mc mw mn me 0 1).2.2.2) 0 2).2.2.2) mu mr mz mf mt) := hD
  refine lv_aload_n hx hb dX3_forks_12 rfl (lv_at hl 0 rfl) ?_
  refine va_get (D := D) (ci := 3) (v := .ref (ad 1)) (C := RX3) (T := TX3) (N := 13) hx hb hts uin_X3_forks_X3 hown hG.1 hP 0 rfl rfl 0 (by decide) (hts (.fieldLink RX3 7 "TableSpliceModel" "columns" "[I") (List.mem_of_getElem? (i := 1) rfl)) (fun _ h9 => h9) rfl dX3_forks_13 ?_
  refine lv_iconst (v := 3) hx hb dX3_forks_16 (by decide) ?_
  refine lv_iconst (v := 0) hx hb dX3_forks_17 (by decide) ?_
  refine va_iast hx hb hG.1 hP hD hS 1 0 rfl rfl (vp_in_nI (n := 3) (N := 4) (by decide) (by decide)) dX3_forks_18 (fun H locs hP hD hS => ?_)
  have hP : va_P D vwCl (wN cyI cyZ ad (upd ((f_X3_copies ((f_X3_copies mc mw mn me 0 1).1) ((f_X3_copies mc mw mn me 0 1).2.1) ((f_X3_copies mc mw mn me 0 1).2.2.1) ((f_X3_copies mc mw mn me 0 1).2.2.2) 0 2).1) (3 : Int32).toNatClampNeg 0) ((f_X3_copies ((f_X3_copies mc mw mn me 0 1).1) ((f_X3_copies mc mw mn me 0 1).2.1) ((f_X3_copies mc mw mn me 0 1).2.2.1) ((f_X3_copies mc mw mn me 0 1).2.2.2) 0 2).2.1) ((f_X3_copies ((f_X3_copies mc mw mn me 0 1).1) ((f_X3_copies mc mw mn me 0 1).2.1) ((f_X3_copies mc mw mn me 0 1).2.2.1) ((f_X3_copies mc mw mn me 0 1).2.2.2) 0 2).2.2.1) ((f_X3_copies ((f_X3_copies mc mw mn me 0 1).1) ((f_X3_copies mc mw mn me 0 1).2.1) ((f_X3_copies mc mw mn me 0 1).2.2.1) ((f_X3_copies mc mw mn me 0 1).2.2.2) 0 2).2.2.2) mu mr mz mf mt) H := hP
  have hD : va_D A (wN cyI cyZ ad (upd ((f_X3_copies ((f_X3_copies mc mw mn me 0 1).1) ((f_X3_copies mc mw mn me 0 1).2.1) ((f_X3_copies mc mw mn me 0 1).2.2.1) ((f_X3_copies mc mw mn me 0 1).2.2.2) 0 2).1) (3 : Int32).toNatClampNeg 0) ((f_X3_copies ((f_X3_copies mc mw mn me 0 1).1) ((f_X3_copies mc mw mn me 0 1).2.1) ((f_X3_copies mc mw mn me 0 1).2.2.1) ((f_X3_copies mc mw mn me 0 1).2.2.2) 0 2).2.1) ((f_X3_copies ((f_X3_copies mc mw mn me 0 1).1) ((f_X3_copies mc mw mn me 0 1).2.1) ((f_X3_copies mc mw mn me 0 1).2.2.1) ((f_X3_copies mc mw mn me 0 1).2.2.2) 0 2).2.2.1) ((f_X3_copies ((f_X3_copies mc mw mn me 0 1).1) ((f_X3_copies mc mw mn me 0 1).2.1) ((f_X3_copies mc mw mn me 0 1).2.2.1) ((f_X3_copies mc mw mn me 0 1).2.2.2) 0 2).2.2.2) mu mr mz mf mt) := hD
  refine lv_aload_n hx hb dX3_forks_19 rfl (lv_at hl 0 rfl) ?_
  refine va_get (D := D) (ci := 3) (v := .ref (ad 2)) (C := RX3) (T := TX3) (N := 13) hx hb hts uin_X3_forks_X3 hown hG.1 hP 0 rfl rfl 1 (by decide) (hts (.fieldLink RX3 13 "TableSpliceModel" "rows" "[I") (List.mem_of_getElem? (i := 2) rfl)) (fun _ h9 => h9) rfl dX3_forks_20 ?_
  refine lv_iconst (v := 3) hx hb dX3_forks_23 (by decide) ?_
  refine lv_iconst (v := 0) hx hb dX3_forks_24 (by decide) ?_
  refine va_iast hx hb hG.1 hP hD hS 2 0 rfl rfl (vp_in_nI (n := 3) (N := 4) (by decide) (by decide)) dX3_forks_25 (fun H locs hP hD hS => ?_)
  have hP : va_P D vwCl (wN cyI cyZ ad (upd ((f_X3_copies ((f_X3_copies mc mw mn me 0 1).1) ((f_X3_copies mc mw mn me 0 1).2.1) ((f_X3_copies mc mw mn me 0 1).2.2.1) ((f_X3_copies mc mw mn me 0 1).2.2.2) 0 2).1) (3 : Int32).toNatClampNeg 0) (upd ((f_X3_copies ((f_X3_copies mc mw mn me 0 1).1) ((f_X3_copies mc mw mn me 0 1).2.1) ((f_X3_copies mc mw mn me 0 1).2.2.1) ((f_X3_copies mc mw mn me 0 1).2.2.2) 0 2).2.1) (3 : Int32).toNatClampNeg 0) ((f_X3_copies ((f_X3_copies mc mw mn me 0 1).1) ((f_X3_copies mc mw mn me 0 1).2.1) ((f_X3_copies mc mw mn me 0 1).2.2.1) ((f_X3_copies mc mw mn me 0 1).2.2.2) 0 2).2.2.1) ((f_X3_copies ((f_X3_copies mc mw mn me 0 1).1) ((f_X3_copies mc mw mn me 0 1).2.1) ((f_X3_copies mc mw mn me 0 1).2.2.1) ((f_X3_copies mc mw mn me 0 1).2.2.2) 0 2).2.2.2) mu mr mz mf mt) H := hP
  have hD : va_D A (wN cyI cyZ ad (upd ((f_X3_copies ((f_X3_copies mc mw mn me 0 1).1) ((f_X3_copies mc mw mn me 0 1).2.1) ((f_X3_copies mc mw mn me 0 1).2.2.1) ((f_X3_copies mc mw mn me 0 1).2.2.2) 0 2).1) (3 : Int32).toNatClampNeg 0) (upd ((f_X3_copies ((f_X3_copies mc mw mn me 0 1).1) ((f_X3_copies mc mw mn me 0 1).2.1) ((f_X3_copies mc mw mn me 0 1).2.2.1) ((f_X3_copies mc mw mn me 0 1).2.2.2) 0 2).2.1) (3 : Int32).toNatClampNeg 0) ((f_X3_copies ((f_X3_copies mc mw mn me 0 1).1) ((f_X3_copies mc mw mn me 0 1).2.1) ((f_X3_copies mc mw mn me 0 1).2.2.1) ((f_X3_copies mc mw mn me 0 1).2.2.2) 0 2).2.2.1) ((f_X3_copies ((f_X3_copies mc mw mn me 0 1).1) ((f_X3_copies mc mw mn me 0 1).2.1) ((f_X3_copies mc mw mn me 0 1).2.2.1) ((f_X3_copies mc mw mn me 0 1).2.2.2) 0 2).2.2.2) mu mr mz mf mt) := hD
  refine lv_aload_n hx hb dX3_forks_26 rfl (lv_at hl 0 rfl) ?_
  refine lv_iconst (v := 0) hx hb dX3_forks_27 (by decide) ?_
  refine va_put (D := D) (ci := 3) (v := .int 0) (ty := .int) (C := RX3) (T := TX3) (N := 13) hx hb hts uin_X3_forks_X3 tyX3 tyX3_ok nmX3 hown hG.1 hP hD hS 0 rfl rfl 6 (by decide) (hts (.fieldLink RX3 97 "TableSpliceModel" "listed" "I") (List.mem_of_getElem? (i := 3) rfl)) (fun _ h9 => h9) rfl (by decide +kernel) rfl rfl (Nat.le_of_ble_eq_true rfl) dX3_forks_28 (fun H locs hP hD hS => ?_)
  have hP : va_P D vwCl (wN cyI cyZ ad (upd ((f_X3_copies ((f_X3_copies mc mw mn me 0 1).1) ((f_X3_copies mc mw mn me 0 1).2.1) ((f_X3_copies mc mw mn me 0 1).2.2.1) ((f_X3_copies mc mw mn me 0 1).2.2.2) 0 2).1) (3 : Int32).toNatClampNeg 0) (upd ((f_X3_copies ((f_X3_copies mc mw mn me 0 1).1) ((f_X3_copies mc mw mn me 0 1).2.1) ((f_X3_copies mc mw mn me 0 1).2.2.1) ((f_X3_copies mc mw mn me 0 1).2.2.2) 0 2).2.1) (3 : Int32).toNatClampNeg 0) ((f_X3_copies ((f_X3_copies mc mw mn me 0 1).1) ((f_X3_copies mc mw mn me 0 1).2.1) ((f_X3_copies mc mw mn me 0 1).2.2.1) ((f_X3_copies mc mw mn me 0 1).2.2.2) 0 2).2.2.1) ((f_X3_copies ((f_X3_copies mc mw mn me 0 1).1) ((f_X3_copies mc mw mn me 0 1).2.1) ((f_X3_copies mc mw mn me 0 1).2.2.1) ((f_X3_copies mc mw mn me 0 1).2.2.2) 0 2).2.2.2) mu mr (0, mz.2.1, mz.2.2.1, mz.2.2.2.1, mz.2.2.2.2) mf mt) H := hP
  have hD : va_D A (wN cyI cyZ ad (upd ((f_X3_copies ((f_X3_copies mc mw mn me 0 1).1) ((f_X3_copies mc mw mn me 0 1).2.1) ((f_X3_copies mc mw mn me 0 1).2.2.1) ((f_X3_copies mc mw mn me 0 1).2.2.2) 0 2).1) (3 : Int32).toNatClampNeg 0) (upd ((f_X3_copies ((f_X3_copies mc mw mn me 0 1).1) ((f_X3_copies mc mw mn me 0 1).2.1) ((f_X3_copies mc mw mn me 0 1).2.2.1) ((f_X3_copies mc mw mn me 0 1).2.2.2) 0 2).2.1) (3 : Int32).toNatClampNeg 0) ((f_X3_copies ((f_X3_copies mc mw mn me 0 1).1) ((f_X3_copies mc mw mn me 0 1).2.1) ((f_X3_copies mc mw mn me 0 1).2.2.1) ((f_X3_copies mc mw mn me 0 1).2.2.2) 0 2).2.2.1) ((f_X3_copies ((f_X3_copies mc mw mn me 0 1).1) ((f_X3_copies mc mw mn me 0 1).2.1) ((f_X3_copies mc mw mn me 0 1).2.2.1) ((f_X3_copies mc mw mn me 0 1).2.2.2) 0 2).2.2.2) mu mr (0, mz.2.1, mz.2.2.1, mz.2.2.2.1, mz.2.2.2.2) mf mt) := hD
  refine lv_aload_n hx hb dX3_forks_31 rfl (lv_at hl 0 rfl) ?_
  refine lv_iconst (v := 0) hx hb dX3_forks_32 (by decide) ?_
  refine va_put (D := D) (ci := 3) (v := .int 0) (ty := .boolean) (C := RX3) (T := TX3) (N := 13) hx hb hts uin_X3_forks_X3 tyX3 tyX3_ok nmX3 hown hG.1 hP hD hS 0 rfl rfl 7 (by decide) (hts (.fieldLink RX3 56 "TableSpliceModel" "fresh" "Z") (List.mem_of_getElem? (i := 4) rfl)) (fun _ h9 => h9) rfl (by decide +kernel) rfl rfl (Nat.le_of_ble_eq_true rfl) dX3_forks_33 (fun H locs hP hD hS => ?_)
  have hP : va_P D vwCl (wN cyI cyZ ad (upd ((f_X3_copies ((f_X3_copies mc mw mn me 0 1).1) ((f_X3_copies mc mw mn me 0 1).2.1) ((f_X3_copies mc mw mn me 0 1).2.2.1) ((f_X3_copies mc mw mn me 0 1).2.2.2) 0 2).1) (3 : Int32).toNatClampNeg 0) (upd ((f_X3_copies ((f_X3_copies mc mw mn me 0 1).1) ((f_X3_copies mc mw mn me 0 1).2.1) ((f_X3_copies mc mw mn me 0 1).2.2.1) ((f_X3_copies mc mw mn me 0 1).2.2.2) 0 2).2.1) (3 : Int32).toNatClampNeg 0) ((f_X3_copies ((f_X3_copies mc mw mn me 0 1).1) ((f_X3_copies mc mw mn me 0 1).2.1) ((f_X3_copies mc mw mn me 0 1).2.2.1) ((f_X3_copies mc mw mn me 0 1).2.2.2) 0 2).2.2.1) ((f_X3_copies ((f_X3_copies mc mw mn me 0 1).1) ((f_X3_copies mc mw mn me 0 1).2.1) ((f_X3_copies mc mw mn me 0 1).2.2.1) ((f_X3_copies mc mw mn me 0 1).2.2.2) 0 2).2.2.2) mu mr (0, mz.2.1, mz.2.2.1, mz.2.2.2.1, mz.2.2.2.2) 0 mt) H := hP
  have hD : va_D A (wN cyI cyZ ad (upd ((f_X3_copies ((f_X3_copies mc mw mn me 0 1).1) ((f_X3_copies mc mw mn me 0 1).2.1) ((f_X3_copies mc mw mn me 0 1).2.2.1) ((f_X3_copies mc mw mn me 0 1).2.2.2) 0 2).1) (3 : Int32).toNatClampNeg 0) (upd ((f_X3_copies ((f_X3_copies mc mw mn me 0 1).1) ((f_X3_copies mc mw mn me 0 1).2.1) ((f_X3_copies mc mw mn me 0 1).2.2.1) ((f_X3_copies mc mw mn me 0 1).2.2.2) 0 2).2.1) (3 : Int32).toNatClampNeg 0) ((f_X3_copies ((f_X3_copies mc mw mn me 0 1).1) ((f_X3_copies mc mw mn me 0 1).2.1) ((f_X3_copies mc mw mn me 0 1).2.2.1) ((f_X3_copies mc mw mn me 0 1).2.2.2) 0 2).2.2.1) ((f_X3_copies ((f_X3_copies mc mw mn me 0 1).1) ((f_X3_copies mc mw mn me 0 1).2.1) ((f_X3_copies mc mw mn me 0 1).2.2.1) ((f_X3_copies mc mw mn me 0 1).2.2.2) 0 2).2.2.2) mu mr (0, mz.2.1, mz.2.2.1, mz.2.2.2.1, mz.2.2.2.2) 0 mt) := hD
  refine lv_aload_n hx hb dX3_forks_36 rfl (lv_at hl 0 rfl) ?_
  refine va_get (D := D) (ci := 3) (v := .ref (ad 1)) (C := RX3) (T := TX3) (N := 13) hx hb hts uin_X3_forks_X3 hown hG.1 hP 0 rfl rfl 0 (by decide) (hts (.fieldLink RX3 7 "TableSpliceModel" "columns" "[I") (List.mem_of_getElem? (i := 1) rfl)) (fun _ h9 => h9) rfl dX3_forks_37 ?_
  refine lv_iconst (v := 0) hx hb dX3_forks_40 (by decide) ?_
  refine va_iald hx hb hG.1 hP 1 0 rfl rfl (vi_mono (vp_in_nI (n := 0) (N := 1) (by decide) (by decide)) (by decide)) dX3_forks_41 ?_
  refine pr_i (va_runS (As := [.int ((upd ((f_X3_copies ((f_X3_copies mc mw mn me 0 1).1) ((f_X3_copies mc mw mn me 0 1).2.1) ((f_X3_copies mc mw mn me 0 1).2.2.1) ((f_X3_copies mc mw mn me 0 1).2.2.2) 0 2).1) (3 : Int32).toNatClampNeg 0) (0 : Int32).toNatClampNeg)]) (rest := []) ⟨hx, hb, hml, hown, hts⟩ (k_X3_count l D cyI cyZ ((upd ((f_X3_copies ((f_X3_copies mc mw mn me 0 1).1) ((f_X3_copies mc mw mn me 0 1).2.1) ((f_X3_copies mc mw mn me 0 1).2.2.1) ((f_X3_copies mc mw mn me 0 1).2.2.2) 0 2).1) (3 : Int32).toNatClampNeg 0) (0 : Int32).toNatClampNeg)) (va_cwS 1 hts gX3_forks_X3_count rfl rfl rfl (by decide +kernel) ⟨Nat.le_of_ble_eq_true rfl, Nat.le_of_ble_eq_true rfl⟩) (prS hG (hP.sub (ws' := []) [] rfl)) rfl rfl hl.1 rfl (lv_room (Nat.le_of_ble_eq_true rfl)) dX3_forks_42 ⟨Nat.zero_le _, Nat.zero_le _⟩) hS hP (fun H locs hP hS => ?_)
  refine lv_aload_n hx hb dX3_forks_45 rfl (lv_at hl 0 rfl) ?_
  refine va_get (D := D) (ci := 3) (v := .ref (ad 2)) (C := RX3) (T := TX3) (N := 13) hx hb hts uin_X3_forks_X3 hown hG.1 hP 0 rfl rfl 1 (by decide) (hts (.fieldLink RX3 13 "TableSpliceModel" "rows" "[I") (List.mem_of_getElem? (i := 2) rfl)) (fun _ h9 => h9) rfl dX3_forks_46 ?_
  refine lv_iconst (v := 0) hx hb dX3_forks_49 (by decide) ?_
  refine va_iald hx hb hG.1 hP 2 0 rfl rfl (vi_mono (vp_in_nI (n := 0) (N := 1) (by decide) (by decide)) (by decide)) dX3_forks_50 ?_
  refine pr_i (va_runS (As := [.int ((upd ((f_X3_copies ((f_X3_copies mc mw mn me 0 1).1) ((f_X3_copies mc mw mn me 0 1).2.1) ((f_X3_copies mc mw mn me 0 1).2.2.1) ((f_X3_copies mc mw mn me 0 1).2.2.2) 0 2).2.1) (3 : Int32).toNatClampNeg 0) (0 : Int32).toNatClampNeg)]) (rest := [.int (f_X3_count ((upd ((f_X3_copies ((f_X3_copies mc mw mn me 0 1).1) ((f_X3_copies mc mw mn me 0 1).2.1) ((f_X3_copies mc mw mn me 0 1).2.2.1) ((f_X3_copies mc mw mn me 0 1).2.2.2) 0 2).1) (3 : Int32).toNatClampNeg 0) (0 : Int32).toNatClampNeg))]) ⟨hx, hb, hml, hown, hts⟩ (k_X3_count l D cyI cyZ ((upd ((f_X3_copies ((f_X3_copies mc mw mn me 0 1).1) ((f_X3_copies mc mw mn me 0 1).2.1) ((f_X3_copies mc mw mn me 0 1).2.2.1) ((f_X3_copies mc mw mn me 0 1).2.2.2) 0 2).2.1) (3 : Int32).toNatClampNeg 0) (0 : Int32).toNatClampNeg)) (va_cwS 1 hts gX3_forks_X3_count rfl rfl rfl (by decide +kernel) ⟨Nat.le_of_ble_eq_true rfl, Nat.le_of_ble_eq_true rfl⟩) (prS hG (hP.sub (ws' := []) [] rfl)) rfl rfl hl.1 rfl (lv_room (Nat.le_of_ble_eq_true rfl)) dX3_forks_51 ⟨Nat.zero_le _, Nat.zero_le _⟩) hS hP (fun H locs hP hS => ?_)
  refine lv_imul hx hb dX3_forks_54 ?_
  have ef : f_X3_forks mc mw mn me mz = ((f_X3_count ((upd ((f_X3_copies ((f_X3_copies mc mw mn me 0 1).1) ((f_X3_copies mc mw mn me 0 1).2.1) ((f_X3_copies mc mw mn me 0 1).2.2.1) ((f_X3_copies mc mw mn me 0 1).2.2.2) 0 2).1) (3 : Int32).toNatClampNeg 0) (0 : Int32).toNatClampNeg)) * (f_X3_count ((upd ((f_X3_copies ((f_X3_copies mc mw mn me 0 1).1) ((f_X3_copies mc mw mn me 0 1).2.1) ((f_X3_copies mc mw mn me 0 1).2.2.1) ((f_X3_copies mc mw mn me 0 1).2.2.2) 0 2).2.1) (3 : Int32).toNatClampNeg 0) (0 : Int32).toNatClampNeg)), (upd ((f_X3_copies ((f_X3_copies mc mw mn me 0 1).1) ((f_X3_copies mc mw mn me 0 1).2.1) ((f_X3_copies mc mw mn me 0 1).2.2.1) ((f_X3_copies mc mw mn me 0 1).2.2.2) 0 2).1) (3 : Int32).toNatClampNeg 0), (upd ((f_X3_copies ((f_X3_copies mc mw mn me 0 1).1) ((f_X3_copies mc mw mn me 0 1).2.1) ((f_X3_copies mc mw mn me 0 1).2.2.1) ((f_X3_copies mc mw mn me 0 1).2.2.2) 0 2).2.1) (3 : Int32).toNatClampNeg 0), ((f_X3_copies ((f_X3_copies mc mw mn me 0 1).1) ((f_X3_copies mc mw mn me 0 1).2.1) ((f_X3_copies mc mw mn me 0 1).2.2.1) ((f_X3_copies mc mw mn me 0 1).2.2.2) 0 2).2.2.1), ((f_X3_copies ((f_X3_copies mc mw mn me 0 1).1) ((f_X3_copies mc mw mn me 0 1).2.1) ((f_X3_copies mc mw mn me 0 1).2.2.1) ((f_X3_copies mc mw mn me 0 1).2.2.2) 0 2).2.2.2), (0, mz.2.1, mz.2.2.1, mz.2.2.2.1, mz.2.2.2.2), 0) := by rw [f_X3_forks]
  exact W.iret (v := (f_X3_count ((upd ((f_X3_copies ((f_X3_copies mc mw mn me 0 1).1) ((f_X3_copies mc mw mn me 0 1).2.1) ((f_X3_copies mc mw mn me 0 1).2.2.1) ((f_X3_copies mc mw mn me 0 1).2.2.2) 0 2).1) (3 : Int32).toNatClampNeg 0) (0 : Int32).toNatClampNeg)) * (f_X3_count ((upd ((f_X3_copies ((f_X3_copies mc mw mn me 0 1).1) ((f_X3_copies mc mw mn me 0 1).2.1) ((f_X3_copies mc mw mn me 0 1).2.2.1) ((f_X3_copies mc mw mn me 0 1).2.2.2) 0 2).2.1) (3 : Int32).toNatClampNeg 0) (0 : Int32).toNatClampNeg))) hx hb hr (fun t ht hW => ⟨⟨(f_X3_count ((upd ((f_X3_copies ((f_X3_copies mc mw mn me 0 1).1) ((f_X3_copies mc mw mn me 0 1).2.1) ((f_X3_copies mc mw mn me 0 1).2.2.1) ((f_X3_copies mc mw mn me 0 1).2.2.2) 0 2).1) (3 : Int32).toNatClampNeg 0) (0 : Int32).toNatClampNeg)) * (f_X3_count ((upd ((f_X3_copies ((f_X3_copies mc mw mn me 0 1).1) ((f_X3_copies mc mw mn me 0 1).2.1) ((f_X3_copies mc mw mn me 0 1).2.2.1) ((f_X3_copies mc mw mn me 0 1).2.2.2) 0 2).2.1) (3 : Int32).toNatClampNeg 0) (0 : Int32).toNatClampNeg)), (), rfl, by rw [ef], by rw [ht, ef]; exact hP, by rw [ef]; exact hD⟩, hS.F ht⟩) hS.2.2 dX3_forks_55
def f_X3_fork (mc : Nat → Int32) (mw : Nat → Int32) (mn : Nat → Int32) (me : Nat → Int32) (mz : Kr) : Int32 × (Nat → Int32) × (Nat → Int32) × (Nat → Int32) × (Nat → Int32) × Kr × Int32 × Int32 := ((f_X3_forks mc mw mn me mz).1, ((f_X3_forks mc mw mn me mz).2.1), ((f_X3_forks mc mw mn me mz).2.2.1), ((f_X3_forks mc mw mn me mz).2.2.2.1), ((f_X3_forks mc mw mn me mz).2.2.2.2.1), ((f_X3_forks mc mw mn me mz).2.2.2.2.2.1), ((f_X3_forks mc mw mn me mz).2.2.2.2.2.2), 0)
theorem uin_X3_fork_X3 : ∀ w ∈ wsX30, w ∈ wsX3_fork := fun _ h => List.mem_cons_of_mem _ (List.mem_append_right _ h)
set_option maxHeartbeats 4000000 in
set_option maxRecDepth 100000 in
theorem k_X3_fork (l : Launch) (D : va_G) (cyI cyZ : ClassId) (ad : Nat → Nat) (mc : Nat → Int32) (mw : Nat → Int32) (mn : Nat → Int32) (me : Nat → Int32) (mu : Nat → Int32) (mr : Nat → Int32) (mz : Kr) (mf : Int32) (mt : Int32) (A : Nat → Prop) (sz : Nat) (hAe : A = va_A (wN cyI cyZ ad mc mw mn me mu mr mz mf mt) sz) : Met l yX3_fork wsX3_fork ({ frames := 2, cells := 0, slots := 0, locals := 43 } : Room) (pcM D cyI cyZ sz [.ref (ad 0)] (wN cyI cyZ ad mc mw mn me mu mr mz mf mt)) (mI D A (wN cyI cyZ ad (f_X3_fork mc mw mn me mz).2.1 (f_X3_fork mc mw mn me mz).2.2.1 (f_X3_fork mc mw mn me mz).2.2.2.1 (f_X3_fork mc mw mn me mz).2.2.2.2.1 mu mr (f_X3_fork mc mw mn me mz).2.2.2.2.2.1 (f_X3_fork mc mw mn me mz).2.2.2.2.2.2.1 (f_X3_fork mc mw mn me mz).2.2.2.2.2.2.2) (f_X3_fork mc mw mn me mz).1) 0 0 A := by
  refine Met.ofW (cc := cX3_fork) (maxL := 1) (ret := (some .int)) (by decide) rfl ?_
  intro p e s m args below meth c s₁ B hml hv
  obtain ⟨rfl, hsz, hP, hG, hD0⟩ := hv
  have hx := B.exec
  have hb := B.bytes
  have hr := B.returns
  have hts := atoms_spec (ws := wsX3_fork) B.pre
  have hown : s.vm.findClass RX3 = some m.cls := findClass_of_methodNamed B.named
  have hlocks := B.notSynchronized
  subst hsz
  have hD : va_D A (wN cyI cyZ ad mc mw mn me mu mr mz mf mt) := by rw [hAe]; exact hD0.self
  have hA : ∀ q : Nat, s.heap.size ≤ q → A q := fun q h => by rw [hAe]; exact Or.inr h
  clear hAe hD0
  have hS : va_S nA s.heap s.heap [] := va_S.rf
  have hl := lv_entry ([.ref (ad 0)]) (n := 1) (Nat.le_of_ble_eq_true rfl)
  rw [lg_entry_eq]
  generalize (lg_sl ([.ref (ad 0)]) ++ List.replicate (1 - (lg_sl ([.ref (ad 0)])).length) Slot.unset).toArray = ls at hl ⊢
  have hl : lv_has ls 1 [(0, .ref (ad 0))] := hl
  have hP : va_P D vwCl (wN cyI cyZ ad mc mw mn me mu mr mz mf mt) s.heap := hP
  refine lv_aload_n hx hb dX3_fork_0 rfl (lv_at hl 0 rfl) ?_
  refine lv_iconst (v := 0) hx hb dX3_fork_1 (by decide) ?_
  have hS := sw_n (B := A) hS
  refine va_put (D := D) (ci := 3) (v := .int 0) (ty := .int) (C := RX3) (T := TX3) (N := 13) hx hb hts uin_X3_fork_X3 tyX3 tyX3_ok nmX3 hown hG.1 hP hD hS 0 rfl rfl 12 (by decide) (hts (.fieldLink RX3 41 "TableSpliceModel" "thrown" "I") (List.mem_of_getElem? (i := 1) rfl)) (fun _ h9 => h9) rfl (by decide +kernel) rfl rfl (Nat.le_of_ble_eq_true rfl) dX3_fork_2 (fun H locs hP hD hS => ?_)
  have hP : va_P D vwCl (wN cyI cyZ ad mc mw mn me mu mr mz mf 0) H := hP
  have hD : va_D A (wN cyI cyZ ad mc mw mn me mu mr mz mf 0) := hD
  refine lv_aload_n hx hb dX3_fork_5 rfl (lv_at hl 0 rfl) ?_
  refine mr_i0 (va_runV (As := []) (rest := []) ⟨hx, hb, hml, hown, hts⟩ (k_X3_forks l D cyI cyZ ad mc mw mn me mu mr mz mf 0 _ _ rfl) (cwV 0 hts gX3_fork_X3_forks rfl rfl rfl (by decide +kernel) ⟨Nat.le_of_ble_eq_true rfl, Nat.le_of_ble_eq_true rfl⟩) (pmV hG hP hD (ci := 3) rfl rfl rfl) rfl rfl hl.1 rfl (lv_room (Nat.le_of_ble_eq_true rfl)) dX3_fork_6 ⟨Nat.zero_le _, Nat.zero_le _⟩) hD hS hA (fun H locs hP hD hS => ?_)
  have hP : va_P D vwCl (wN cyI cyZ ad ((f_X3_forks mc mw mn me mz).2.1) ((f_X3_forks mc mw mn me mz).2.2.1) ((f_X3_forks mc mw mn me mz).2.2.2.1) ((f_X3_forks mc mw mn me mz).2.2.2.2.1) mu mr ((f_X3_forks mc mw mn me mz).2.2.2.2.2.1) ((f_X3_forks mc mw mn me mz).2.2.2.2.2.2) 0) H := hP
  have hD : va_D A (wN cyI cyZ ad ((f_X3_forks mc mw mn me mz).2.1) ((f_X3_forks mc mw mn me mz).2.2.1) ((f_X3_forks mc mw mn me mz).2.2.2.1) ((f_X3_forks mc mw mn me mz).2.2.2.2.1) mu mr ((f_X3_forks mc mw mn me mz).2.2.2.2.2.1) ((f_X3_forks mc mw mn me mz).2.2.2.2.2.2) 0) := hD
  have ef : f_X3_fork mc mw mn me mz = ((f_X3_forks mc mw mn me mz).1, ((f_X3_forks mc mw mn me mz).2.1), ((f_X3_forks mc mw mn me mz).2.2.1), ((f_X3_forks mc mw mn me mz).2.2.2.1), ((f_X3_forks mc mw mn me mz).2.2.2.2.1), ((f_X3_forks mc mw mn me mz).2.2.2.2.2.1), ((f_X3_forks mc mw mn me mz).2.2.2.2.2.2), 0) := by rw [f_X3_fork]
  exact W.iret (v := (f_X3_forks mc mw mn me mz).1) hx hb hr (fun t ht hW => ⟨⟨(f_X3_forks mc mw mn me mz).1, (), rfl, by rw [ef], by rw [ht, ef]; exact hP, by rw [ef]; exact hD⟩, hS.F ht⟩) hS.2.2 dX3_fork_9
def f_X3_left_sa (mz : Kr) (ia : Nat) (va_1 : Int32) : Int32 := if (mz.2.2.2.2 (nI ia).toNatClampNeg) = 0 then va_1 + 1 else va_1 + 0
def f_X3_left_la (mz : Kr) : Int32 := it (fun (i9 : Nat) (z9 : Int32) => f_X3_left_sa mz i9 z9) 0 mz.1
def f_X3_left (mz : Kr) : Int32 := (f_X3_left_la mz)
theorem uin_X3_left_X3 : ∀ w ∈ wsX30, w ∈ wsX3_left := fun _ h => List.mem_cons_of_mem _ (List.mem_append_right _ h)
set_option maxHeartbeats 4000000 in
set_option maxRecDepth 100000 in
theorem k_X3_left (l : Launch) (D : va_G) (cyI cyZ : ClassId) (ad : Nat → Nat) (mc : Nat → Int32) (mw : Nat → Int32) (mn : Nat → Int32) (me : Nat → Int32) (mu : Nat → Int32) (mr : Nat → Int32) (mz : Kr) (mf : Int32) (mt : Int32) (hm : mz.1 ≤ 440) : Met l yX3_left wsX3_left ({ frames := 0, cells := 0, slots := 0, locals := 0 } : Room) (pcP D cyI cyZ [.ref (ad 0)] (wN cyI cyZ ad mc mw mn me mu mr mz mf mt)) (qI (f_X3_left mz)) 0 0 nA := by
  refine Met.ofW (cc := cX3_left) (maxL := 3) (ret := (some .int)) (by decide) rfl ?_
  intro p e s m args below meth c s₁ B hml hv
  obtain ⟨rfl, hP, hG⟩ := hv
  have hx := B.exec
  have hb := B.bytes
  have hr := B.returns
  have hts := atoms_spec (ws := wsX3_left) B.pre
  have hown : s.vm.findClass RX3 = some m.cls := findClass_of_methodNamed B.named
  have hlocks := B.notSynchronized
  have hS : va_S nA s.heap s.heap [] := va_S.rf
  have hl := lv_entry ([.ref (ad 0)]) (n := 3) (Nat.le_of_ble_eq_true rfl)
  rw [lg_entry_eq]
  generalize (lg_sl ([.ref (ad 0)]) ++ List.replicate (3 - (lg_sl ([.ref (ad 0)])).length) Slot.unset).toArray = ls at hl ⊢
  have hl : lv_has ls 3 [(0, .ref (ad 0))] := hl
  have hP : va_P D vwCl (wN cyI cyZ ad mc mw mn me mu mr mz mf mt) s.heap := hP
  refine lv_iconst (v := 0) hx hb dX3_left_0 (by decide) ?_
  refine lv_istore_n (lv' := [(1, .int 0), (0, .ref (ad 0))]) hx hb dX3_left_1 rfl hl (by decide) rfl (fun ls hl => ?_)
  refine lv_iconst (v := 0) hx hb dX3_left_2 (by decide) ?_
  refine lv_istore_n (lv' := [(2, .int 0), (1, .int 0), (0, .ref (ad 0))]) hx hb dX3_left_3 rfl hl (by decide) rfl (fun ls hl => ?_)
  have lp_a : ∀ (n ia : Nat), ia + n = mz.1 → ∀ (va_1 : Int32), va_1 = it (fun (i9 : Nat) (z9 : Int32) => f_X3_left_sa mz i9 z9) 0 ia → ∀ (H : Heap) (locs : List Loc), va_P D vwCl (wN cyI cyZ ad mc mw mn me mu mr mz mf mt) H → va_S nA s.heap H locs → ∀ (ls : Array Slot), lv_has ls 3 [(2, .int (nI ia)), (1, .int va_1), (0, .ref (ad 0))] → W p l e (headSpec wsX3_left ({ frames := 0, cells := 0, slots := 0, locals := 0 } : Room)).room s m ([.ref (ad 0)] : List Value).toArray below meth c H locs 0 0 (MQ below (qI (f_X3_left mz)) ([.ref (ad 0)] : List Value).toArray s 0 0 nA) (F0 m 4 ls []) := by
    intro n
    induction n with
    | zero =>
      intro ia hi_a va_1 hs_a H locs hP hS ls hl
      obtain rfl : mz.1 = ia := by omega
      obtain rfl : va_1 = (f_X3_left_la mz) := hs_a
      refine lv_iload_n hx hb dX3_left_4 rfl (lv_at hl 0 rfl) ?_
      refine lv_aload_n hx hb dX3_left_5 rfl (lv_at hl 2 rfl) ?_
      refine va_get (D := D) (ci := 3) (v := .int (nI mz.1)) (C := RX3) (T := TX3) (N := 13) hx hb hts uin_X3_left_X3 hown hG.1 hP 0 rfl rfl 6 (by decide) (hts (.fieldLink RX3 97 "TableSpliceModel" "listed" "I") (List.mem_of_getElem? (i := 1) rfl)) (fun _ h9 => h9) rfl dX3_left_6 ?_
      refine lv_icmp_ge (tgt := 35) hx hb dX3_left_9 (by decide) (fun c_9 => ?_) (fun c_9 => ?_)
      · refine lv_iload_n hx hb dX3_left_35 rfl (lv_at hl 1 rfl) ?_
        have ef : f_X3_left mz = (f_X3_left_la mz) := by rw [f_X3_left]
        exact W.iret (v := (f_X3_left_la mz)) hx hb hr (fun t ht hW => ⟨⟨(f_X3_left_la mz), (), rfl, ef.symm, trivial⟩, hS.F ht⟩) hS.2.2 dX3_left_36
      · exact absurd (Int32.le_refl _) c_9
    | succ n ih_a =>
      intro ia hi_a va_1 hs_a H locs hP hS ls hl
      have hj_a : ia < mz.1 := by omega
      refine lv_iload_n hx hb dX3_left_4 rfl (lv_at hl 0 rfl) ?_
      refine lv_aload_n hx hb dX3_left_5 rfl (lv_at hl 2 rfl) ?_
      refine va_get (D := D) (ci := 3) (v := .int (nI mz.1)) (C := RX3) (T := TX3) (N := 13) hx hb hts uin_X3_left_X3 hown hG.1 hP 0 rfl rfl 6 (by decide) (hts (.fieldLink RX3 97 "TableSpliceModel" "listed" "I") (List.mem_of_getElem? (i := 1) rfl)) (fun _ h9 => h9) rfl dX3_left_6 ?_
      refine lv_icmp_ge (tgt := 35) hx hb dX3_left_9 (by decide) (fun c_9 => ?_) (fun c_9 => ?_)
      · exact absurd c_9 (nI_ge hj_a (by omega))
      · refine lv_iload_n hx hb dX3_left_12 rfl (lv_at hl 1 rfl) ?_
        refine lv_aload_n hx hb dX3_left_13 rfl (lv_at hl 2 rfl) ?_
        refine va_get (D := D) (ci := 3) (v := .ref (ad 10)) (C := RX3) (T := TX3) (N := 13) hx hb hts uin_X3_left_X3 hown hG.1 hP 0 rfl rfl 11 (by decide) (hts (.fieldLink RX3 38 "TableSpliceModel" "settled" "[Z") (List.mem_of_getElem? (i := 2) rfl)) (fun _ h9 => h9) rfl dX3_left_14 ?_
        refine lv_iload_n hx hb dX3_left_17 rfl (lv_at hl 0 rfl) ?_
        refine va_zald hx hb hG.1 hP 10 1 rfl rfl (vp_in_nI (n := ia) (N := 440) (by omega) (by omega)) dX3_left_18 ?_
        refine lv_if_eq (tgt := 26) hx hb dX3_left_19 (by decide) (fun c_19 => ?_) (fun c_19 => ?_)
        · refine lv_iconst (v := 1) hx hb dX3_left_26 (by decide) ?_
          refine lv_iadd hx hb dX3_left_27 ?_
          refine lv_istore_n (lv' := [(1, .int (va_1 + 1)), (2, .int (nI ia)), (0, .ref (ad 0))]) hx hb dX3_left_28 rfl hl (by decide) rfl (fun ls hl => ?_)
          refine lv_iinc (v := nI (ia + 1)) (lv' := [(2, .int (nI (ia + 1))), (1, .int (va_1 + 1)), (0, .ref (ad 0))]) hx hb dX3_left_29 hl (k := 1) rfl (nI_1 _) (by decide) rfl (fun ls hl => ?_)
          refine lv_goto (tgt := 4) hx hb dX3_left_32 (by decide) ?_
          exact ih_a (ia + 1) (by omega) (va_1 + 1) (it_s hs_a (by show f_X3_left_sa mz ia va_1 = _; rw [f_X3_left_sa, if_pos c_19])) _ _ hP hS ls (lv_sub hl [0, 1, 2] rfl)
        · refine lv_iconst (v := 0) hx hb dX3_left_22 (by decide) ?_
          refine lv_goto (tgt := 27) hx hb dX3_left_23 (by decide) ?_
          refine lv_iadd hx hb dX3_left_27 ?_
          refine lv_istore_n (lv' := [(1, .int (va_1 + 0)), (2, .int (nI ia)), (0, .ref (ad 0))]) hx hb dX3_left_28 rfl hl (by decide) rfl (fun ls hl => ?_)
          refine lv_iinc (v := nI (ia + 1)) (lv' := [(2, .int (nI (ia + 1))), (1, .int (va_1 + 0)), (0, .ref (ad 0))]) hx hb dX3_left_29 hl (k := 1) rfl (nI_1 _) (by decide) rfl (fun ls hl => ?_)
          refine lv_goto (tgt := 4) hx hb dX3_left_32 (by decide) ?_
          exact ih_a (ia + 1) (by omega) (va_1 + 0) (it_s hs_a (by show f_X3_left_sa mz ia va_1 = _; rw [f_X3_left_sa, if_neg c_19])) _ _ hP hS ls (lv_sub hl [0, 1, 2] rfl)
  exact lp_a mz.1 0 (by omega) 0 rfl _ _ hP hS ls (lv_sub hl [0, 1, 2] rfl)
def f_X3_open (mz : Kr) : Int32 × Int32 := (f_X3_left mz, 0)
theorem uin_X3_open_X3 : ∀ w ∈ wsX30, w ∈ wsX3_open := fun _ h => List.mem_cons_of_mem _ (List.mem_append_right _ h)
set_option maxHeartbeats 4000000 in
set_option maxRecDepth 100000 in
theorem k_X3_open (l : Launch) (D : va_G) (cyI cyZ : ClassId) (ad : Nat → Nat) (mc : Nat → Int32) (mw : Nat → Int32) (mn : Nat → Int32) (me : Nat → Int32) (mu : Nat → Int32) (mr : Nat → Int32) (mz : Kr) (mf : Int32) (mt : Int32) (A : Nat → Prop) (sz : Nat) (hAe : A = va_A (wN cyI cyZ ad mc mw mn me mu mr mz mf mt) sz) (hm : mz.1 ≤ 440) : Met l yX3_open wsX3_open ({ frames := 1, cells := 0, slots := 0, locals := 22 } : Room) (pcM D cyI cyZ sz [.ref (ad 0)] (wN cyI cyZ ad mc mw mn me mu mr mz mf mt)) (mI D A (wN cyI cyZ ad mc mw mn me mu mr mz mf (f_X3_open mz).2) (f_X3_open mz).1) 0 0 A := by
  refine Met.ofW (cc := cX3_open) (maxL := 1) (ret := (some .int)) (by decide) rfl ?_
  intro p e s m args below meth c s₁ B hml hv
  obtain ⟨rfl, hsz, hP, hG, hD0⟩ := hv
  have hx := B.exec
  have hb := B.bytes
  have hr := B.returns
  have hts := atoms_spec (ws := wsX3_open) B.pre
  have hown : s.vm.findClass RX3 = some m.cls := findClass_of_methodNamed B.named
  have hlocks := B.notSynchronized
  subst hsz
  have hD : va_D A (wN cyI cyZ ad mc mw mn me mu mr mz mf mt) := by rw [hAe]; exact hD0.self
  have hA : ∀ q : Nat, s.heap.size ≤ q → A q := fun q h => by rw [hAe]; exact Or.inr h
  clear hAe hD0
  have hS : va_S nA s.heap s.heap [] := va_S.rf
  have hl := lv_entry ([.ref (ad 0)]) (n := 1) (Nat.le_of_ble_eq_true rfl)
  rw [lg_entry_eq]
  generalize (lg_sl ([.ref (ad 0)]) ++ List.replicate (1 - (lg_sl ([.ref (ad 0)])).length) Slot.unset).toArray = ls at hl ⊢
  have hl : lv_has ls 1 [(0, .ref (ad 0))] := hl
  have hP : va_P D vwCl (wN cyI cyZ ad mc mw mn me mu mr mz mf mt) s.heap := hP
  refine lv_aload_n hx hb dX3_open_0 rfl (lv_at hl 0 rfl) ?_
  refine lv_iconst (v := 0) hx hb dX3_open_1 (by decide) ?_
  have hS := sw_n (B := A) hS
  refine va_put (D := D) (ci := 3) (v := .int 0) (ty := .int) (C := RX3) (T := TX3) (N := 13) hx hb hts uin_X3_open_X3 tyX3 tyX3_ok nmX3 hown hG.1 hP hD hS 0 rfl rfl 12 (by decide) (hts (.fieldLink RX3 41 "TableSpliceModel" "thrown" "I") (List.mem_of_getElem? (i := 1) rfl)) (fun _ h9 => h9) rfl (by decide +kernel) rfl rfl (Nat.le_of_ble_eq_true rfl) dX3_open_2 (fun H locs hP hD hS => ?_)
  have hP : va_P D vwCl (wN cyI cyZ ad mc mw mn me mu mr mz mf 0) H := hP
  have hD : va_D A (wN cyI cyZ ad mc mw mn me mu mr mz mf 0) := hD
  refine lv_aload_n hx hb dX3_open_5 rfl (lv_at hl 0 rfl) ?_
  refine pr_i (va_runV (As := []) (rest := []) ⟨hx, hb, hml, hown, hts⟩ (k_X3_left l D cyI cyZ ad mc mw mn me mu mr mz mf 0 (by first | omega | (simp only [l1_lists]; omega))) (cwV 0 hts gX3_open_X3_left rfl rfl rfl (by decide +kernel) ⟨Nat.le_of_ble_eq_true rfl, Nat.le_of_ble_eq_true rfl⟩) (prV hG hP (ci := 3) rfl rfl rfl) rfl rfl hl.1 rfl (lv_room (Nat.le_of_ble_eq_true rfl)) dX3_open_6 ⟨Nat.zero_le _, Nat.zero_le _⟩) hS hP (fun H locs hP hS => ?_)
  have ef : f_X3_open mz = (f_X3_left mz, 0) := by rw [f_X3_open]
  exact W.iret (v := f_X3_left mz) hx hb hr (fun t ht hW => ⟨⟨f_X3_left mz, (), rfl, by rw [ef], by rw [ht, ef]; exact hP, by rw [ef]; exact hD⟩, hS.F ht⟩) hS.2.2 dX3_open_9
def f_X3_accept (mc : Nat → Int32) (mw : Nat → Int32) (mn : Nat → Int32) (me : Nat → Int32) (mz : Kr) (mf : Int32) : Int32 × (Nat → Int32) × (Nat → Int32) × (Nat → Int32) × (Nat → Int32) × Kr × Int32 × Int32 := if mf = 0 then ((0, mc, mw, mn, me, mz, mf, 1)) else (if (f_X3_left mz) = 0 then (((f_X3_forks ((f_X3_copies mc mw mn me 3 0).1) ((f_X3_copies mc mw mn me 3 0).2.1) ((f_X3_copies mc mw mn me 3 0).2.2.1) ((f_X3_copies mc mw mn me 3 0).2.2.2) mz).1, ((f_X3_forks ((f_X3_copies mc mw mn me 3 0).1) ((f_X3_copies mc mw mn me 3 0).2.1) ((f_X3_copies mc mw mn me 3 0).2.2.1) ((f_X3_copies mc mw mn me 3 0).2.2.2) mz).2.1), ((f_X3_forks ((f_X3_copies mc mw mn me 3 0).1) ((f_X3_copies mc mw mn me 3 0).2.1) ((f_X3_copies mc mw mn me 3 0).2.2.1) ((f_X3_copies mc mw mn me 3 0).2.2.2) mz).2.2.1), ((f_X3_forks ((f_X3_copies mc mw mn me 3 0).1) ((f_X3_copies mc mw mn me 3 0).2.1) ((f_X3_copies mc mw mn me 3 0).2.2.1) ((f_X3_copies mc mw mn me 3 0).2.2.2) mz).2.2.2.1), ((f_X3_forks ((f_X3_copies mc mw mn me 3 0).1) ((f_X3_copies mc mw mn me 3 0).2.1) ((f_X3_copies mc mw mn me 3 0).2.2.1) ((f_X3_copies mc mw mn me 3 0).2.2.2) mz).2.2.2.2.1), ((f_X3_forks ((f_X3_copies mc mw mn me 3 0).1) ((f_X3_copies mc mw mn me 3 0).2.1) ((f_X3_copies mc mw mn me 3 0).2.2.1) ((f_X3_copies mc mw mn me 3 0).2.2.2) mz).2.2.2.2.2.1), ((f_X3_forks ((f_X3_copies mc mw mn me 3 0).1) ((f_X3_copies mc mw mn me 3 0).2.1) ((f_X3_copies mc mw mn me 3 0).2.2.1) ((f_X3_copies mc mw mn me 3 0).2.2.2) mz).2.2.2.2.2.2), 0)) else ((0, mc, mw, mn, me, mz, mf, 1)))
theorem uin_X3_accept_X3 : ∀ w ∈ wsX30, w ∈ wsX3_accept := fun _ h => List.mem_cons_of_mem _ (List.mem_append_right _ h)
set_option maxHeartbeats 4000000 in
set_option maxRecDepth 100000 in
theorem k_X3_accept (l : Launch) (D : va_G) (cyI cyZ : ClassId) (ad : Nat → Nat) (mc : Nat → Int32) (mw : Nat → Int32) (mn : Nat → Int32) (me : Nat → Int32) (mu : Nat → Int32) (mr : Nat → Int32) (mz : Kr) (mf : Int32) (mt : Int32) (A : Nat → Prop) (sz : Nat) (hAe : A = va_A (wN cyI cyZ ad mc mw mn me mu mr mz mf mt) sz) (hm : mz.1 ≤ 440) : Met l yX3_accept wsX3_accept ({ frames := 2, cells := 0, slots := 0, locals := 43 } : Room) (pcM D cyI cyZ sz [.ref (ad 0)] (wN cyI cyZ ad mc mw mn me mu mr mz mf mt)) (mI D A (wN cyI cyZ ad (f_X3_accept mc mw mn me mz mf).2.1 (f_X3_accept mc mw mn me mz mf).2.2.1 (f_X3_accept mc mw mn me mz mf).2.2.2.1 (f_X3_accept mc mw mn me mz mf).2.2.2.2.1 mu mr (f_X3_accept mc mw mn me mz mf).2.2.2.2.2.1 (f_X3_accept mc mw mn me mz mf).2.2.2.2.2.2.1 (f_X3_accept mc mw mn me mz mf).2.2.2.2.2.2.2) (f_X3_accept mc mw mn me mz mf).1) 0 0 A := by
  refine Met.ofW (cc := cX3_accept) (maxL := 1) (ret := (some .int)) (by decide) rfl ?_
  intro p e s m args below meth c s₁ B hml hv
  obtain ⟨rfl, hsz, hP, hG, hD0⟩ := hv
  have hx := B.exec
  have hb := B.bytes
  have hr := B.returns
  have hts := atoms_spec (ws := wsX3_accept) B.pre
  have hown : s.vm.findClass RX3 = some m.cls := findClass_of_methodNamed B.named
  have hlocks := B.notSynchronized
  subst hsz
  have hD : va_D A (wN cyI cyZ ad mc mw mn me mu mr mz mf mt) := by rw [hAe]; exact hD0.self
  have hA : ∀ q : Nat, s.heap.size ≤ q → A q := fun q h => by rw [hAe]; exact Or.inr h
  clear hAe hD0
  have hS : va_S nA s.heap s.heap [] := va_S.rf
  have hl := lv_entry ([.ref (ad 0)]) (n := 1) (Nat.le_of_ble_eq_true rfl)
  rw [lg_entry_eq]
  generalize (lg_sl ([.ref (ad 0)]) ++ List.replicate (1 - (lg_sl ([.ref (ad 0)])).length) Slot.unset).toArray = ls at hl ⊢
  have hl : lv_has ls 1 [(0, .ref (ad 0))] := hl
  have hP : va_P D vwCl (wN cyI cyZ ad mc mw mn me mu mr mz mf mt) s.heap := hP
  refine lv_aload_n hx hb dX3_accept_0 rfl (lv_at hl 0 rfl) ?_
  refine lv_aload_n hx hb dX3_accept_1 rfl (lv_at hl 0 rfl) ?_
  refine va_get (D := D) (ci := 3) (v := .int mf) (C := RX3) (T := TX3) (N := 13) hx hb hts uin_X3_accept_X3 hown hG.1 hP 0 rfl rfl 7 (by decide) (hts (.fieldLink RX3 56 "TableSpliceModel" "fresh" "Z") (List.mem_of_getElem? (i := 1) rfl)) (fun _ h9 => h9) rfl dX3_accept_2 ?_
  refine lv_if_eq (tgt := 19) hx hb dX3_accept_5 (by decide) (fun c_5 => ?_) (fun c_5 => ?_)
  · refine lv_iconst (v := 1) hx hb dX3_accept_19 (by decide) ?_
    have hS := sw_n (B := A) hS
    refine va_put (D := D) (ci := 3) (v := .int 1) (ty := .int) (C := RX3) (T := TX3) (N := 13) hx hb hts uin_X3_accept_X3 tyX3 tyX3_ok nmX3 hown hG.1 hP hD hS 0 rfl rfl 12 (by decide) (hts (.fieldLink RX3 41 "TableSpliceModel" "thrown" "I") (List.mem_of_getElem? (i := 2) rfl)) (fun _ h9 => h9) rfl (by decide +kernel) rfl rfl (Nat.le_of_ble_eq_true rfl) dX3_accept_20 (fun H locs hP hD hS => ?_)
    have hP : va_P D vwCl (wN cyI cyZ ad mc mw mn me mu mr mz mf 1) H := hP
    have hD : va_D A (wN cyI cyZ ad mc mw mn me mu mr mz mf 1) := hD
    refine lv_aload_n hx hb dX3_accept_23 rfl (lv_at hl 0 rfl) ?_
    refine va_get (D := D) (ci := 3) (v := .int 1) (C := RX3) (T := TX3) (N := 13) hx hb hts uin_X3_accept_X3 hown hG.1 hP 0 rfl rfl 12 (by decide) (hts (.fieldLink RX3 41 "TableSpliceModel" "thrown" "I") (List.mem_of_getElem? (i := 2) rfl)) (fun _ h9 => h9) rfl dX3_accept_24 ?_
    refine lv_if_le (tgt := 32) hx hb dX3_accept_27 (by decide) (fun c_27 => ?_) (fun c_27 => ?_)
    · exact absurd c_27 (by decide)
    · refine lv_iconst (v := 0) hx hb dX3_accept_30 (by decide) ?_
      have ef : f_X3_accept mc mw mn me mz mf = (0, mc, mw, mn, me, mz, mf, 1) := by rw [f_X3_accept, if_pos c_5]
      exact W.iret (v := 0) hx hb hr (fun t ht hW => ⟨⟨0, (), rfl, by rw [ef], by rw [ht, ef]; exact hP, by rw [ef]; exact hD⟩, hS.F ht⟩) hS.2.2 dX3_accept_31
  · refine lv_aload_n hx hb dX3_accept_8 rfl (lv_at hl 0 rfl) ?_
    refine pr_i (va_runV (As := []) (rest := [.ref (ad 0)]) ⟨hx, hb, hml, hown, hts⟩ (k_X3_left l D cyI cyZ ad mc mw mn me mu mr mz mf mt (by first | omega | (simp only [l1_lists]; omega))) (cwV 0 hts gX3_accept_X3_left rfl rfl rfl (by decide +kernel) ⟨Nat.le_of_ble_eq_true rfl, Nat.le_of_ble_eq_true rfl⟩) (prV hG hP (ci := 3) rfl rfl rfl) rfl rfl hl.1 rfl (lv_room (Nat.le_of_ble_eq_true rfl)) dX3_accept_9 ⟨Nat.zero_le _, Nat.zero_le _⟩) hS hP (fun H locs hP hS => ?_)
    refine lv_if_ne (tgt := 19) hx hb dX3_accept_12 (by decide) (fun c_12 => ?_) (fun c_12 => ?_)
    · refine lv_iconst (v := 1) hx hb dX3_accept_19 (by decide) ?_
      have hS := sw_n (B := A) hS
      refine va_put (D := D) (ci := 3) (v := .int 1) (ty := .int) (C := RX3) (T := TX3) (N := 13) hx hb hts uin_X3_accept_X3 tyX3 tyX3_ok nmX3 hown hG.1 hP hD hS 0 rfl rfl 12 (by decide) (hts (.fieldLink RX3 41 "TableSpliceModel" "thrown" "I") (List.mem_of_getElem? (i := 2) rfl)) (fun _ h9 => h9) rfl (by decide +kernel) rfl rfl (Nat.le_of_ble_eq_true rfl) dX3_accept_20 (fun H locs hP hD hS => ?_)
      have hP : va_P D vwCl (wN cyI cyZ ad mc mw mn me mu mr mz mf 1) H := hP
      have hD : va_D A (wN cyI cyZ ad mc mw mn me mu mr mz mf 1) := hD
      refine lv_aload_n hx hb dX3_accept_23 rfl (lv_at hl 0 rfl) ?_
      refine va_get (D := D) (ci := 3) (v := .int 1) (C := RX3) (T := TX3) (N := 13) hx hb hts uin_X3_accept_X3 hown hG.1 hP 0 rfl rfl 12 (by decide) (hts (.fieldLink RX3 41 "TableSpliceModel" "thrown" "I") (List.mem_of_getElem? (i := 2) rfl)) (fun _ h9 => h9) rfl dX3_accept_24 ?_
      refine lv_if_le (tgt := 32) hx hb dX3_accept_27 (by decide) (fun c_27 => ?_) (fun c_27 => ?_)
      · exact absurd c_27 (by decide)
      · refine lv_iconst (v := 0) hx hb dX3_accept_30 (by decide) ?_
        have ef : f_X3_accept mc mw mn me mz mf = (0, mc, mw, mn, me, mz, mf, 1) := by rw [f_X3_accept, if_neg c_5, if_neg c_12]
        exact W.iret (v := 0) hx hb hr (fun t ht hW => ⟨⟨0, (), rfl, by rw [ef], by rw [ht, ef]; exact hP, by rw [ef]; exact hD⟩, hS.F ht⟩) hS.2.2 dX3_accept_31
    · refine lv_iconst (v := 0) hx hb dX3_accept_15 (by decide) ?_
      refine lv_goto (tgt := 20) hx hb dX3_accept_16 (by decide) ?_
      have hS := sw_n (B := A) hS
      refine va_put (D := D) (ci := 3) (v := .int 0) (ty := .int) (C := RX3) (T := TX3) (N := 13) hx hb hts uin_X3_accept_X3 tyX3 tyX3_ok nmX3 hown hG.1 hP hD hS 0 rfl rfl 12 (by decide) (hts (.fieldLink RX3 41 "TableSpliceModel" "thrown" "I") (List.mem_of_getElem? (i := 2) rfl)) (fun _ h9 => h9) rfl (by decide +kernel) rfl rfl (Nat.le_of_ble_eq_true rfl) dX3_accept_20 (fun H locs hP hD hS => ?_)
      have hP : va_P D vwCl (wN cyI cyZ ad mc mw mn me mu mr mz mf 0) H := hP
      have hD : va_D A (wN cyI cyZ ad mc mw mn me mu mr mz mf 0) := hD
      refine lv_aload_n hx hb dX3_accept_23 rfl (lv_at hl 0 rfl) ?_
      refine va_get (D := D) (ci := 3) (v := .int 0) (C := RX3) (T := TX3) (N := 13) hx hb hts uin_X3_accept_X3 hown hG.1 hP 0 rfl rfl 12 (by decide) (hts (.fieldLink RX3 41 "TableSpliceModel" "thrown" "I") (List.mem_of_getElem? (i := 2) rfl)) (fun _ h9 => h9) rfl dX3_accept_24 ?_
      refine lv_if_le (tgt := 32) hx hb dX3_accept_27 (by decide) (fun c_27 => ?_) (fun c_27 => ?_)
      · refine lv_aload_n hx hb dX3_accept_32 rfl (lv_at hl 0 rfl) ?_
        refine lv_iconst (v := 3) hx hb dX3_accept_33 (by decide) ?_
        refine lv_iconst (v := 0) hx hb dX3_accept_34 (by decide) ?_
        refine mr_v0 (va_runV (As := [.int 3, .int 0]) (rest := []) ⟨hx, hb, hml, hown, hts⟩ (k_X3_copies l D cyI cyZ ad mc mw mn me mu mr mz mf 0 3 0 _ _ rfl (vp_in_nI (n := 3) (N := 4) (by decide) (by decide)) (vi_mono (vp_in_nI (n := 0) (N := 1) (by decide) (by decide)) (by decide))) (cwV 2 hts gX3_accept_X3_copies rfl rfl rfl (by decide +kernel) ⟨Nat.le_of_ble_eq_true rfl, Nat.le_of_ble_eq_true rfl⟩) (pmV hG hP hD (ci := 3) rfl rfl rfl) rfl rfl hl.1 rfl (lv_room (Nat.le_of_ble_eq_true rfl)) dX3_accept_35 ⟨Nat.zero_le _, Nat.zero_le _⟩) hD hS hA (fun H locs hP hD hS => ?_)
        have hP : va_P D vwCl (wN cyI cyZ ad ((f_X3_copies mc mw mn me 3 0).1) ((f_X3_copies mc mw mn me 3 0).2.1) ((f_X3_copies mc mw mn me 3 0).2.2.1) ((f_X3_copies mc mw mn me 3 0).2.2.2) mu mr mz mf 0) H := hP
        have hD : va_D A (wN cyI cyZ ad ((f_X3_copies mc mw mn me 3 0).1) ((f_X3_copies mc mw mn me 3 0).2.1) ((f_X3_copies mc mw mn me 3 0).2.2.1) ((f_X3_copies mc mw mn me 3 0).2.2.2) mu mr mz mf 0) := hD
        refine lv_aload_n hx hb dX3_accept_38 rfl (lv_at hl 0 rfl) ?_
        refine mr_i0 (va_runV (As := []) (rest := []) ⟨hx, hb, hml, hown, hts⟩ (k_X3_forks l D cyI cyZ ad ((f_X3_copies mc mw mn me 3 0).1) ((f_X3_copies mc mw mn me 3 0).2.1) ((f_X3_copies mc mw mn me 3 0).2.2.1) ((f_X3_copies mc mw mn me 3 0).2.2.2) mu mr mz mf 0 _ _ rfl) (cwV 0 hts gX3_accept_X3_forks rfl rfl rfl (by decide +kernel) ⟨Nat.le_of_ble_eq_true rfl, Nat.le_of_ble_eq_true rfl⟩) (pmV hG hP hD (ci := 3) rfl rfl rfl) rfl rfl hl.1 rfl (lv_room (Nat.le_of_ble_eq_true rfl)) dX3_accept_39 ⟨Nat.zero_le _, Nat.zero_le _⟩) hD hS hA (fun H locs hP hD hS => ?_)
        have hP : va_P D vwCl (wN cyI cyZ ad ((f_X3_forks ((f_X3_copies mc mw mn me 3 0).1) ((f_X3_copies mc mw mn me 3 0).2.1) ((f_X3_copies mc mw mn me 3 0).2.2.1) ((f_X3_copies mc mw mn me 3 0).2.2.2) mz).2.1) ((f_X3_forks ((f_X3_copies mc mw mn me 3 0).1) ((f_X3_copies mc mw mn me 3 0).2.1) ((f_X3_copies mc mw mn me 3 0).2.2.1) ((f_X3_copies mc mw mn me 3 0).2.2.2) mz).2.2.1) ((f_X3_forks ((f_X3_copies mc mw mn me 3 0).1) ((f_X3_copies mc mw mn me 3 0).2.1) ((f_X3_copies mc mw mn me 3 0).2.2.1) ((f_X3_copies mc mw mn me 3 0).2.2.2) mz).2.2.2.1) ((f_X3_forks ((f_X3_copies mc mw mn me 3 0).1) ((f_X3_copies mc mw mn me 3 0).2.1) ((f_X3_copies mc mw mn me 3 0).2.2.1) ((f_X3_copies mc mw mn me 3 0).2.2.2) mz).2.2.2.2.1) mu mr ((f_X3_forks ((f_X3_copies mc mw mn me 3 0).1) ((f_X3_copies mc mw mn me 3 0).2.1) ((f_X3_copies mc mw mn me 3 0).2.2.1) ((f_X3_copies mc mw mn me 3 0).2.2.2) mz).2.2.2.2.2.1) ((f_X3_forks ((f_X3_copies mc mw mn me 3 0).1) ((f_X3_copies mc mw mn me 3 0).2.1) ((f_X3_copies mc mw mn me 3 0).2.2.1) ((f_X3_copies mc mw mn me 3 0).2.2.2) mz).2.2.2.2.2.2) 0) H := hP
        have hD : va_D A (wN cyI cyZ ad ((f_X3_forks ((f_X3_copies mc mw mn me 3 0).1) ((f_X3_copies mc mw mn me 3 0).2.1) ((f_X3_copies mc mw mn me 3 0).2.2.1) ((f_X3_copies mc mw mn me 3 0).2.2.2) mz).2.1) ((f_X3_forks ((f_X3_copies mc mw mn me 3 0).1) ((f_X3_copies mc mw mn me 3 0).2.1) ((f_X3_copies mc mw mn me 3 0).2.2.1) ((f_X3_copies mc mw mn me 3 0).2.2.2) mz).2.2.1) ((f_X3_forks ((f_X3_copies mc mw mn me 3 0).1) ((f_X3_copies mc mw mn me 3 0).2.1) ((f_X3_copies mc mw mn me 3 0).2.2.1) ((f_X3_copies mc mw mn me 3 0).2.2.2) mz).2.2.2.1) ((f_X3_forks ((f_X3_copies mc mw mn me 3 0).1) ((f_X3_copies mc mw mn me 3 0).2.1) ((f_X3_copies mc mw mn me 3 0).2.2.1) ((f_X3_copies mc mw mn me 3 0).2.2.2) mz).2.2.2.2.1) mu mr ((f_X3_forks ((f_X3_copies mc mw mn me 3 0).1) ((f_X3_copies mc mw mn me 3 0).2.1) ((f_X3_copies mc mw mn me 3 0).2.2.1) ((f_X3_copies mc mw mn me 3 0).2.2.2) mz).2.2.2.2.2.1) ((f_X3_forks ((f_X3_copies mc mw mn me 3 0).1) ((f_X3_copies mc mw mn me 3 0).2.1) ((f_X3_copies mc mw mn me 3 0).2.2.1) ((f_X3_copies mc mw mn me 3 0).2.2.2) mz).2.2.2.2.2.2) 0) := hD
        have ef : f_X3_accept mc mw mn me mz mf = ((f_X3_forks ((f_X3_copies mc mw mn me 3 0).1) ((f_X3_copies mc mw mn me 3 0).2.1) ((f_X3_copies mc mw mn me 3 0).2.2.1) ((f_X3_copies mc mw mn me 3 0).2.2.2) mz).1, ((f_X3_forks ((f_X3_copies mc mw mn me 3 0).1) ((f_X3_copies mc mw mn me 3 0).2.1) ((f_X3_copies mc mw mn me 3 0).2.2.1) ((f_X3_copies mc mw mn me 3 0).2.2.2) mz).2.1), ((f_X3_forks ((f_X3_copies mc mw mn me 3 0).1) ((f_X3_copies mc mw mn me 3 0).2.1) ((f_X3_copies mc mw mn me 3 0).2.2.1) ((f_X3_copies mc mw mn me 3 0).2.2.2) mz).2.2.1), ((f_X3_forks ((f_X3_copies mc mw mn me 3 0).1) ((f_X3_copies mc mw mn me 3 0).2.1) ((f_X3_copies mc mw mn me 3 0).2.2.1) ((f_X3_copies mc mw mn me 3 0).2.2.2) mz).2.2.2.1), ((f_X3_forks ((f_X3_copies mc mw mn me 3 0).1) ((f_X3_copies mc mw mn me 3 0).2.1) ((f_X3_copies mc mw mn me 3 0).2.2.1) ((f_X3_copies mc mw mn me 3 0).2.2.2) mz).2.2.2.2.1), ((f_X3_forks ((f_X3_copies mc mw mn me 3 0).1) ((f_X3_copies mc mw mn me 3 0).2.1) ((f_X3_copies mc mw mn me 3 0).2.2.1) ((f_X3_copies mc mw mn me 3 0).2.2.2) mz).2.2.2.2.2.1), ((f_X3_forks ((f_X3_copies mc mw mn me 3 0).1) ((f_X3_copies mc mw mn me 3 0).2.1) ((f_X3_copies mc mw mn me 3 0).2.2.1) ((f_X3_copies mc mw mn me 3 0).2.2.2) mz).2.2.2.2.2.2), 0) := by rw [f_X3_accept, if_neg c_5, if_pos c_12]
        exact W.iret (v := (f_X3_forks ((f_X3_copies mc mw mn me 3 0).1) ((f_X3_copies mc mw mn me 3 0).2.1) ((f_X3_copies mc mw mn me 3 0).2.2.1) ((f_X3_copies mc mw mn me 3 0).2.2.2) mz).1) hx hb hr (fun t ht hW => ⟨⟨(f_X3_forks ((f_X3_copies mc mw mn me 3 0).1) ((f_X3_copies mc mw mn me 3 0).2.1) ((f_X3_copies mc mw mn me 3 0).2.2.1) ((f_X3_copies mc mw mn me 3 0).2.2.2) mz).1, (), rfl, by rw [ef], by rw [ht, ef]; exact hP, by rw [ef]; exact hD⟩, hS.F ht⟩) hS.2.2 dX3_accept_42
      · exact absurd (by decide) c_27
def f_X3_cellByChanges (mc : Nat → Int32) (mw : Nat → Int32) (mn : Nat → Int32) (me : Nat → Int32) (mu : Nat → Int32) (p1 : Int32) (p2 : Int32) : Int32 × Int32 := if (f_X3_isIn p1 0 23) = 0 then ((0, 1)) else (if (f_X3_isIn p2 0 7) = 0 then ((0, 1)) else (if (f_X3_mergedRow mc mw me p1) ≤ 0 then (0, 0) else (if (f_X3_mergedColumn mc mw mn me p2) ≤ 0 then (0, 0) else (f_X3_mergedCell mc mw me mu p1 p2, 0))))
theorem uin_X3_cellByChanges_X3 : ∀ w ∈ wsX30, w ∈ wsX3_cellByChanges := fun _ h => List.mem_cons_of_mem _ (List.mem_append_right _ h)
set_option maxHeartbeats 4000000 in
set_option maxRecDepth 100000 in
theorem k_X3_cellByChanges (l : Launch) (D : va_G) (cyI cyZ : ClassId) (ad : Nat → Nat) (mc : Nat → Int32) (mw : Nat → Int32) (mn : Nat → Int32) (me : Nat → Int32) (mu : Nat → Int32) (mr : Nat → Int32) (mz : Kr) (mf : Int32) (mt : Int32) (p1 : Int32) (p2 : Int32) (A : Nat → Prop) (sz : Nat) (hAe : A = va_A (wN cyI cyZ ad mc mw mn me mu mr mz mf mt) sz) : Met l yX3_cellByChanges wsX3_cellByChanges ({ frames := 5, cells := 0, slots := 0, locals := 114 } : Room) (pcM D cyI cyZ sz [.ref (ad 0), .int p1, .int p2] (wN cyI cyZ ad mc mw mn me mu mr mz mf mt)) (mI D A (wN cyI cyZ ad mc mw mn me mu mr mz mf (f_X3_cellByChanges mc mw mn me mu p1 p2).2) (f_X3_cellByChanges mc mw mn me mu p1 p2).1) 0 0 A := by
  refine Met.ofW (cc := cX3_cellByChanges) (maxL := 3) (ret := (some .int)) (by decide) rfl ?_
  intro p e s m args below meth c s₁ B hml hv
  obtain ⟨rfl, hsz, hP, hG, hD0⟩ := hv
  have hx := B.exec
  have hb := B.bytes
  have hr := B.returns
  have hts := atoms_spec (ws := wsX3_cellByChanges) B.pre
  have hown : s.vm.findClass RX3 = some m.cls := findClass_of_methodNamed B.named
  have hlocks := B.notSynchronized
  subst hsz
  have hD : va_D A (wN cyI cyZ ad mc mw mn me mu mr mz mf mt) := by rw [hAe]; exact hD0.self
  have hA : ∀ q : Nat, s.heap.size ≤ q → A q := fun q h => by rw [hAe]; exact Or.inr h
  clear hAe hD0
  have hS : va_S nA s.heap s.heap [] := va_S.rf
  have hl := lv_entry ([.ref (ad 0), .int p1, .int p2]) (n := 3) (Nat.le_of_ble_eq_true rfl)
  rw [lg_entry_eq]
  generalize (lg_sl ([.ref (ad 0), .int p1, .int p2]) ++ List.replicate (3 - (lg_sl ([.ref (ad 0), .int p1, .int p2])).length) Slot.unset).toArray = ls at hl ⊢
  have hl : lv_has ls 3 [(0, .ref (ad 0)), (1, .int p1), (2, .int p2)] := hl
  have hP : va_P D vwCl (wN cyI cyZ ad mc mw mn me mu mr mz mf mt) s.heap := hP
  refine lv_aload_n hx hb dX3_cellByChanges_0 rfl (lv_at hl 0 rfl) ?_
  refine lv_iload_n hx hb dX3_cellByChanges_1 rfl (lv_at hl 1 rfl) ?_
  refine lv_iconst (v := 0) hx hb dX3_cellByChanges_2 (by decide) ?_
  refine lv_bipush (v := 23) hx hb dX3_cellByChanges_3 (by decide) ?_
  refine pr_i (va_runS (As := [.int p1, .int 0, .int 23]) (rest := [.ref (ad 0)]) ⟨hx, hb, hml, hown, hts⟩ (k_X3_isIn l D cyI cyZ p1 0 23) (va_cwS 3 hts gX3_cellByChanges_X3_isIn rfl rfl rfl (by decide +kernel) ⟨Nat.le_of_ble_eq_true rfl, Nat.le_of_ble_eq_true rfl⟩) (prS hG (hP.sub (ws' := []) [] rfl)) rfl rfl hl.1 rfl (lv_room (Nat.le_of_ble_eq_true rfl)) dX3_cellByChanges_5 ⟨Nat.zero_le _, Nat.zero_le _⟩) hS hP (fun H locs hP hS => ?_)
  refine lv_if_eq (tgt := 25) hx hb dX3_cellByChanges_8 (by decide) (fun c_8 => ?_) (fun c_8 => ?_)
  · refine lv_iconst (v := 1) hx hb dX3_cellByChanges_25 (by decide) ?_
    have hS := sw_n (B := A) hS
    refine va_put (D := D) (ci := 3) (v := .int 1) (ty := .int) (C := RX3) (T := TX3) (N := 13) hx hb hts uin_X3_cellByChanges_X3 tyX3 tyX3_ok nmX3 hown hG.1 hP hD hS 0 rfl rfl 12 (by decide) (hts (.fieldLink RX3 41 "TableSpliceModel" "thrown" "I") (List.mem_of_getElem? (i := 1) rfl)) (fun _ h9 => h9) rfl (by decide +kernel) rfl rfl (Nat.le_of_ble_eq_true rfl) dX3_cellByChanges_26 (fun H locs hP hD hS => ?_)
    have hP : va_P D vwCl (wN cyI cyZ ad mc mw mn me mu mr mz mf 1) H := hP
    have hD : va_D A (wN cyI cyZ ad mc mw mn me mu mr mz mf 1) := hD
    refine lv_aload_n hx hb dX3_cellByChanges_29 rfl (lv_at hl 0 rfl) ?_
    refine va_get (D := D) (ci := 3) (v := .int 1) (C := RX3) (T := TX3) (N := 13) hx hb hts uin_X3_cellByChanges_X3 hown hG.1 hP 0 rfl rfl 12 (by decide) (hts (.fieldLink RX3 41 "TableSpliceModel" "thrown" "I") (List.mem_of_getElem? (i := 1) rfl)) (fun _ h9 => h9) rfl dX3_cellByChanges_30 ?_
    refine lv_if_ne (tgt := 61) hx hb dX3_cellByChanges_33 (by decide) (fun c_33 => ?_) (fun c_33 => ?_)
    · refine lv_iconst (v := 0) hx hb dX3_cellByChanges_61 (by decide) ?_
      have ef : f_X3_cellByChanges mc mw mn me mu p1 p2 = (0, 1) := by rw [f_X3_cellByChanges, if_pos c_8]
      exact W.iret (v := 0) hx hb hr (fun t ht hW => ⟨⟨0, (), rfl, by rw [ef], by rw [ht, ef]; exact hP, by rw [ef]; exact hD⟩, hS.F ht⟩) hS.2.2 dX3_cellByChanges_62
    · exact absurd c_33 (by decide)
  · refine lv_iload_n hx hb dX3_cellByChanges_11 rfl (lv_at hl 2 rfl) ?_
    refine lv_iconst (v := 0) hx hb dX3_cellByChanges_12 (by decide) ?_
    refine lv_bipush (v := 7) hx hb dX3_cellByChanges_13 (by decide) ?_
    refine pr_i (va_runS (As := [.int p2, .int 0, .int 7]) (rest := [.ref (ad 0)]) ⟨hx, hb, hml, hown, hts⟩ (k_X3_isIn l D cyI cyZ p2 0 7) (va_cwS 3 hts gX3_cellByChanges_X3_isIn rfl rfl rfl (by decide +kernel) ⟨Nat.le_of_ble_eq_true rfl, Nat.le_of_ble_eq_true rfl⟩) (prS hG (hP.sub (ws' := []) [] rfl)) rfl rfl hl.1 rfl (lv_room (Nat.le_of_ble_eq_true rfl)) dX3_cellByChanges_15 ⟨Nat.zero_le _, Nat.zero_le _⟩) hS hP (fun H locs hP hS => ?_)
    refine lv_if_eq (tgt := 25) hx hb dX3_cellByChanges_18 (by decide) (fun c_18 => ?_) (fun c_18 => ?_)
    · refine lv_iconst (v := 1) hx hb dX3_cellByChanges_25 (by decide) ?_
      have hS := sw_n (B := A) hS
      refine va_put (D := D) (ci := 3) (v := .int 1) (ty := .int) (C := RX3) (T := TX3) (N := 13) hx hb hts uin_X3_cellByChanges_X3 tyX3 tyX3_ok nmX3 hown hG.1 hP hD hS 0 rfl rfl 12 (by decide) (hts (.fieldLink RX3 41 "TableSpliceModel" "thrown" "I") (List.mem_of_getElem? (i := 1) rfl)) (fun _ h9 => h9) rfl (by decide +kernel) rfl rfl (Nat.le_of_ble_eq_true rfl) dX3_cellByChanges_26 (fun H locs hP hD hS => ?_)
      have hP : va_P D vwCl (wN cyI cyZ ad mc mw mn me mu mr mz mf 1) H := hP
      have hD : va_D A (wN cyI cyZ ad mc mw mn me mu mr mz mf 1) := hD
      refine lv_aload_n hx hb dX3_cellByChanges_29 rfl (lv_at hl 0 rfl) ?_
      refine va_get (D := D) (ci := 3) (v := .int 1) (C := RX3) (T := TX3) (N := 13) hx hb hts uin_X3_cellByChanges_X3 hown hG.1 hP 0 rfl rfl 12 (by decide) (hts (.fieldLink RX3 41 "TableSpliceModel" "thrown" "I") (List.mem_of_getElem? (i := 1) rfl)) (fun _ h9 => h9) rfl dX3_cellByChanges_30 ?_
      refine lv_if_ne (tgt := 61) hx hb dX3_cellByChanges_33 (by decide) (fun c_33 => ?_) (fun c_33 => ?_)
      · refine lv_iconst (v := 0) hx hb dX3_cellByChanges_61 (by decide) ?_
        have ef : f_X3_cellByChanges mc mw mn me mu p1 p2 = (0, 1) := by rw [f_X3_cellByChanges, if_neg c_8, if_pos c_18]
        exact W.iret (v := 0) hx hb hr (fun t ht hW => ⟨⟨0, (), rfl, by rw [ef], by rw [ht, ef]; exact hP, by rw [ef]; exact hD⟩, hS.F ht⟩) hS.2.2 dX3_cellByChanges_62
      · exact absurd c_33 (by decide)
    · refine lv_iconst (v := 0) hx hb dX3_cellByChanges_21 (by decide) ?_
      refine lv_goto (tgt := 26) hx hb dX3_cellByChanges_22 (by decide) ?_
      have hS := sw_n (B := A) hS
      refine va_put (D := D) (ci := 3) (v := .int 0) (ty := .int) (C := RX3) (T := TX3) (N := 13) hx hb hts uin_X3_cellByChanges_X3 tyX3 tyX3_ok nmX3 hown hG.1 hP hD hS 0 rfl rfl 12 (by decide) (hts (.fieldLink RX3 41 "TableSpliceModel" "thrown" "I") (List.mem_of_getElem? (i := 1) rfl)) (fun _ h9 => h9) rfl (by decide +kernel) rfl rfl (Nat.le_of_ble_eq_true rfl) dX3_cellByChanges_26 (fun H locs hP hD hS => ?_)
      have hP : va_P D vwCl (wN cyI cyZ ad mc mw mn me mu mr mz mf 0) H := hP
      have hD : va_D A (wN cyI cyZ ad mc mw mn me mu mr mz mf 0) := hD
      refine lv_aload_n hx hb dX3_cellByChanges_29 rfl (lv_at hl 0 rfl) ?_
      refine va_get (D := D) (ci := 3) (v := .int 0) (C := RX3) (T := TX3) (N := 13) hx hb hts uin_X3_cellByChanges_X3 hown hG.1 hP 0 rfl rfl 12 (by decide) (hts (.fieldLink RX3 41 "TableSpliceModel" "thrown" "I") (List.mem_of_getElem? (i := 1) rfl)) (fun _ h9 => h9) rfl dX3_cellByChanges_30 ?_
      refine lv_if_ne (tgt := 61) hx hb dX3_cellByChanges_33 (by decide) (fun c_33 => ?_) (fun c_33 => ?_)
      · exact absurd (by decide) c_33
      · refine lv_aload_n hx hb dX3_cellByChanges_36 rfl (lv_at hl 0 rfl) ?_
        refine lv_iload_n hx hb dX3_cellByChanges_37 rfl (lv_at hl 1 rfl) ?_
        refine pr_i (va_runV (As := [.int p1]) (rest := []) ⟨hx, hb, hml, hown, hts⟩ (k_X3_mergedRow l D cyI cyZ ad mc mw mn me mu mr mz mf 0 p1 (in_isIn (n := 23) rfl (by decide) c_8)) (cwV 1 hts gX3_cellByChanges_X3_mergedRow rfl rfl rfl (by decide +kernel) ⟨Nat.le_of_ble_eq_true rfl, Nat.le_of_ble_eq_true rfl⟩) (prV hG hP (ci := 3) rfl rfl rfl) rfl rfl hl.1 rfl (lv_room (Nat.le_of_ble_eq_true rfl)) dX3_cellByChanges_38 ⟨Nat.zero_le _, Nat.zero_le _⟩) hS hP (fun H locs hP hS => ?_)
        refine lv_if_le (tgt := 61) hx hb dX3_cellByChanges_41 (by decide) (fun c_41 => ?_) (fun c_41 => ?_)
        · refine lv_iconst (v := 0) hx hb dX3_cellByChanges_61 (by decide) ?_
          have ef : f_X3_cellByChanges mc mw mn me mu p1 p2 = (0, 0) := by rw [f_X3_cellByChanges, if_neg c_8, if_neg c_18, if_pos c_41]
          exact W.iret (v := 0) hx hb hr (fun t ht hW => ⟨⟨0, (), rfl, by rw [ef], by rw [ht, ef]; exact hP, by rw [ef]; exact hD⟩, hS.F ht⟩) hS.2.2 dX3_cellByChanges_62
        · refine lv_aload_n hx hb dX3_cellByChanges_44 rfl (lv_at hl 0 rfl) ?_
          refine lv_iload_n hx hb dX3_cellByChanges_45 rfl (lv_at hl 2 rfl) ?_
          refine pr_i (va_runV (As := [.int p2]) (rest := []) ⟨hx, hb, hml, hown, hts⟩ (k_X3_mergedColumn l D cyI cyZ ad mc mw mn me mu mr mz mf 0 p2 (in_isIn (n := 7) rfl (by decide) c_18)) (cwV 1 hts gX3_cellByChanges_X3_mergedColumn rfl rfl rfl (by decide +kernel) ⟨Nat.le_of_ble_eq_true rfl, Nat.le_of_ble_eq_true rfl⟩) (prV hG hP (ci := 3) rfl rfl rfl) rfl rfl hl.1 rfl (lv_room (Nat.le_of_ble_eq_true rfl)) dX3_cellByChanges_46 ⟨Nat.zero_le _, Nat.zero_le _⟩) hS hP (fun H locs hP hS => ?_)
          refine lv_if_le (tgt := 61) hx hb dX3_cellByChanges_49 (by decide) (fun c_49 => ?_) (fun c_49 => ?_)
          · refine lv_iconst (v := 0) hx hb dX3_cellByChanges_61 (by decide) ?_
            have ef : f_X3_cellByChanges mc mw mn me mu p1 p2 = (0, 0) := by rw [f_X3_cellByChanges, if_neg c_8, if_neg c_18, if_neg c_41, if_pos c_49]
            exact W.iret (v := 0) hx hb hr (fun t ht hW => ⟨⟨0, (), rfl, by rw [ef], by rw [ht, ef]; exact hP, by rw [ef]; exact hD⟩, hS.F ht⟩) hS.2.2 dX3_cellByChanges_62
          · refine lv_aload_n hx hb dX3_cellByChanges_52 rfl (lv_at hl 0 rfl) ?_
            refine lv_iload_n hx hb dX3_cellByChanges_53 rfl (lv_at hl 1 rfl) ?_
            refine lv_iload_n hx hb dX3_cellByChanges_54 rfl (lv_at hl 2 rfl) ?_
            refine pr_i (va_runV (As := [.int p1, .int p2]) (rest := []) ⟨hx, hb, hml, hown, hts⟩ (k_X3_mergedCell l D cyI cyZ ad mc mw mn me mu mr mz mf 0 p1 p2 (in_isIn (n := 23) rfl (by decide) c_8) (in_isIn (n := 7) rfl (by decide) c_18)) (cwV 2 hts gX3_cellByChanges_X3_mergedCell rfl rfl rfl (by decide +kernel) ⟨Nat.le_of_ble_eq_true rfl, Nat.le_of_ble_eq_true rfl⟩) (prV hG hP (ci := 3) rfl rfl rfl) rfl rfl hl.1 rfl (lv_room (Nat.le_of_ble_eq_true rfl)) dX3_cellByChanges_55 ⟨Nat.zero_le _, Nat.zero_le _⟩) hS hP (fun H locs hP hS => ?_)
            refine lv_goto (tgt := 62) hx hb dX3_cellByChanges_58 (by decide) ?_
            have ef : f_X3_cellByChanges mc mw mn me mu p1 p2 = (f_X3_mergedCell mc mw me mu p1 p2, 0) := by rw [f_X3_cellByChanges, if_neg c_8, if_neg c_18, if_neg c_41, if_neg c_49]
            exact W.iret (v := f_X3_mergedCell mc mw me mu p1 p2) hx hb hr (fun t ht hW => ⟨⟨f_X3_mergedCell mc mw me mu p1 p2, (), rfl, by rw [ef], by rw [ht, ef]; exact hP, by rw [ef]; exact hD⟩, hS.F ht⟩) hS.2.2 dX3_cellByChanges_62
def f_X3_conflicts (mz : Kr) : Int32 × Int32 := (nI mz.1, 0)
theorem uin_X3_conflicts_X3 : ∀ w ∈ wsX30, w ∈ wsX3_conflicts := fun _ h => List.mem_cons_of_mem _ (List.mem_append_right _ h)
set_option maxHeartbeats 4000000 in
set_option maxRecDepth 100000 in
theorem k_X3_conflicts (l : Launch) (D : va_G) (cyI cyZ : ClassId) (ad : Nat → Nat) (mc : Nat → Int32) (mw : Nat → Int32) (mn : Nat → Int32) (me : Nat → Int32) (mu : Nat → Int32) (mr : Nat → Int32) (mz : Kr) (mf : Int32) (mt : Int32) (A : Nat → Prop) (sz : Nat) (hAe : A = va_A (wN cyI cyZ ad mc mw mn me mu mr mz mf mt) sz) : Met l yX3_conflicts wsX3_conflicts ({ frames := 0, cells := 0, slots := 0, locals := 0 } : Room) (pcM D cyI cyZ sz [.ref (ad 0)] (wN cyI cyZ ad mc mw mn me mu mr mz mf mt)) (mI D A (wN cyI cyZ ad mc mw mn me mu mr mz mf (f_X3_conflicts mz).2) (f_X3_conflicts mz).1) 0 0 A := by
  refine Met.ofW (cc := cX3_conflicts) (maxL := 1) (ret := (some .int)) (by decide) rfl ?_
  intro p e s m args below meth c s₁ B hml hv
  obtain ⟨rfl, hsz, hP, hG, hD0⟩ := hv
  have hx := B.exec
  have hb := B.bytes
  have hr := B.returns
  have hts := atoms_spec (ws := wsX3_conflicts) B.pre
  have hown : s.vm.findClass RX3 = some m.cls := findClass_of_methodNamed B.named
  have hlocks := B.notSynchronized
  subst hsz
  have hD : va_D A (wN cyI cyZ ad mc mw mn me mu mr mz mf mt) := by rw [hAe]; exact hD0.self
  have hA : ∀ q : Nat, s.heap.size ≤ q → A q := fun q h => by rw [hAe]; exact Or.inr h
  clear hAe hD0
  have hS : va_S nA s.heap s.heap [] := va_S.rf
  have hl := lv_entry ([.ref (ad 0)]) (n := 1) (Nat.le_of_ble_eq_true rfl)
  rw [lg_entry_eq]
  generalize (lg_sl ([.ref (ad 0)]) ++ List.replicate (1 - (lg_sl ([.ref (ad 0)])).length) Slot.unset).toArray = ls at hl ⊢
  have hl : lv_has ls 1 [(0, .ref (ad 0))] := hl
  have hP : va_P D vwCl (wN cyI cyZ ad mc mw mn me mu mr mz mf mt) s.heap := hP
  refine lv_aload_n hx hb dX3_conflicts_0 rfl (lv_at hl 0 rfl) ?_
  refine lv_iconst (v := 0) hx hb dX3_conflicts_1 (by decide) ?_
  have hS := sw_n (B := A) hS
  refine va_put (D := D) (ci := 3) (v := .int 0) (ty := .int) (C := RX3) (T := TX3) (N := 13) hx hb hts uin_X3_conflicts_X3 tyX3 tyX3_ok nmX3 hown hG.1 hP hD hS 0 rfl rfl 12 (by decide) (hts (.fieldLink RX3 41 "TableSpliceModel" "thrown" "I") (List.mem_of_getElem? (i := 1) rfl)) (fun _ h9 => h9) rfl (by decide +kernel) rfl rfl (Nat.le_of_ble_eq_true rfl) dX3_conflicts_2 (fun H locs hP hD hS => ?_)
  have hP : va_P D vwCl (wN cyI cyZ ad mc mw mn me mu mr mz mf 0) H := hP
  have hD : va_D A (wN cyI cyZ ad mc mw mn me mu mr mz mf 0) := hD
  refine lv_aload_n hx hb dX3_conflicts_5 rfl (lv_at hl 0 rfl) ?_
  refine va_get (D := D) (ci := 3) (v := .int (nI mz.1)) (C := RX3) (T := TX3) (N := 13) hx hb hts uin_X3_conflicts_X3 hown hG.1 hP 0 rfl rfl 6 (by decide) (hts (.fieldLink RX3 97 "TableSpliceModel" "listed" "I") (List.mem_of_getElem? (i := 2) rfl)) (fun _ h9 => h9) rfl dX3_conflicts_6 ?_
  have ef : f_X3_conflicts mz = (nI mz.1, 0) := by rw [f_X3_conflicts]
  exact W.iret (v := nI mz.1) hx hb hr (fun t ht hW => ⟨⟨nI mz.1, (), rfl, by rw [ef], by rw [ht, ef]; exact hP, by rw [ef]; exact hD⟩, hS.F ht⟩) hS.2.2 dX3_conflicts_9
def f_X3_isListed (mz : Kr) (p1 : Int32) : Int32 × Int32 := if (f_X3_isIn p1 0 ((nI mz.1) - 1)) = 0 then ((0, 1)) else ((1, 0))
theorem uin_X3_isListed_X3 : ∀ w ∈ wsX30, w ∈ wsX3_isListed := fun _ h => List.mem_cons_of_mem _ (List.mem_append_right _ h)
set_option maxHeartbeats 4000000 in
set_option maxRecDepth 100000 in
theorem k_X3_isListed (l : Launch) (D : va_G) (cyI cyZ : ClassId) (ad : Nat → Nat) (mc : Nat → Int32) (mw : Nat → Int32) (mn : Nat → Int32) (me : Nat → Int32) (mu : Nat → Int32) (mr : Nat → Int32) (mz : Kr) (mf : Int32) (mt : Int32) (p1 : Int32) (A : Nat → Prop) (sz : Nat) (hAe : A = va_A (wN cyI cyZ ad mc mw mn me mu mr mz mf mt) sz) : Met l yX3_isListed wsX3_isListed ({ frames := 1, cells := 0, slots := 0, locals := 22 } : Room) (pcM D cyI cyZ sz [.ref (ad 0), .int p1] (wN cyI cyZ ad mc mw mn me mu mr mz mf mt)) (mI D A (wN cyI cyZ ad mc mw mn me mu mr mz mf (f_X3_isListed mz p1).2) (f_X3_isListed mz p1).1) 0 0 A := by
  refine Met.ofW (cc := cX3_isListed) (maxL := 2) (ret := (some .boolean)) (by decide) rfl ?_
  intro p e s m args below meth c s₁ B hml hv
  obtain ⟨rfl, hsz, hP, hG, hD0⟩ := hv
  have hx := B.exec
  have hb := B.bytes
  have hr := B.returns
  have hts := atoms_spec (ws := wsX3_isListed) B.pre
  have hown : s.vm.findClass RX3 = some m.cls := findClass_of_methodNamed B.named
  have hlocks := B.notSynchronized
  subst hsz
  have hD : va_D A (wN cyI cyZ ad mc mw mn me mu mr mz mf mt) := by rw [hAe]; exact hD0.self
  have hA : ∀ q : Nat, s.heap.size ≤ q → A q := fun q h => by rw [hAe]; exact Or.inr h
  clear hAe hD0
  have hS : va_S nA s.heap s.heap [] := va_S.rf
  have hl := lv_entry ([.ref (ad 0), .int p1]) (n := 2) (Nat.le_of_ble_eq_true rfl)
  rw [lg_entry_eq]
  generalize (lg_sl ([.ref (ad 0), .int p1]) ++ List.replicate (2 - (lg_sl ([.ref (ad 0), .int p1])).length) Slot.unset).toArray = ls at hl ⊢
  have hl : lv_has ls 2 [(0, .ref (ad 0)), (1, .int p1)] := hl
  have hP : va_P D vwCl (wN cyI cyZ ad mc mw mn me mu mr mz mf mt) s.heap := hP
  refine lv_aload_n hx hb dX3_isListed_0 rfl (lv_at hl 0 rfl) ?_
  refine lv_iload_n hx hb dX3_isListed_1 rfl (lv_at hl 1 rfl) ?_
  refine lv_iconst (v := 0) hx hb dX3_isListed_2 (by decide) ?_
  refine lv_aload_n hx hb dX3_isListed_3 rfl (lv_at hl 0 rfl) ?_
  refine va_get (D := D) (ci := 3) (v := .int (nI mz.1)) (C := RX3) (T := TX3) (N := 13) hx hb hts uin_X3_isListed_X3 hown hG.1 hP 0 rfl rfl 6 (by decide) (hts (.fieldLink RX3 97 "TableSpliceModel" "listed" "I") (List.mem_of_getElem? (i := 1) rfl)) (fun _ h9 => h9) rfl dX3_isListed_4 ?_
  refine lv_iconst (v := 1) hx hb dX3_isListed_7 (by decide) ?_
  refine lv_isub hx hb dX3_isListed_8 ?_
  refine pr_i (va_runS (As := [.int p1, .int 0, .int ((nI mz.1) - 1)]) (rest := [.ref (ad 0)]) ⟨hx, hb, hml, hown, hts⟩ (k_X3_isIn l D cyI cyZ p1 0 ((nI mz.1) - 1)) (va_cwS 3 hts gX3_isListed_X3_isIn rfl rfl rfl (by decide +kernel) ⟨Nat.le_of_ble_eq_true rfl, Nat.le_of_ble_eq_true rfl⟩) (prS hG (hP.sub (ws' := []) [] rfl)) rfl rfl hl.1 rfl (lv_room (Nat.le_of_ble_eq_true rfl)) dX3_isListed_9 ⟨Nat.zero_le _, Nat.zero_le _⟩) hS hP (fun H locs hP hS => ?_)
  refine lv_if_eq (tgt := 19) hx hb dX3_isListed_12 (by decide) (fun c_12 => ?_) (fun c_12 => ?_)
  · refine lv_iconst (v := 1) hx hb dX3_isListed_19 (by decide) ?_
    have hS := sw_n (B := A) hS
    refine va_put (D := D) (ci := 3) (v := .int 1) (ty := .int) (C := RX3) (T := TX3) (N := 13) hx hb hts uin_X3_isListed_X3 tyX3 tyX3_ok nmX3 hown hG.1 hP hD hS 0 rfl rfl 12 (by decide) (hts (.fieldLink RX3 41 "TableSpliceModel" "thrown" "I") (List.mem_of_getElem? (i := 2) rfl)) (fun _ h9 => h9) rfl (by decide +kernel) rfl rfl (Nat.le_of_ble_eq_true rfl) dX3_isListed_20 (fun H locs hP hD hS => ?_)
    have hP : va_P D vwCl (wN cyI cyZ ad mc mw mn me mu mr mz mf 1) H := hP
    have hD : va_D A (wN cyI cyZ ad mc mw mn me mu mr mz mf 1) := hD
    refine lv_aload_n hx hb dX3_isListed_23 rfl (lv_at hl 0 rfl) ?_
    refine va_get (D := D) (ci := 3) (v := .int 1) (C := RX3) (T := TX3) (N := 13) hx hb hts uin_X3_isListed_X3 hown hG.1 hP 0 rfl rfl 12 (by decide) (hts (.fieldLink RX3 41 "TableSpliceModel" "thrown" "I") (List.mem_of_getElem? (i := 2) rfl)) (fun _ h9 => h9) rfl dX3_isListed_24 ?_
    refine lv_if_ne (tgt := 34) hx hb dX3_isListed_27 (by decide) (fun c_27 => ?_) (fun c_27 => ?_)
    · refine lv_iconst (v := 0) hx hb dX3_isListed_34 (by decide) ?_
      have ef : f_X3_isListed mz p1 = (0, 1) := by rw [f_X3_isListed, if_pos c_12]
      exact W.zret (v := 0) (ty := .boolean) hx hb hr rfl (fun t ht hW => ⟨⟨0, (), rfl, by rw [ef], by rw [ht, ef]; exact hP, by rw [ef]; exact hD⟩, hS.F ht⟩) hS.2.2 dX3_isListed_35
    · exact absurd c_27 (by decide)
  · refine lv_iconst (v := 0) hx hb dX3_isListed_15 (by decide) ?_
    refine lv_goto (tgt := 20) hx hb dX3_isListed_16 (by decide) ?_
    have hS := sw_n (B := A) hS
    refine va_put (D := D) (ci := 3) (v := .int 0) (ty := .int) (C := RX3) (T := TX3) (N := 13) hx hb hts uin_X3_isListed_X3 tyX3 tyX3_ok nmX3 hown hG.1 hP hD hS 0 rfl rfl 12 (by decide) (hts (.fieldLink RX3 41 "TableSpliceModel" "thrown" "I") (List.mem_of_getElem? (i := 2) rfl)) (fun _ h9 => h9) rfl (by decide +kernel) rfl rfl (Nat.le_of_ble_eq_true rfl) dX3_isListed_20 (fun H locs hP hD hS => ?_)
    have hP : va_P D vwCl (wN cyI cyZ ad mc mw mn me mu mr mz mf 0) H := hP
    have hD : va_D A (wN cyI cyZ ad mc mw mn me mu mr mz mf 0) := hD
    refine lv_aload_n hx hb dX3_isListed_23 rfl (lv_at hl 0 rfl) ?_
    refine va_get (D := D) (ci := 3) (v := .int 0) (C := RX3) (T := TX3) (N := 13) hx hb hts uin_X3_isListed_X3 hown hG.1 hP 0 rfl rfl 12 (by decide) (hts (.fieldLink RX3 41 "TableSpliceModel" "thrown" "I") (List.mem_of_getElem? (i := 2) rfl)) (fun _ h9 => h9) rfl dX3_isListed_24 ?_
    refine lv_if_ne (tgt := 34) hx hb dX3_isListed_27 (by decide) (fun c_27 => ?_) (fun c_27 => ?_)
    · exact absurd (by decide) c_27
    · refine lv_iconst (v := 1) hx hb dX3_isListed_30 (by decide) ?_
      refine lv_goto (tgt := 35) hx hb dX3_isListed_31 (by decide) ?_
      have ef : f_X3_isListed mz p1 = (1, 0) := by rw [f_X3_isListed, if_neg c_12]
      exact W.zret (v := 1) (ty := .boolean) hx hb hr rfl (fun t ht hW => ⟨⟨1, (), rfl, by rw [ef], by rw [ht, ef]; exact hP, by rw [ef]; exact hD⟩, hS.F ht⟩) hS.2.2 dX3_isListed_35
theorem lt_lst {x : Int32} {n : Nat} (hn : n ≤ 440) (h : ¬ f_X3_isIn x 0 ((nI n) - 1) = 0) : vp_in x n := by
  rw [f_X3_isIn] at h
  have e1 : (nI n - 1).toInt = (n : Int) - 1 := by
    rw [Int32.toInt_sub, nI_toInt (by omega)]
    show ((n : Int) - 1).bmod (2 ^ 32) = _
    rw [Int.bmod_eq_of_le (by omega) (by omega)]
  have e0 : (0 : Int32).toInt = 0 := by decide
  rw [vp_in_iff]
  by_cases h1 : x < 0
  · rw [if_pos h1] at h; exact absurd rfl h
  · by_cases h2 : nI n - 1 < x
    · rw [if_neg h1, if_pos h2] at h; exact absurd rfl h
    · rw [Int32.not_lt, Int32.le_iff_toInt_le, e0] at h1
      rw [Int32.not_lt, Int32.le_iff_toInt_le, e1] at h2
      omega
theorem in_isListed {x : Int32} {mz : Kr} (hm : mz.1 ≤ 440) (h : ¬ (f_X3_isListed mz x).1 = 0) : vp_in x 440 := by
  rw [f_X3_isListed] at h
  by_cases h1 : f_X3_isIn x 0 ((nI mz.1) - 1) = 0
  · rw [if_pos h1] at h; exact absurd rfl h
  · exact vi_mono (lt_lst hm h1) hm
def f_X3_kindOf (mz : Kr) (p1 : Int32) : Int32 × Int32 := if ((f_X3_isListed mz p1).1) = 0 then (0, ((f_X3_isListed mz p1).2)) else (mz.2.1 (p1).toNatClampNeg, ((f_X3_isListed mz p1).2))
theorem uin_X3_kindOf_X3 : ∀ w ∈ wsX30, w ∈ wsX3_kindOf := fun _ h => List.mem_cons_of_mem _ (List.mem_append_right _ h)
set_option maxHeartbeats 4000000 in
set_option maxRecDepth 100000 in
theorem k_X3_kindOf (l : Launch) (D : va_G) (cyI cyZ : ClassId) (ad : Nat → Nat) (mc : Nat → Int32) (mw : Nat → Int32) (mn : Nat → Int32) (me : Nat → Int32) (mu : Nat → Int32) (mr : Nat → Int32) (mz : Kr) (mf : Int32) (mt : Int32) (p1 : Int32) (A : Nat → Prop) (sz : Nat) (hAe : A = va_A (wN cyI cyZ ad mc mw mn me mu mr mz mf mt) sz) (hm : mz.1 ≤ 440) : Met l yX3_kindOf wsX3_kindOf ({ frames := 2, cells := 0, slots := 0, locals := 43 } : Room) (pcM D cyI cyZ sz [.ref (ad 0), .int p1] (wN cyI cyZ ad mc mw mn me mu mr mz mf mt)) (mI D A (wN cyI cyZ ad mc mw mn me mu mr mz mf (f_X3_kindOf mz p1).2) (f_X3_kindOf mz p1).1) 0 0 A := by
  refine Met.ofW (cc := cX3_kindOf) (maxL := 2) (ret := (some .int)) (by decide) rfl ?_
  intro p e s m args below meth c s₁ B hml hv
  obtain ⟨rfl, hsz, hP, hG, hD0⟩ := hv
  have hx := B.exec
  have hb := B.bytes
  have hr := B.returns
  have hts := atoms_spec (ws := wsX3_kindOf) B.pre
  have hown : s.vm.findClass RX3 = some m.cls := findClass_of_methodNamed B.named
  have hlocks := B.notSynchronized
  subst hsz
  have hD : va_D A (wN cyI cyZ ad mc mw mn me mu mr mz mf mt) := by rw [hAe]; exact hD0.self
  have hA : ∀ q : Nat, s.heap.size ≤ q → A q := fun q h => by rw [hAe]; exact Or.inr h
  clear hAe hD0
  have hS : va_S nA s.heap s.heap [] := va_S.rf
  have hl := lv_entry ([.ref (ad 0), .int p1]) (n := 2) (Nat.le_of_ble_eq_true rfl)
  rw [lg_entry_eq]
  generalize (lg_sl ([.ref (ad 0), .int p1]) ++ List.replicate (2 - (lg_sl ([.ref (ad 0), .int p1])).length) Slot.unset).toArray = ls at hl ⊢
  have hl : lv_has ls 2 [(0, .ref (ad 0)), (1, .int p1)] := hl
  have hP : va_P D vwCl (wN cyI cyZ ad mc mw mn me mu mr mz mf mt) s.heap := hP
  refine lv_aload_n hx hb dX3_kindOf_0 rfl (lv_at hl 0 rfl) ?_
  refine lv_iload_n hx hb dX3_kindOf_1 rfl (lv_at hl 1 rfl) ?_
  have hS := sw_n (B := A) hS
  refine mr_i0 (va_runV (As := [.int p1]) (rest := []) ⟨hx, hb, hml, hown, hts⟩ (k_X3_isListed l D cyI cyZ ad mc mw mn me mu mr mz mf mt p1 _ _ rfl) (cwV 1 hts gX3_kindOf_X3_isListed rfl rfl rfl (by decide +kernel) ⟨Nat.le_of_ble_eq_true rfl, Nat.le_of_ble_eq_true rfl⟩) (pmV hG hP hD (ci := 3) rfl rfl rfl) rfl rfl hl.1 rfl (lv_room (Nat.le_of_ble_eq_true rfl)) dX3_kindOf_2 ⟨Nat.zero_le _, Nat.zero_le _⟩) hD hS hA (fun H locs hP hD hS => ?_)
  have hP : va_P D vwCl (wN cyI cyZ ad mc mw mn me mu mr mz mf ((f_X3_isListed mz p1).2)) H := hP
  have hD : va_D A (wN cyI cyZ ad mc mw mn me mu mr mz mf ((f_X3_isListed mz p1).2)) := hD
  refine lv_if_eq (tgt := 17) hx hb dX3_kindOf_5 (by decide) (fun c_5 => ?_) (fun c_5 => ?_)
  · refine lv_iconst (v := 0) hx hb dX3_kindOf_17 (by decide) ?_
    have ef : f_X3_kindOf mz p1 = (0, ((f_X3_isListed mz p1).2)) := by rw [f_X3_kindOf, if_pos c_5]
    exact W.iret (v := 0) hx hb hr (fun t ht hW => ⟨⟨0, (), rfl, by rw [ef], by rw [ht, ef]; exact hP, by rw [ef]; exact hD⟩, hS.F ht⟩) hS.2.2 dX3_kindOf_18
  · refine lv_aload_n hx hb dX3_kindOf_8 rfl (lv_at hl 0 rfl) ?_
    refine va_get (D := D) (ci := 3) (v := .ref (ad 7)) (C := RX3) (T := TX3) (N := 13) hx hb hts uin_X3_kindOf_X3 hown hG.1 hP 0 rfl rfl 8 (by decide) (hts (.fieldLink RX3 29 "TableSpliceModel" "kind" "[I") (List.mem_of_getElem? (i := 1) rfl)) (fun _ h9 => h9) rfl dX3_kindOf_9 ?_
    refine lv_iload_n hx hb dX3_kindOf_12 rfl (lv_at hl 1 rfl) ?_
    refine va_iald hx hb hG.1 hP 7 0 rfl rfl (in_isListed hm c_5) dX3_kindOf_13 ?_
    refine lv_goto (tgt := 18) hx hb dX3_kindOf_14 (by decide) ?_
    have ef : f_X3_kindOf mz p1 = (mz.2.1 (p1).toNatClampNeg, ((f_X3_isListed mz p1).2)) := by rw [f_X3_kindOf, if_neg c_5]
    exact W.iret (v := mz.2.1 (p1).toNatClampNeg) hx hb hr (fun t ht hW => ⟨⟨mz.2.1 (p1).toNatClampNeg, (), rfl, by rw [ef], by rw [ht, ef]; exact hP, by rw [ef]; exact hD⟩, hS.F ht⟩) hS.2.2 dX3_kindOf_18
def f_X3_keyOf (mz : Kr) (p1 : Int32) : Int32 × Int32 := if ((f_X3_isListed mz p1).1) = 0 then (0, ((f_X3_isListed mz p1).2)) else (mz.2.2.1 (p1).toNatClampNeg, ((f_X3_isListed mz p1).2))
theorem uin_X3_keyOf_X3 : ∀ w ∈ wsX30, w ∈ wsX3_keyOf := fun _ h => List.mem_cons_of_mem _ (List.mem_append_right _ h)
set_option maxHeartbeats 4000000 in
set_option maxRecDepth 100000 in
theorem k_X3_keyOf (l : Launch) (D : va_G) (cyI cyZ : ClassId) (ad : Nat → Nat) (mc : Nat → Int32) (mw : Nat → Int32) (mn : Nat → Int32) (me : Nat → Int32) (mu : Nat → Int32) (mr : Nat → Int32) (mz : Kr) (mf : Int32) (mt : Int32) (p1 : Int32) (A : Nat → Prop) (sz : Nat) (hAe : A = va_A (wN cyI cyZ ad mc mw mn me mu mr mz mf mt) sz) (hm : mz.1 ≤ 440) : Met l yX3_keyOf wsX3_keyOf ({ frames := 2, cells := 0, slots := 0, locals := 43 } : Room) (pcM D cyI cyZ sz [.ref (ad 0), .int p1] (wN cyI cyZ ad mc mw mn me mu mr mz mf mt)) (mI D A (wN cyI cyZ ad mc mw mn me mu mr mz mf (f_X3_keyOf mz p1).2) (f_X3_keyOf mz p1).1) 0 0 A := by
  refine Met.ofW (cc := cX3_keyOf) (maxL := 2) (ret := (some .int)) (by decide) rfl ?_
  intro p e s m args below meth c s₁ B hml hv
  obtain ⟨rfl, hsz, hP, hG, hD0⟩ := hv
  have hx := B.exec
  have hb := B.bytes
  have hr := B.returns
  have hts := atoms_spec (ws := wsX3_keyOf) B.pre
  have hown : s.vm.findClass RX3 = some m.cls := findClass_of_methodNamed B.named
  have hlocks := B.notSynchronized
  subst hsz
  have hD : va_D A (wN cyI cyZ ad mc mw mn me mu mr mz mf mt) := by rw [hAe]; exact hD0.self
  have hA : ∀ q : Nat, s.heap.size ≤ q → A q := fun q h => by rw [hAe]; exact Or.inr h
  clear hAe hD0
  have hS : va_S nA s.heap s.heap [] := va_S.rf
  have hl := lv_entry ([.ref (ad 0), .int p1]) (n := 2) (Nat.le_of_ble_eq_true rfl)
  rw [lg_entry_eq]
  generalize (lg_sl ([.ref (ad 0), .int p1]) ++ List.replicate (2 - (lg_sl ([.ref (ad 0), .int p1])).length) Slot.unset).toArray = ls at hl ⊢
  have hl : lv_has ls 2 [(0, .ref (ad 0)), (1, .int p1)] := hl
  have hP : va_P D vwCl (wN cyI cyZ ad mc mw mn me mu mr mz mf mt) s.heap := hP
  refine lv_aload_n hx hb dX3_keyOf_0 rfl (lv_at hl 0 rfl) ?_
  refine lv_iload_n hx hb dX3_keyOf_1 rfl (lv_at hl 1 rfl) ?_
  have hS := sw_n (B := A) hS
  refine mr_i0 (va_runV (As := [.int p1]) (rest := []) ⟨hx, hb, hml, hown, hts⟩ (k_X3_isListed l D cyI cyZ ad mc mw mn me mu mr mz mf mt p1 _ _ rfl) (cwV 1 hts gX3_keyOf_X3_isListed rfl rfl rfl (by decide +kernel) ⟨Nat.le_of_ble_eq_true rfl, Nat.le_of_ble_eq_true rfl⟩) (pmV hG hP hD (ci := 3) rfl rfl rfl) rfl rfl hl.1 rfl (lv_room (Nat.le_of_ble_eq_true rfl)) dX3_keyOf_2 ⟨Nat.zero_le _, Nat.zero_le _⟩) hD hS hA (fun H locs hP hD hS => ?_)
  have hP : va_P D vwCl (wN cyI cyZ ad mc mw mn me mu mr mz mf ((f_X3_isListed mz p1).2)) H := hP
  have hD : va_D A (wN cyI cyZ ad mc mw mn me mu mr mz mf ((f_X3_isListed mz p1).2)) := hD
  refine lv_if_eq (tgt := 17) hx hb dX3_keyOf_5 (by decide) (fun c_5 => ?_) (fun c_5 => ?_)
  · refine lv_iconst (v := 0) hx hb dX3_keyOf_17 (by decide) ?_
    have ef : f_X3_keyOf mz p1 = (0, ((f_X3_isListed mz p1).2)) := by rw [f_X3_keyOf, if_pos c_5]
    exact W.iret (v := 0) hx hb hr (fun t ht hW => ⟨⟨0, (), rfl, by rw [ef], by rw [ht, ef]; exact hP, by rw [ef]; exact hD⟩, hS.F ht⟩) hS.2.2 dX3_keyOf_18
  · refine lv_aload_n hx hb dX3_keyOf_8 rfl (lv_at hl 0 rfl) ?_
    refine va_get (D := D) (ci := 3) (v := .ref (ad 8)) (C := RX3) (T := TX3) (N := 13) hx hb hts uin_X3_keyOf_X3 hown hG.1 hP 0 rfl rfl 9 (by decide) (hts (.fieldLink RX3 32 "TableSpliceModel" "key" "[I") (List.mem_of_getElem? (i := 1) rfl)) (fun _ h9 => h9) rfl dX3_keyOf_9 ?_
    refine lv_iload_n hx hb dX3_keyOf_12 rfl (lv_at hl 1 rfl) ?_
    refine va_iald hx hb hG.1 hP 8 0 rfl rfl (in_isListed hm c_5) dX3_keyOf_13 ?_
    refine lv_goto (tgt := 18) hx hb dX3_keyOf_14 (by decide) ?_
    have ef : f_X3_keyOf mz p1 = (mz.2.2.1 (p1).toNatClampNeg, ((f_X3_isListed mz p1).2)) := by rw [f_X3_keyOf, if_neg c_5]
    exact W.iret (v := mz.2.2.1 (p1).toNatClampNeg) hx hb hr (fun t ht hW => ⟨⟨mz.2.2.1 (p1).toNatClampNeg, (), rfl, by rw [ef], by rw [ht, ef]; exact hP, by rw [ef]; exact hD⟩, hS.F ht⟩) hS.2.2 dX3_keyOf_18
def f_X3_columnOf (mz : Kr) (p1 : Int32) : Int32 × Int32 := if ((f_X3_isListed mz p1).1) = 0 then (0, ((f_X3_isListed mz p1).2)) else (mz.2.2.2.1 (p1).toNatClampNeg, ((f_X3_isListed mz p1).2))
theorem uin_X3_columnOf_X3 : ∀ w ∈ wsX30, w ∈ wsX3_columnOf := fun _ h => List.mem_cons_of_mem _ (List.mem_append_right _ h)
set_option maxHeartbeats 4000000 in
set_option maxRecDepth 100000 in
theorem k_X3_columnOf (l : Launch) (D : va_G) (cyI cyZ : ClassId) (ad : Nat → Nat) (mc : Nat → Int32) (mw : Nat → Int32) (mn : Nat → Int32) (me : Nat → Int32) (mu : Nat → Int32) (mr : Nat → Int32) (mz : Kr) (mf : Int32) (mt : Int32) (p1 : Int32) (A : Nat → Prop) (sz : Nat) (hAe : A = va_A (wN cyI cyZ ad mc mw mn me mu mr mz mf mt) sz) (hm : mz.1 ≤ 440) : Met l yX3_columnOf wsX3_columnOf ({ frames := 2, cells := 0, slots := 0, locals := 43 } : Room) (pcM D cyI cyZ sz [.ref (ad 0), .int p1] (wN cyI cyZ ad mc mw mn me mu mr mz mf mt)) (mI D A (wN cyI cyZ ad mc mw mn me mu mr mz mf (f_X3_columnOf mz p1).2) (f_X3_columnOf mz p1).1) 0 0 A := by
  refine Met.ofW (cc := cX3_columnOf) (maxL := 2) (ret := (some .int)) (by decide) rfl ?_
  intro p e s m args below meth c s₁ B hml hv
  obtain ⟨rfl, hsz, hP, hG, hD0⟩ := hv
  have hx := B.exec
  have hb := B.bytes
  have hr := B.returns
  have hts := atoms_spec (ws := wsX3_columnOf) B.pre
  have hown : s.vm.findClass RX3 = some m.cls := findClass_of_methodNamed B.named
  have hlocks := B.notSynchronized
  subst hsz
  have hD : va_D A (wN cyI cyZ ad mc mw mn me mu mr mz mf mt) := by rw [hAe]; exact hD0.self
  have hA : ∀ q : Nat, s.heap.size ≤ q → A q := fun q h => by rw [hAe]; exact Or.inr h
  clear hAe hD0
  have hS : va_S nA s.heap s.heap [] := va_S.rf
  have hl := lv_entry ([.ref (ad 0), .int p1]) (n := 2) (Nat.le_of_ble_eq_true rfl)
  rw [lg_entry_eq]
  generalize (lg_sl ([.ref (ad 0), .int p1]) ++ List.replicate (2 - (lg_sl ([.ref (ad 0), .int p1])).length) Slot.unset).toArray = ls at hl ⊢
  have hl : lv_has ls 2 [(0, .ref (ad 0)), (1, .int p1)] := hl
  have hP : va_P D vwCl (wN cyI cyZ ad mc mw mn me mu mr mz mf mt) s.heap := hP
  refine lv_aload_n hx hb dX3_columnOf_0 rfl (lv_at hl 0 rfl) ?_
  refine lv_iload_n hx hb dX3_columnOf_1 rfl (lv_at hl 1 rfl) ?_
  have hS := sw_n (B := A) hS
  refine mr_i0 (va_runV (As := [.int p1]) (rest := []) ⟨hx, hb, hml, hown, hts⟩ (k_X3_isListed l D cyI cyZ ad mc mw mn me mu mr mz mf mt p1 _ _ rfl) (cwV 1 hts gX3_columnOf_X3_isListed rfl rfl rfl (by decide +kernel) ⟨Nat.le_of_ble_eq_true rfl, Nat.le_of_ble_eq_true rfl⟩) (pmV hG hP hD (ci := 3) rfl rfl rfl) rfl rfl hl.1 rfl (lv_room (Nat.le_of_ble_eq_true rfl)) dX3_columnOf_2 ⟨Nat.zero_le _, Nat.zero_le _⟩) hD hS hA (fun H locs hP hD hS => ?_)
  have hP : va_P D vwCl (wN cyI cyZ ad mc mw mn me mu mr mz mf ((f_X3_isListed mz p1).2)) H := hP
  have hD : va_D A (wN cyI cyZ ad mc mw mn me mu mr mz mf ((f_X3_isListed mz p1).2)) := hD
  refine lv_if_eq (tgt := 17) hx hb dX3_columnOf_5 (by decide) (fun c_5 => ?_) (fun c_5 => ?_)
  · refine lv_iconst (v := 0) hx hb dX3_columnOf_17 (by decide) ?_
    have ef : f_X3_columnOf mz p1 = (0, ((f_X3_isListed mz p1).2)) := by rw [f_X3_columnOf, if_pos c_5]
    exact W.iret (v := 0) hx hb hr (fun t ht hW => ⟨⟨0, (), rfl, by rw [ef], by rw [ht, ef]; exact hP, by rw [ef]; exact hD⟩, hS.F ht⟩) hS.2.2 dX3_columnOf_18
  · refine lv_aload_n hx hb dX3_columnOf_8 rfl (lv_at hl 0 rfl) ?_
    refine va_get (D := D) (ci := 3) (v := .ref (ad 9)) (C := RX3) (T := TX3) (N := 13) hx hb hts uin_X3_columnOf_X3 hown hG.1 hP 0 rfl rfl 10 (by decide) (hts (.fieldLink RX3 35 "TableSpliceModel" "column" "[I") (List.mem_of_getElem? (i := 1) rfl)) (fun _ h9 => h9) rfl dX3_columnOf_9 ?_
    refine lv_iload_n hx hb dX3_columnOf_12 rfl (lv_at hl 1 rfl) ?_
    refine va_iald hx hb hG.1 hP 9 0 rfl rfl (in_isListed hm c_5) dX3_columnOf_13 ?_
    refine lv_goto (tgt := 18) hx hb dX3_columnOf_14 (by decide) ?_
    have ef : f_X3_columnOf mz p1 = (mz.2.2.2.1 (p1).toNatClampNeg, ((f_X3_isListed mz p1).2)) := by rw [f_X3_columnOf, if_neg c_5]
    exact W.iret (v := mz.2.2.2.1 (p1).toNatClampNeg) hx hb hr (fun t ht hW => ⟨⟨mz.2.2.2.1 (p1).toNatClampNeg, (), rfl, by rw [ef], by rw [ht, ef]; exact hP, by rw [ef]; exact hD⟩, hS.F ht⟩) hS.2.2 dX3_columnOf_18
