def f_X3_addColumn_sa (p1 : Int32) (p2 : Int32) (ia : Nat) (me_a : Nat → Int32) : (Nat → Int32) := (upd me_a (((192 * p1) + (8 * (nI ia))) + p2).toNatClampNeg 0)
def f_X3_addColumn_la (me : Nat → Int32) (p1 : Int32) (p2 : Int32) : (Nat → Int32) := it (fun (i9 : Nat) (z9 : (Nat → Int32)) => f_X3_addColumn_sa p1 p2 i9 z9) me 24
def f_X3_addColumn (mc : Nat → Int32) (mn : Nat → Int32) (me : Nat → Int32) (mf : Int32) (p1 : Int32) (p2 : Int32) (p3 : Int32) : Int32 × (Nat → Int32) × (Nat → Int32) × (Nat → Int32) × Int32 × Int32 := if (f_X3_isIn p1 0 2) = 0 then ((0, mc, mn, me, mf, 1)) else (if (f_X3_isIn p2 0 7) = 0 then ((0, mc, mn, me, mf, 1)) else (if (f_X3_isIn p3 0 99) = 0 then ((0, mc, mn, me, mf, 2)) else (if (f_X3_hasColumn mc p1 p2) = 0 then ((f_X3_count ((upd mc (p1).toNatClampNeg ((mc (p1).toNatClampNeg) ||| (1 <<< (p2 &&& 31)))) (p1).toNatClampNeg), (upd mc (p1).toNatClampNeg ((mc (p1).toNatClampNeg) ||| (1 <<< (p2 &&& 31)))), (upd mn ((8 * p1) + p2).toNatClampNeg p3), ((f_X3_addColumn_la me p1 p2)), 0, 0)) else ((0, mc, mn, me, mf, 3)))))
theorem uin_X3_addColumn_X3 : ∀ w ∈ wsX30, w ∈ wsX3_addColumn := fun _ h => List.mem_cons_of_mem _ (List.mem_append_right _ h)
set_option maxHeartbeats 4000000 in
set_option maxRecDepth 100000 in
theorem k_X3_addColumn (l : Launch) (D : va_G) (cyI cyZ : ClassId) (ad : Nat → Nat) (mc : Nat → Int32) (mw : Nat → Int32) (mn : Nat → Int32) (me : Nat → Int32) (mu : Nat → Int32) (mr : Nat → Int32) (mz : Kr) (mf : Int32) (mt : Int32) (p1 : Int32) (p2 : Int32) (p3 : Int32) (A : Nat → Prop) (sz : Nat) (hAe : A = va_A (wN cyI cyZ ad mc mw mn me mu mr mz mf mt) sz) : Met l yX3_addColumn wsX3_addColumn ({ frames := 1, cells := 0, slots := 0, locals := 22 } : Room) (pcM D cyI cyZ sz [.ref (ad 0), .int p1, .int p2, .int p3] (wN cyI cyZ ad mc mw mn me mu mr mz mf mt)) (mI D A (wN cyI cyZ ad (f_X3_addColumn mc mn me mf p1 p2 p3).2.1 mw (f_X3_addColumn mc mn me mf p1 p2 p3).2.2.1 (f_X3_addColumn mc mn me mf p1 p2 p3).2.2.2.1 mu mr mz (f_X3_addColumn mc mn me mf p1 p2 p3).2.2.2.2.1 (f_X3_addColumn mc mn me mf p1 p2 p3).2.2.2.2.2) (f_X3_addColumn mc mn me mf p1 p2 p3).1) 0 0 A := by
  refine Met.ofW (cc := cX3_addColumn) (maxL := 5) (ret := (some .int)) (by decide) rfl ?_
  intro p e s m args below meth c s₁ B hml hv
  obtain ⟨rfl, hsz, hP, hG, hD0⟩ := hv
  have hx := B.exec
  have hb := B.bytes
  have hr := B.returns
  have hts := atoms_spec (ws := wsX3_addColumn) B.pre
  have hown : s.vm.findClass RX3 = some m.cls := findClass_of_methodNamed B.named
  have hlocks := B.notSynchronized
  subst hsz
  have hD : va_D A (wN cyI cyZ ad mc mw mn me mu mr mz mf mt) := by rw [hAe]; exact hD0.self
  have hA : ∀ q : Nat, s.heap.size ≤ q → A q := fun q h => by rw [hAe]; exact Or.inr h
  clear hAe hD0
  have hS : va_S nA s.heap s.heap [] := va_S.rf
  have hl := lv_entry ([.ref (ad 0), .int p1, .int p2, .int p3]) (n := 5) (Nat.le_of_ble_eq_true rfl)
  rw [lg_entry_eq]
  generalize (lg_sl ([.ref (ad 0), .int p1, .int p2, .int p3]) ++ List.replicate (5 - (lg_sl ([.ref (ad 0), .int p1, .int p2, .int p3])).length) Slot.unset).toArray = ls at hl ⊢
  have hl : lv_has ls 5 [(0, .ref (ad 0)), (1, .int p1), (2, .int p2), (3, .int p3)] := hl
  have hP : va_P D vwCl (wN cyI cyZ ad mc mw mn me mu mr mz mf mt) s.heap := hP
  refine lv_aload_n hx hb dX3_addColumn_0 rfl (lv_at hl 0 rfl) ?_
  refine lv_iload_n hx hb dX3_addColumn_1 rfl (lv_at hl 1 rfl) ?_
  refine lv_iconst (v := 0) hx hb dX3_addColumn_2 (by decide) ?_
  refine lv_iconst (v := 2) hx hb dX3_addColumn_3 (by decide) ?_
  refine pr_i (va_runS (As := [.int p1, .int 0, .int 2]) (rest := [.ref (ad 0)]) ⟨hx, hb, hml, hown, hts⟩ (k_X3_isIn l D cyI cyZ p1 0 2) (va_cwS 3 hts gX3_addColumn_X3_isIn rfl rfl rfl (by decide +kernel) ⟨Nat.le_of_ble_eq_true rfl, Nat.le_of_ble_eq_true rfl⟩) (prS hG (hP.sub (ws' := []) [] rfl)) rfl rfl hl.1 rfl (lv_room (Nat.le_of_ble_eq_true rfl)) dX3_addColumn_4 ⟨Nat.zero_le _, Nat.zero_le _⟩) hS hP (fun H locs hP hS => ?_)
  refine lv_if_eq (tgt := 20) hx hb dX3_addColumn_7 (by decide) (fun c_7 => ?_) (fun c_7 => ?_)
  · refine lv_iconst (v := 1) hx hb dX3_addColumn_20 (by decide) ?_
    refine lv_goto (tgt := 52) hx hb dX3_addColumn_21 (by decide) ?_
    have hS := sw_n (B := A) hS
    refine va_put (D := D) (ci := 3) (v := .int 1) (ty := .int) (C := RX3) (T := TX3) (N := 13) hx hb hts uin_X3_addColumn_X3 tyX3 tyX3_ok nmX3 hown hG.1 hP hD hS 0 rfl rfl 12 (by decide) (hts (.fieldLink RX3 41 "TableSpliceModel" "thrown" "I") (List.mem_of_getElem? (i := 1) rfl)) (fun _ h9 => h9) rfl (by decide +kernel) rfl rfl (Nat.le_of_ble_eq_true rfl) dX3_addColumn_52 (fun H locs hP hD hS => ?_)
    have hP : va_P D vwCl (wN cyI cyZ ad mc mw mn me mu mr mz mf 1) H := hP
    have hD : va_D A (wN cyI cyZ ad mc mw mn me mu mr mz mf 1) := hD
    refine lv_aload_n hx hb dX3_addColumn_55 rfl (lv_at hl 0 rfl) ?_
    refine va_get (D := D) (ci := 3) (v := .int 1) (C := RX3) (T := TX3) (N := 13) hx hb hts uin_X3_addColumn_X3 hown hG.1 hP 0 rfl rfl 12 (by decide) (hts (.fieldLink RX3 41 "TableSpliceModel" "thrown" "I") (List.mem_of_getElem? (i := 1) rfl)) (fun _ h9 => h9) rfl dX3_addColumn_56 ?_
    refine lv_if_le (tgt := 64) hx hb dX3_addColumn_59 (by decide) (fun c_59 => ?_) (fun c_59 => ?_)
    · exact absurd c_59 (by decide)
    · refine lv_iconst (v := 0) hx hb dX3_addColumn_62 (by decide) ?_
      have ef : f_X3_addColumn mc mn me mf p1 p2 p3 = (0, mc, mn, me, mf, 1) := by rw [f_X3_addColumn, if_pos c_7]
      exact W.iret (v := 0) hx hb hr (fun t ht hW => ⟨⟨0, (), rfl, by rw [ef], by rw [ht, ef]; exact hP, by rw [ef]; exact hD⟩, hS.F ht⟩) hS.2.2 dX3_addColumn_63
  · refine lv_iload_n hx hb dX3_addColumn_10 rfl (lv_at hl 2 rfl) ?_
    refine lv_iconst (v := 0) hx hb dX3_addColumn_11 (by decide) ?_
    refine lv_bipush (v := 7) hx hb dX3_addColumn_12 (by decide) ?_
    refine pr_i (va_runS (As := [.int p2, .int 0, .int 7]) (rest := [.ref (ad 0)]) ⟨hx, hb, hml, hown, hts⟩ (k_X3_isIn l D cyI cyZ p2 0 7) (va_cwS 3 hts gX3_addColumn_X3_isIn rfl rfl rfl (by decide +kernel) ⟨Nat.le_of_ble_eq_true rfl, Nat.le_of_ble_eq_true rfl⟩) (prS hG (hP.sub (ws' := []) [] rfl)) rfl rfl hl.1 rfl (lv_room (Nat.le_of_ble_eq_true rfl)) dX3_addColumn_14 ⟨Nat.zero_le _, Nat.zero_le _⟩) hS hP (fun H locs hP hS => ?_)
    refine lv_if_ne (tgt := 24) hx hb dX3_addColumn_17 (by decide) (fun c_17 => ?_) (fun c_17 => ?_)
    · refine lv_iload_n hx hb dX3_addColumn_24 rfl (lv_at hl 3 rfl) ?_
      refine lv_iconst (v := 0) hx hb dX3_addColumn_25 (by decide) ?_
      refine lv_bipush (v := 99) hx hb dX3_addColumn_26 (by decide) ?_
      refine pr_i (va_runS (As := [.int p3, .int 0, .int 99]) (rest := [.ref (ad 0)]) ⟨hx, hb, hml, hown, hts⟩ (k_X3_isIn l D cyI cyZ p3 0 99) (va_cwS 3 hts gX3_addColumn_X3_isIn rfl rfl rfl (by decide +kernel) ⟨Nat.le_of_ble_eq_true rfl, Nat.le_of_ble_eq_true rfl⟩) (prS hG (hP.sub (ws' := []) [] rfl)) rfl rfl hl.1 rfl (lv_room (Nat.le_of_ble_eq_true rfl)) dX3_addColumn_28 ⟨Nat.zero_le _, Nat.zero_le _⟩) hS hP (fun H locs hP hS => ?_)
      refine lv_if_ne (tgt := 38) hx hb dX3_addColumn_31 (by decide) (fun c_31 => ?_) (fun c_31 => ?_)
      · refine lv_aload_n hx hb dX3_addColumn_38 rfl (lv_at hl 0 rfl) ?_
        refine lv_iload_n hx hb dX3_addColumn_39 rfl (lv_at hl 1 rfl) ?_
        refine lv_iload_n hx hb dX3_addColumn_40 rfl (lv_at hl 2 rfl) ?_
        refine pr_i (va_runV (As := [.int p1, .int p2]) (rest := [.ref (ad 0)]) ⟨hx, hb, hml, hown, hts⟩ (k_X3_hasColumn l D cyI cyZ ad mc mw mn me mu mr mz mf mt p1 p2 (vi_mono (in_isIn (n := 2) rfl (by decide) c_7) (by decide))) (cwV 2 hts gX3_addColumn_X3_hasColumn rfl rfl rfl (by decide +kernel) ⟨Nat.le_of_ble_eq_true rfl, Nat.le_of_ble_eq_true rfl⟩) (prV hG hP (ci := 3) rfl rfl rfl) rfl rfl hl.1 rfl (lv_room (Nat.le_of_ble_eq_true rfl)) dX3_addColumn_41 ⟨Nat.zero_le _, Nat.zero_le _⟩) hS hP (fun H locs hP hS => ?_)
        refine lv_if_eq (tgt := 51) hx hb dX3_addColumn_44 (by decide) (fun c_44 => ?_) (fun c_44 => ?_)
        · refine lv_iconst (v := 0) hx hb dX3_addColumn_51 (by decide) ?_
          have hS := sw_n (B := A) hS
          refine va_put (D := D) (ci := 3) (v := .int 0) (ty := .int) (C := RX3) (T := TX3) (N := 13) hx hb hts uin_X3_addColumn_X3 tyX3 tyX3_ok nmX3 hown hG.1 hP hD hS 0 rfl rfl 12 (by decide) (hts (.fieldLink RX3 41 "TableSpliceModel" "thrown" "I") (List.mem_of_getElem? (i := 1) rfl)) (fun _ h9 => h9) rfl (by decide +kernel) rfl rfl (Nat.le_of_ble_eq_true rfl) dX3_addColumn_52 (fun H locs hP hD hS => ?_)
          have hP : va_P D vwCl (wN cyI cyZ ad mc mw mn me mu mr mz mf 0) H := hP
          have hD : va_D A (wN cyI cyZ ad mc mw mn me mu mr mz mf 0) := hD
          refine lv_aload_n hx hb dX3_addColumn_55 rfl (lv_at hl 0 rfl) ?_
          refine va_get (D := D) (ci := 3) (v := .int 0) (C := RX3) (T := TX3) (N := 13) hx hb hts uin_X3_addColumn_X3 hown hG.1 hP 0 rfl rfl 12 (by decide) (hts (.fieldLink RX3 41 "TableSpliceModel" "thrown" "I") (List.mem_of_getElem? (i := 1) rfl)) (fun _ h9 => h9) rfl dX3_addColumn_56 ?_
          refine lv_if_le (tgt := 64) hx hb dX3_addColumn_59 (by decide) (fun c_59 => ?_) (fun c_59 => ?_)
          · refine lv_aload_n hx hb dX3_addColumn_64 rfl (lv_at hl 0 rfl) ?_
            refine va_get (D := D) (ci := 3) (v := .ref (ad 1)) (C := RX3) (T := TX3) (N := 13) hx hb hts uin_X3_addColumn_X3 hown hG.1 hP 0 rfl rfl 0 (by decide) (hts (.fieldLink RX3 7 "TableSpliceModel" "columns" "[I") (List.mem_of_getElem? (i := 2) rfl)) (fun _ h9 => h9) rfl dX3_addColumn_65 ?_
            refine lv_iload_n hx hb dX3_addColumn_68 rfl (lv_at hl 1 rfl) ?_
            refine lv_dup2_11 hx hb dX3_addColumn_69 rfl rfl ?_
            refine va_iald hx hb hG.1 hP 1 0 rfl rfl (vi_mono (in_isIn (n := 2) rfl (by decide) c_7) (by decide)) dX3_addColumn_70 ?_
            refine lv_iconst (v := 1) hx hb dX3_addColumn_71 (by decide) ?_
            refine lv_iload_n hx hb dX3_addColumn_72 rfl (lv_at hl 2 rfl) ?_
            refine lv_ishl hx hb dX3_addColumn_73 ?_
            refine lv_ior hx hb dX3_addColumn_74 ?_
            refine va_iast hx hb hG.1 hP hD hS 1 0 rfl rfl (vi_mono (in_isIn (n := 2) rfl (by decide) c_7) (by decide)) dX3_addColumn_75 (fun H locs hP hD hS => ?_)
            have hP : va_P D vwCl (wN cyI cyZ ad (upd mc (p1).toNatClampNeg ((mc (p1).toNatClampNeg) ||| (1 <<< (p2 &&& 31)))) mw mn me mu mr mz mf 0) H := hP
            have hD : va_D A (wN cyI cyZ ad (upd mc (p1).toNatClampNeg ((mc (p1).toNatClampNeg) ||| (1 <<< (p2 &&& 31)))) mw mn me mu mr mz mf 0) := hD
            refine lv_aload_n hx hb dX3_addColumn_76 rfl (lv_at hl 0 rfl) ?_
            refine va_get (D := D) (ci := 3) (v := .ref (ad 3)) (C := RX3) (T := TX3) (N := 13) hx hb hts uin_X3_addColumn_X3 hown hG.1 hP 0 rfl rfl 2 (by decide) (hts (.fieldLink RX3 16 "TableSpliceModel" "name" "[I") (List.mem_of_getElem? (i := 3) rfl)) (fun _ h9 => h9) rfl dX3_addColumn_77 ?_
            refine lv_bipush (v := 8) hx hb dX3_addColumn_80 (by decide) ?_
            refine lv_iload_n hx hb dX3_addColumn_82 rfl (lv_at hl 1 rfl) ?_
            refine lv_imul hx hb dX3_addColumn_83 ?_
            refine lv_iload_n hx hb dX3_addColumn_84 rfl (lv_at hl 2 rfl) ?_
            refine lv_iadd hx hb dX3_addColumn_85 ?_
            refine lv_iload_n hx hb dX3_addColumn_86 rfl (lv_at hl 3 rfl) ?_
            refine va_iast hx hb hG.1 hP hD hS 3 0 rfl rfl (vi_mono (vi_add (k := 24) (vi_mul (c := 8) (k := 17) rfl (in_isIn (n := 2) rfl (by decide) c_7) (by decide) (by decide) (by decide)) (in_isIn (n := 7) rfl (by decide) c_17) (by decide) (by decide)) (by decide)) dX3_addColumn_87 (fun H locs hP hD hS => ?_)
            have hP : va_P D vwCl (wN cyI cyZ ad (upd mc (p1).toNatClampNeg ((mc (p1).toNatClampNeg) ||| (1 <<< (p2 &&& 31)))) mw (upd mn ((8 * p1) + p2).toNatClampNeg p3) me mu mr mz mf 0) H := hP
            have hD : va_D A (wN cyI cyZ ad (upd mc (p1).toNatClampNeg ((mc (p1).toNatClampNeg) ||| (1 <<< (p2 &&& 31)))) mw (upd mn ((8 * p1) + p2).toNatClampNeg p3) me mu mr mz mf 0) := hD
            refine lv_iconst (v := 0) hx hb dX3_addColumn_88 (by decide) ?_
            refine lv_istore (lv' := [(4, .int 0), (0, .ref (ad 0)), (1, .int p1), (2, .int p2), (3, .int p3)]) hx hb dX3_addColumn_89 hl (by decide) rfl (fun ls hl => ?_)
            have lp_a : ∀ (n ia : Nat), ia + n = 24 → ∀ (me_a : Nat → Int32), me_a = it (fun (i9 : Nat) (z9 : (Nat → Int32)) => f_X3_addColumn_sa p1 p2 i9 z9) me ia → ∀ (H : Heap) (locs : List Loc), va_P D vwCl (wN cyI cyZ ad (upd mc (p1).toNatClampNeg ((mc (p1).toNatClampNeg) ||| (1 <<< (p2 &&& 31)))) mw (upd mn ((8 * p1) + p2).toNatClampNeg p3) me_a mu mr mz mf 0) H → va_D A (wN cyI cyZ ad (upd mc (p1).toNatClampNeg ((mc (p1).toNatClampNeg) ||| (1 <<< (p2 &&& 31)))) mw (upd mn ((8 * p1) + p2).toNatClampNeg p3) me_a mu mr mz mf 0) → va_S A s.heap H locs → ∀ (ls : Array Slot), lv_has ls 5 [(4, .int (nI ia)), (0, .ref (ad 0)), (1, .int p1), (2, .int p2)] → W p l e (headSpec wsX3_addColumn ({ frames := 1, cells := 0, slots := 0, locals := 22 } : Room)).room s m ([.ref (ad 0), .int p1, .int p2, .int p3] : List Value).toArray below meth c H locs 0 0 (MQ below (mI D A (wN cyI cyZ ad (f_X3_addColumn mc mn me mf p1 p2 p3).2.1 mw (f_X3_addColumn mc mn me mf p1 p2 p3).2.2.1 (f_X3_addColumn mc mn me mf p1 p2 p3).2.2.2.1 mu mr mz (f_X3_addColumn mc mn me mf p1 p2 p3).2.2.2.2.1 (f_X3_addColumn mc mn me mf p1 p2 p3).2.2.2.2.2) (f_X3_addColumn mc mn me mf p1 p2 p3).1) ([.ref (ad 0), .int p1, .int p2, .int p3] : List Value).toArray s 0 0 A) (F0 m 91 ls []) := by
              intro n
              induction n with
              | zero =>
                intro ia hi_a me_a hs_a H locs hP hD hS ls hl
                obtain rfl : 24 = ia := by omega
                obtain rfl : me_a = (f_X3_addColumn_la me p1 p2) := hs_a
                refine lv_iload hx hb dX3_addColumn_91 (lv_at hl 0 rfl) ?_
                refine lv_bipush (v := 24) hx hb dX3_addColumn_93 (by decide) ?_
                refine lv_icmp_ge (tgt := 123) hx hb dX3_addColumn_95 (by decide) (fun c_95 => ?_) (fun c_95 => ?_)
                · refine lv_aload_n hx hb dX3_addColumn_123 rfl (lv_at hl 1 rfl) ?_
                  refine lv_iconst (v := 0) hx hb dX3_addColumn_124 (by decide) ?_
                  refine va_put (D := D) (ci := 3) (v := .int 0) (ty := .boolean) (C := RX3) (T := TX3) (N := 13) hx hb hts uin_X3_addColumn_X3 tyX3 tyX3_ok nmX3 hown hG.1 hP hD hS 0 rfl rfl 7 (by decide) (hts (.fieldLink RX3 56 "TableSpliceModel" "fresh" "Z") (List.mem_of_getElem? (i := 5) rfl)) (fun _ h9 => h9) rfl (by decide +kernel) rfl rfl (Nat.le_of_ble_eq_true rfl) dX3_addColumn_125 (fun H locs hP hD hS => ?_)
                  have hP : va_P D vwCl (wN cyI cyZ ad (upd mc (p1).toNatClampNeg ((mc (p1).toNatClampNeg) ||| (1 <<< (p2 &&& 31)))) mw (upd mn ((8 * p1) + p2).toNatClampNeg p3) ((f_X3_addColumn_la me p1 p2)) mu mr mz 0 0) H := hP
                  have hD : va_D A (wN cyI cyZ ad (upd mc (p1).toNatClampNeg ((mc (p1).toNatClampNeg) ||| (1 <<< (p2 &&& 31)))) mw (upd mn ((8 * p1) + p2).toNatClampNeg p3) ((f_X3_addColumn_la me p1 p2)) mu mr mz 0 0) := hD
                  refine lv_aload_n hx hb dX3_addColumn_128 rfl (lv_at hl 1 rfl) ?_
                  refine va_get (D := D) (ci := 3) (v := .ref (ad 1)) (C := RX3) (T := TX3) (N := 13) hx hb hts uin_X3_addColumn_X3 hown hG.1 hP 0 rfl rfl 0 (by decide) (hts (.fieldLink RX3 7 "TableSpliceModel" "columns" "[I") (List.mem_of_getElem? (i := 2) rfl)) (fun _ h9 => h9) rfl dX3_addColumn_129 ?_
                  refine lv_iload_n hx hb dX3_addColumn_132 rfl (lv_at hl 2 rfl) ?_
                  refine va_iald hx hb hG.1 hP 1 0 rfl rfl (vi_mono (in_isIn (n := 2) rfl (by decide) c_7) (by decide)) dX3_addColumn_133 ?_
                  refine pr_i (va_runS (As := [.int ((upd mc (p1).toNatClampNeg ((mc (p1).toNatClampNeg) ||| (1 <<< (p2 &&& 31)))) (p1).toNatClampNeg)]) (rest := []) ⟨hx, hb, hml, hown, hts⟩ (k_X3_count l D cyI cyZ ((upd mc (p1).toNatClampNeg ((mc (p1).toNatClampNeg) ||| (1 <<< (p2 &&& 31)))) (p1).toNatClampNeg)) (va_cwS 1 hts gX3_addColumn_X3_count rfl rfl rfl (by decide +kernel) ⟨Nat.le_of_ble_eq_true rfl, Nat.le_of_ble_eq_true rfl⟩) (prS hG (hP.sub (ws' := []) [] rfl)) rfl rfl hl.1 rfl (lv_room (Nat.le_of_ble_eq_true rfl)) dX3_addColumn_134 ⟨Nat.zero_le _, Nat.zero_le _⟩) hS hP (fun H locs hP hS => ?_)
                  have ef : f_X3_addColumn mc mn me mf p1 p2 p3 = (f_X3_count ((upd mc (p1).toNatClampNeg ((mc (p1).toNatClampNeg) ||| (1 <<< (p2 &&& 31)))) (p1).toNatClampNeg), (upd mc (p1).toNatClampNeg ((mc (p1).toNatClampNeg) ||| (1 <<< (p2 &&& 31)))), (upd mn ((8 * p1) + p2).toNatClampNeg p3), ((f_X3_addColumn_la me p1 p2)), 0, 0) := by rw [f_X3_addColumn, if_neg c_7, if_neg c_17, if_neg c_31, if_pos c_44]
                  exact W.iret (v := f_X3_count ((upd mc (p1).toNatClampNeg ((mc (p1).toNatClampNeg) ||| (1 <<< (p2 &&& 31)))) (p1).toNatClampNeg)) hx hb hr (fun t ht hW => ⟨⟨f_X3_count ((upd mc (p1).toNatClampNeg ((mc (p1).toNatClampNeg) ||| (1 <<< (p2 &&& 31)))) (p1).toNatClampNeg), (), rfl, by rw [ef], by rw [ht, ef]; exact hP, by rw [ef]; exact hD⟩, hS.F ht⟩) hS.2.2 dX3_addColumn_137
                · exact absurd (by decide) c_95
              | succ n ih_a =>
                intro ia hi_a me_a hs_a H locs hP hD hS ls hl
                have hj_a : ia < 24 := by omega
                refine lv_iload hx hb dX3_addColumn_91 (lv_at hl 0 rfl) ?_
                refine lv_bipush (v := 24) hx hb dX3_addColumn_93 (by decide) ?_
                refine lv_icmp_ge (tgt := 123) hx hb dX3_addColumn_95 (by decide) (fun c_95 => ?_) (fun c_95 => ?_)
                · exact absurd c_95 (nI_ge hj_a (by decide))
                · refine lv_aload_n hx hb dX3_addColumn_98 rfl (lv_at hl 1 rfl) ?_
                  refine va_get (D := D) (ci := 3) (v := .ref (ad 4)) (C := RX3) (T := TX3) (N := 13) hx hb hts uin_X3_addColumn_X3 hown hG.1 hP 0 rfl rfl 3 (by decide) (hts (.fieldLink RX3 19 "TableSpliceModel" "cell" "[I") (List.mem_of_getElem? (i := 4) rfl)) (fun _ h9 => h9) rfl dX3_addColumn_99 ?_
                  refine lv_sipush (v := 192) hx hb dX3_addColumn_102 (by decide) ?_
                  refine lv_iload_n hx hb dX3_addColumn_105 rfl (lv_at hl 2 rfl) ?_
                  refine lv_imul hx hb dX3_addColumn_106 ?_
                  refine lv_bipush (v := 8) hx hb dX3_addColumn_107 (by decide) ?_
                  refine lv_iload hx hb dX3_addColumn_109 (lv_at hl 0 rfl) ?_
                  refine lv_imul hx hb dX3_addColumn_111 ?_
                  refine lv_iadd hx hb dX3_addColumn_112 ?_
                  refine lv_iload_n hx hb dX3_addColumn_113 rfl (lv_at hl 3 rfl) ?_
                  refine lv_iadd hx hb dX3_addColumn_114 ?_
                  refine lv_iconst (v := 0) hx hb dX3_addColumn_115 (by decide) ?_
                  refine va_iast hx hb hG.1 hP hD hS 4 0 rfl rfl (vi_mono (vi_add (k := 576) (vi_add (k := 569) (vi_mul (c := 192) (k := 385) rfl (in_isIn (n := 2) rfl (by decide) c_7) (by decide) (by decide) (by decide)) (vi_mul (c := 8) (k := 185) rfl (vp_in_nI (n := ia) (N := 24) (by omega) (by omega)) (by decide) (by decide) (by decide)) (by decide) (by decide)) (in_isIn (n := 7) rfl (by decide) c_17) (by decide) (by decide)) (by decide)) dX3_addColumn_116 (fun H locs hP hD hS => ?_)
                  have hP : va_P D vwCl (wN cyI cyZ ad (upd mc (p1).toNatClampNeg ((mc (p1).toNatClampNeg) ||| (1 <<< (p2 &&& 31)))) mw (upd mn ((8 * p1) + p2).toNatClampNeg p3) (upd me_a (((192 * p1) + (8 * (nI ia))) + p2).toNatClampNeg 0) mu mr mz mf 0) H := hP
                  have hD : va_D A (wN cyI cyZ ad (upd mc (p1).toNatClampNeg ((mc (p1).toNatClampNeg) ||| (1 <<< (p2 &&& 31)))) mw (upd mn ((8 * p1) + p2).toNatClampNeg p3) (upd me_a (((192 * p1) + (8 * (nI ia))) + p2).toNatClampNeg 0) mu mr mz mf 0) := hD
                  refine lv_iinc (v := nI (ia + 1)) (lv' := [(4, .int (nI (ia + 1))), (0, .ref (ad 0)), (1, .int p1), (2, .int p2)]) hx hb dX3_addColumn_117 hl (k := 0) rfl (nI_1 _) (by decide) rfl (fun ls hl => ?_)
                  refine lv_goto (tgt := 91) hx hb dX3_addColumn_120 (by decide) ?_
                  exact ih_a (ia + 1) (by omega) (upd me_a (((192 * p1) + (8 * (nI ia))) + p2).toNatClampNeg 0) (it_s hs_a (by show f_X3_addColumn_sa p1 p2 ia me_a = _; rw [f_X3_addColumn_sa])) _ _ hP hD hS ls (lv_sub hl [0, 1, 2, 3] rfl)
            exact lp_a 24 0 (by omega) me rfl _ _ hP hD hS ls (lv_sub hl [0, 1, 2, 3] rfl)
          · exact absurd (by decide) c_59
        · refine lv_iconst (v := 3) hx hb dX3_addColumn_47 (by decide) ?_
          refine lv_goto (tgt := 52) hx hb dX3_addColumn_48 (by decide) ?_
          have hS := sw_n (B := A) hS
          refine va_put (D := D) (ci := 3) (v := .int 3) (ty := .int) (C := RX3) (T := TX3) (N := 13) hx hb hts uin_X3_addColumn_X3 tyX3 tyX3_ok nmX3 hown hG.1 hP hD hS 0 rfl rfl 12 (by decide) (hts (.fieldLink RX3 41 "TableSpliceModel" "thrown" "I") (List.mem_of_getElem? (i := 1) rfl)) (fun _ h9 => h9) rfl (by decide +kernel) rfl rfl (Nat.le_of_ble_eq_true rfl) dX3_addColumn_52 (fun H locs hP hD hS => ?_)
          have hP : va_P D vwCl (wN cyI cyZ ad mc mw mn me mu mr mz mf 3) H := hP
          have hD : va_D A (wN cyI cyZ ad mc mw mn me mu mr mz mf 3) := hD
          refine lv_aload_n hx hb dX3_addColumn_55 rfl (lv_at hl 0 rfl) ?_
          refine va_get (D := D) (ci := 3) (v := .int 3) (C := RX3) (T := TX3) (N := 13) hx hb hts uin_X3_addColumn_X3 hown hG.1 hP 0 rfl rfl 12 (by decide) (hts (.fieldLink RX3 41 "TableSpliceModel" "thrown" "I") (List.mem_of_getElem? (i := 1) rfl)) (fun _ h9 => h9) rfl dX3_addColumn_56 ?_
          refine lv_if_le (tgt := 64) hx hb dX3_addColumn_59 (by decide) (fun c_59 => ?_) (fun c_59 => ?_)
          · exact absurd c_59 (by decide)
          · refine lv_iconst (v := 0) hx hb dX3_addColumn_62 (by decide) ?_
            have ef : f_X3_addColumn mc mn me mf p1 p2 p3 = (0, mc, mn, me, mf, 3) := by rw [f_X3_addColumn, if_neg c_7, if_neg c_17, if_neg c_31, if_neg c_44]
            exact W.iret (v := 0) hx hb hr (fun t ht hW => ⟨⟨0, (), rfl, by rw [ef], by rw [ht, ef]; exact hP, by rw [ef]; exact hD⟩, hS.F ht⟩) hS.2.2 dX3_addColumn_63
      · refine lv_iconst (v := 2) hx hb dX3_addColumn_34 (by decide) ?_
        refine lv_goto (tgt := 52) hx hb dX3_addColumn_35 (by decide) ?_
        have hS := sw_n (B := A) hS
        refine va_put (D := D) (ci := 3) (v := .int 2) (ty := .int) (C := RX3) (T := TX3) (N := 13) hx hb hts uin_X3_addColumn_X3 tyX3 tyX3_ok nmX3 hown hG.1 hP hD hS 0 rfl rfl 12 (by decide) (hts (.fieldLink RX3 41 "TableSpliceModel" "thrown" "I") (List.mem_of_getElem? (i := 1) rfl)) (fun _ h9 => h9) rfl (by decide +kernel) rfl rfl (Nat.le_of_ble_eq_true rfl) dX3_addColumn_52 (fun H locs hP hD hS => ?_)
        have hP : va_P D vwCl (wN cyI cyZ ad mc mw mn me mu mr mz mf 2) H := hP
        have hD : va_D A (wN cyI cyZ ad mc mw mn me mu mr mz mf 2) := hD
        refine lv_aload_n hx hb dX3_addColumn_55 rfl (lv_at hl 0 rfl) ?_
        refine va_get (D := D) (ci := 3) (v := .int 2) (C := RX3) (T := TX3) (N := 13) hx hb hts uin_X3_addColumn_X3 hown hG.1 hP 0 rfl rfl 12 (by decide) (hts (.fieldLink RX3 41 "TableSpliceModel" "thrown" "I") (List.mem_of_getElem? (i := 1) rfl)) (fun _ h9 => h9) rfl dX3_addColumn_56 ?_
        refine lv_if_le (tgt := 64) hx hb dX3_addColumn_59 (by decide) (fun c_59 => ?_) (fun c_59 => ?_)
        · exact absurd c_59 (by decide)
        · refine lv_iconst (v := 0) hx hb dX3_addColumn_62 (by decide) ?_
          have ef : f_X3_addColumn mc mn me mf p1 p2 p3 = (0, mc, mn, me, mf, 2) := by rw [f_X3_addColumn, if_neg c_7, if_neg c_17, if_pos c_31]
          exact W.iret (v := 0) hx hb hr (fun t ht hW => ⟨⟨0, (), rfl, by rw [ef], by rw [ht, ef]; exact hP, by rw [ef]; exact hD⟩, hS.F ht⟩) hS.2.2 dX3_addColumn_63
    · refine lv_iconst (v := 1) hx hb dX3_addColumn_20 (by decide) ?_
      refine lv_goto (tgt := 52) hx hb dX3_addColumn_21 (by decide) ?_
      have hS := sw_n (B := A) hS
      refine va_put (D := D) (ci := 3) (v := .int 1) (ty := .int) (C := RX3) (T := TX3) (N := 13) hx hb hts uin_X3_addColumn_X3 tyX3 tyX3_ok nmX3 hown hG.1 hP hD hS 0 rfl rfl 12 (by decide) (hts (.fieldLink RX3 41 "TableSpliceModel" "thrown" "I") (List.mem_of_getElem? (i := 1) rfl)) (fun _ h9 => h9) rfl (by decide +kernel) rfl rfl (Nat.le_of_ble_eq_true rfl) dX3_addColumn_52 (fun H locs hP hD hS => ?_)
      have hP : va_P D vwCl (wN cyI cyZ ad mc mw mn me mu mr mz mf 1) H := hP
      have hD : va_D A (wN cyI cyZ ad mc mw mn me mu mr mz mf 1) := hD
      refine lv_aload_n hx hb dX3_addColumn_55 rfl (lv_at hl 0 rfl) ?_
      refine va_get (D := D) (ci := 3) (v := .int 1) (C := RX3) (T := TX3) (N := 13) hx hb hts uin_X3_addColumn_X3 hown hG.1 hP 0 rfl rfl 12 (by decide) (hts (.fieldLink RX3 41 "TableSpliceModel" "thrown" "I") (List.mem_of_getElem? (i := 1) rfl)) (fun _ h9 => h9) rfl dX3_addColumn_56 ?_
      refine lv_if_le (tgt := 64) hx hb dX3_addColumn_59 (by decide) (fun c_59 => ?_) (fun c_59 => ?_)
      · exact absurd c_59 (by decide)
      · refine lv_iconst (v := 0) hx hb dX3_addColumn_62 (by decide) ?_
        have ef : f_X3_addColumn mc mn me mf p1 p2 p3 = (0, mc, mn, me, mf, 1) := by rw [f_X3_addColumn, if_neg c_7, if_pos c_17]
        exact W.iret (v := 0) hx hb hr (fun t ht hW => ⟨⟨0, (), rfl, by rw [ef], by rw [ht, ef]; exact hP, by rw [ef]; exact hD⟩, hS.F ht⟩) hS.2.2 dX3_addColumn_63
def f_X3_dropColumn (mc : Nat → Int32) (mn : Nat → Int32) (mf : Int32) (p1 : Int32) (p2 : Int32) : Int32 × (Nat → Int32) × Int32 × Int32 := if ((f_X3_findsColumn_2 mc p1 p2).1) = 0 then (0, mc, mf, ((f_X3_findsColumn_2 mc p1 p2).2)) else (mn ((8 * p1) + p2).toNatClampNeg, (upd mc (p1).toNatClampNeg ((mc (p1).toNatClampNeg) &&& ((1 <<< (p2 &&& 31)) ^^^ (-1)))), 0, ((f_X3_findsColumn_2 mc p1 p2).2))
theorem uin_X3_dropColumn_X3 : ∀ w ∈ wsX30, w ∈ wsX3_dropColumn := fun _ h => List.mem_cons_of_mem _ (List.mem_append_right _ h)
set_option maxHeartbeats 4000000 in
set_option maxRecDepth 100000 in
theorem k_X3_dropColumn (l : Launch) (D : va_G) (cyI cyZ : ClassId) (ad : Nat → Nat) (mc : Nat → Int32) (mw : Nat → Int32) (mn : Nat → Int32) (me : Nat → Int32) (mu : Nat → Int32) (mr : Nat → Int32) (mz : Kr) (mf : Int32) (mt : Int32) (p1 : Int32) (p2 : Int32) (A : Nat → Prop) (sz : Nat) (hAe : A = va_A (wN cyI cyZ ad mc mw mn me mu mr mz mf mt) sz) : Met l yX3_dropColumn wsX3_dropColumn ({ frames := 2, cells := 0, slots := 0, locals := 45 } : Room) (pcM D cyI cyZ sz [.ref (ad 0), .int p1, .int p2] (wN cyI cyZ ad mc mw mn me mu mr mz mf mt)) (mI D A (wN cyI cyZ ad (f_X3_dropColumn mc mn mf p1 p2).2.1 mw mn me mu mr mz (f_X3_dropColumn mc mn mf p1 p2).2.2.1 (f_X3_dropColumn mc mn mf p1 p2).2.2.2) (f_X3_dropColumn mc mn mf p1 p2).1) 0 0 A := by
  refine Met.ofW (cc := cX3_dropColumn) (maxL := 3) (ret := (some .int)) (by decide) rfl ?_
  intro p e s m args below meth c s₁ B hml hv
  obtain ⟨rfl, hsz, hP, hG, hD0⟩ := hv
  have hx := B.exec
  have hb := B.bytes
  have hr := B.returns
  have hts := atoms_spec (ws := wsX3_dropColumn) B.pre
  have hown : s.vm.findClass RX3 = some m.cls := findClass_of_methodNamed B.named
  have hlocks := B.notSynchronized
  subst hsz
  have hD : va_D A (wN cyI cyZ ad mc mw mn me mu mr mz mf mt) := by rw [hAe]; exact hD0.self
  have hA : ∀ q : Nat, s.heap.size ≤ q → A q := fun q h => by rw [hAe]; exact Or.inr h
  clear hAe hD0
  have hS : va_S nA s.heap s.heap [] := va_S.rf
  have hl := lv_entry ([.ref (ad 0), .int p1, .int p2]) (n := 3) (Nat.le_of_ble_eq_true rfl)
  rw [lg_entry_eq]
  generalize (lg_sl ([.ref (ad 0), .int p1, .int p2]) ++ List.replicate (3 - (lg_sl ([.ref (ad 0), .int p1, .int p2])).length) Slot.unset).toArray = ls at hl ⊢
  have hl : lv_has ls 3 [(0, .ref (ad 0)), (1, .int p1), (2, .int p2)] := hl
  have hP : va_P D vwCl (wN cyI cyZ ad mc mw mn me mu mr mz mf mt) s.heap := hP
  refine lv_aload_n hx hb dX3_dropColumn_0 rfl (lv_at hl 0 rfl) ?_
  refine lv_iload_n hx hb dX3_dropColumn_1 rfl (lv_at hl 1 rfl) ?_
  refine lv_iconst (v := 2) hx hb dX3_dropColumn_2 (by decide) ?_
  refine lv_iload_n hx hb dX3_dropColumn_3 rfl (lv_at hl 2 rfl) ?_
  have hS := sw_n (B := A) hS
  refine mr_i0 (va_runV (As := [.int p1, .int 2, .int p2]) (rest := []) ⟨hx, hb, hml, hown, hts⟩ (k_X3_findsColumn_2 l D cyI cyZ ad mc mw mn me mu mr mz mf mt p1 p2 _ _ rfl) (cwV 3 hts gX3_dropColumn_X3_findsColumn rfl rfl rfl (by decide +kernel) ⟨Nat.le_of_ble_eq_true rfl, Nat.le_of_ble_eq_true rfl⟩) (pmV hG hP hD (ci := 3) rfl rfl rfl) rfl rfl hl.1 rfl (lv_room (Nat.le_of_ble_eq_true rfl)) dX3_dropColumn_4 ⟨Nat.zero_le _, Nat.zero_le _⟩) hD hS hA (fun H locs hP hD hS => ?_)
  have hP : va_P D vwCl (wN cyI cyZ ad mc mw mn me mu mr mz mf ((f_X3_findsColumn_2 mc p1 p2).2)) H := hP
  have hD : va_D A (wN cyI cyZ ad mc mw mn me mu mr mz mf ((f_X3_findsColumn_2 mc p1 p2).2)) := hD
  refine lv_if_ne (tgt := 12) hx hb dX3_dropColumn_7 (by decide) (fun c_7 => ?_) (fun c_7 => ?_)
  · refine lv_aload_n hx hb dX3_dropColumn_12 rfl (lv_at hl 0 rfl) ?_
    refine va_get (D := D) (ci := 3) (v := .ref (ad 1)) (C := RX3) (T := TX3) (N := 13) hx hb hts uin_X3_dropColumn_X3 hown hG.1 hP 0 rfl rfl 0 (by decide) (hts (.fieldLink RX3 7 "TableSpliceModel" "columns" "[I") (List.mem_of_getElem? (i := 1) rfl)) (fun _ h9 => h9) rfl dX3_dropColumn_13 ?_
    refine lv_iload_n hx hb dX3_dropColumn_16 rfl (lv_at hl 1 rfl) ?_
    refine lv_dup2_11 hx hb dX3_dropColumn_17 rfl rfl ?_
    refine va_iald hx hb hG.1 hP 1 0 rfl rfl (vi_mono (in_findsColumn_2_p1 c_7) (by decide)) dX3_dropColumn_18 ?_
    refine lv_iconst (v := 1) hx hb dX3_dropColumn_19 (by decide) ?_
    refine lv_iload_n hx hb dX3_dropColumn_20 rfl (lv_at hl 2 rfl) ?_
    refine lv_ishl hx hb dX3_dropColumn_21 ?_
    refine lv_iconst (v := (-1)) hx hb dX3_dropColumn_22 (by decide) ?_
    refine lv_ixor hx hb dX3_dropColumn_23 ?_
    refine lv_iand hx hb dX3_dropColumn_24 ?_
    refine va_iast hx hb hG.1 hP hD hS 1 0 rfl rfl (vi_mono (in_findsColumn_2_p1 c_7) (by decide)) dX3_dropColumn_25 (fun H locs hP hD hS => ?_)
    have hP : va_P D vwCl (wN cyI cyZ ad (upd mc (p1).toNatClampNeg ((mc (p1).toNatClampNeg) &&& ((1 <<< (p2 &&& 31)) ^^^ (-1)))) mw mn me mu mr mz mf ((f_X3_findsColumn_2 mc p1 p2).2)) H := hP
    have hD : va_D A (wN cyI cyZ ad (upd mc (p1).toNatClampNeg ((mc (p1).toNatClampNeg) &&& ((1 <<< (p2 &&& 31)) ^^^ (-1)))) mw mn me mu mr mz mf ((f_X3_findsColumn_2 mc p1 p2).2)) := hD
    refine lv_aload_n hx hb dX3_dropColumn_26 rfl (lv_at hl 0 rfl) ?_
    refine lv_iconst (v := 0) hx hb dX3_dropColumn_27 (by decide) ?_
    refine va_put (D := D) (ci := 3) (v := .int 0) (ty := .boolean) (C := RX3) (T := TX3) (N := 13) hx hb hts uin_X3_dropColumn_X3 tyX3 tyX3_ok nmX3 hown hG.1 hP hD hS 0 rfl rfl 7 (by decide) (hts (.fieldLink RX3 56 "TableSpliceModel" "fresh" "Z") (List.mem_of_getElem? (i := 2) rfl)) (fun _ h9 => h9) rfl (by decide +kernel) rfl rfl (Nat.le_of_ble_eq_true rfl) dX3_dropColumn_28 (fun H locs hP hD hS => ?_)
    have hP : va_P D vwCl (wN cyI cyZ ad (upd mc (p1).toNatClampNeg ((mc (p1).toNatClampNeg) &&& ((1 <<< (p2 &&& 31)) ^^^ (-1)))) mw mn me mu mr mz 0 ((f_X3_findsColumn_2 mc p1 p2).2)) H := hP
    have hD : va_D A (wN cyI cyZ ad (upd mc (p1).toNatClampNeg ((mc (p1).toNatClampNeg) &&& ((1 <<< (p2 &&& 31)) ^^^ (-1)))) mw mn me mu mr mz 0 ((f_X3_findsColumn_2 mc p1 p2).2)) := hD
    refine lv_aload_n hx hb dX3_dropColumn_31 rfl (lv_at hl 0 rfl) ?_
    refine va_get (D := D) (ci := 3) (v := .ref (ad 3)) (C := RX3) (T := TX3) (N := 13) hx hb hts uin_X3_dropColumn_X3 hown hG.1 hP 0 rfl rfl 2 (by decide) (hts (.fieldLink RX3 16 "TableSpliceModel" "name" "[I") (List.mem_of_getElem? (i := 3) rfl)) (fun _ h9 => h9) rfl dX3_dropColumn_32 ?_
    refine lv_bipush (v := 8) hx hb dX3_dropColumn_35 (by decide) ?_
    refine lv_iload_n hx hb dX3_dropColumn_37 rfl (lv_at hl 1 rfl) ?_
    refine lv_imul hx hb dX3_dropColumn_38 ?_
    refine lv_iload_n hx hb dX3_dropColumn_39 rfl (lv_at hl 2 rfl) ?_
    refine lv_iadd hx hb dX3_dropColumn_40 ?_
    refine va_iald hx hb hG.1 hP 3 0 rfl rfl (vi_mono (vi_add (k := 24) (vi_mul (c := 8) (k := 17) rfl (in_findsColumn_2_p1 c_7) (by decide) (by decide) (by decide)) (in_findsColumn_2_p2 c_7) (by decide) (by decide)) (by decide)) dX3_dropColumn_41 ?_
    have ef : f_X3_dropColumn mc mn mf p1 p2 = (mn ((8 * p1) + p2).toNatClampNeg, (upd mc (p1).toNatClampNeg ((mc (p1).toNatClampNeg) &&& ((1 <<< (p2 &&& 31)) ^^^ (-1)))), 0, ((f_X3_findsColumn_2 mc p1 p2).2)) := by rw [f_X3_dropColumn, if_neg c_7]
    exact W.iret (v := mn ((8 * p1) + p2).toNatClampNeg) hx hb hr (fun t ht hW => ⟨⟨mn ((8 * p1) + p2).toNatClampNeg, (), rfl, by rw [ef], by rw [ht, ef]; exact hP, by rw [ef]; exact hD⟩, hS.F ht⟩) hS.2.2 dX3_dropColumn_42
  · refine lv_iconst (v := 0) hx hb dX3_dropColumn_10 (by decide) ?_
    have ef : f_X3_dropColumn mc mn mf p1 p2 = (0, mc, mf, ((f_X3_findsColumn_2 mc p1 p2).2)) := by rw [f_X3_dropColumn, if_pos c_7]
    exact W.iret (v := 0) hx hb hr (fun t ht hW => ⟨⟨0, (), rfl, by rw [ef], by rw [ht, ef]; exact hP, by rw [ef]; exact hD⟩, hS.F ht⟩) hS.2.2 dX3_dropColumn_11
def f_X3_rename (mc : Nat → Int32) (mn : Nat → Int32) (mf : Int32) (p1 : Int32) (p2 : Int32) (p3 : Int32) : Int32 × (Nat → Int32) × Int32 × Int32 := if ((f_X3_findsColumn_2 mc p1 p2).1) = 0 then (0, mn, mf, ((f_X3_findsColumn_2 mc p1 p2).2)) else (if (f_X3_isIn p3 0 99) = 0 then (0, mn, mf, 2) else (mn ((8 * p1) + p2).toNatClampNeg, (upd mn ((8 * p1) + p2).toNatClampNeg p3), 0, 0))
theorem uin_X3_rename_X3 : ∀ w ∈ wsX30, w ∈ wsX3_rename := fun _ h => List.mem_cons_of_mem _ (List.mem_append_right _ h)
set_option maxHeartbeats 4000000 in
set_option maxRecDepth 100000 in
theorem k_X3_rename (l : Launch) (D : va_G) (cyI cyZ : ClassId) (ad : Nat → Nat) (mc : Nat → Int32) (mw : Nat → Int32) (mn : Nat → Int32) (me : Nat → Int32) (mu : Nat → Int32) (mr : Nat → Int32) (mz : Kr) (mf : Int32) (mt : Int32) (p1 : Int32) (p2 : Int32) (p3 : Int32) (A : Nat → Prop) (sz : Nat) (hAe : A = va_A (wN cyI cyZ ad mc mw mn me mu mr mz mf mt) sz) : Met l yX3_rename wsX3_rename ({ frames := 2, cells := 0, slots := 0, locals := 45 } : Room) (pcM D cyI cyZ sz [.ref (ad 0), .int p1, .int p2, .int p3] (wN cyI cyZ ad mc mw mn me mu mr mz mf mt)) (mI D A (wN cyI cyZ ad mc mw (f_X3_rename mc mn mf p1 p2 p3).2.1 me mu mr mz (f_X3_rename mc mn mf p1 p2 p3).2.2.1 (f_X3_rename mc mn mf p1 p2 p3).2.2.2) (f_X3_rename mc mn mf p1 p2 p3).1) 0 0 A := by
  refine Met.ofW (cc := cX3_rename) (maxL := 5) (ret := (some .int)) (by decide) rfl ?_
  intro p e s m args below meth c s₁ B hml hv
  obtain ⟨rfl, hsz, hP, hG, hD0⟩ := hv
  have hx := B.exec
  have hb := B.bytes
  have hr := B.returns
  have hts := atoms_spec (ws := wsX3_rename) B.pre
  have hown : s.vm.findClass RX3 = some m.cls := findClass_of_methodNamed B.named
  have hlocks := B.notSynchronized
  subst hsz
  have hD : va_D A (wN cyI cyZ ad mc mw mn me mu mr mz mf mt) := by rw [hAe]; exact hD0.self
  have hA : ∀ q : Nat, s.heap.size ≤ q → A q := fun q h => by rw [hAe]; exact Or.inr h
  clear hAe hD0
  have hS : va_S nA s.heap s.heap [] := va_S.rf
  have hl := lv_entry ([.ref (ad 0), .int p1, .int p2, .int p3]) (n := 5) (Nat.le_of_ble_eq_true rfl)
  rw [lg_entry_eq]
  generalize (lg_sl ([.ref (ad 0), .int p1, .int p2, .int p3]) ++ List.replicate (5 - (lg_sl ([.ref (ad 0), .int p1, .int p2, .int p3])).length) Slot.unset).toArray = ls at hl ⊢
  have hl : lv_has ls 5 [(0, .ref (ad 0)), (1, .int p1), (2, .int p2), (3, .int p3)] := hl
  have hP : va_P D vwCl (wN cyI cyZ ad mc mw mn me mu mr mz mf mt) s.heap := hP
  refine lv_aload_n hx hb dX3_rename_0 rfl (lv_at hl 0 rfl) ?_
  refine lv_iload_n hx hb dX3_rename_1 rfl (lv_at hl 1 rfl) ?_
  refine lv_iconst (v := 2) hx hb dX3_rename_2 (by decide) ?_
  refine lv_iload_n hx hb dX3_rename_3 rfl (lv_at hl 2 rfl) ?_
  have hS := sw_n (B := A) hS
  refine mr_i0 (va_runV (As := [.int p1, .int 2, .int p2]) (rest := []) ⟨hx, hb, hml, hown, hts⟩ (k_X3_findsColumn_2 l D cyI cyZ ad mc mw mn me mu mr mz mf mt p1 p2 _ _ rfl) (cwV 3 hts gX3_rename_X3_findsColumn rfl rfl rfl (by decide +kernel) ⟨Nat.le_of_ble_eq_true rfl, Nat.le_of_ble_eq_true rfl⟩) (pmV hG hP hD (ci := 3) rfl rfl rfl) rfl rfl hl.1 rfl (lv_room (Nat.le_of_ble_eq_true rfl)) dX3_rename_4 ⟨Nat.zero_le _, Nat.zero_le _⟩) hD hS hA (fun H locs hP hD hS => ?_)
  have hP : va_P D vwCl (wN cyI cyZ ad mc mw mn me mu mr mz mf ((f_X3_findsColumn_2 mc p1 p2).2)) H := hP
  have hD : va_D A (wN cyI cyZ ad mc mw mn me mu mr mz mf ((f_X3_findsColumn_2 mc p1 p2).2)) := hD
  refine lv_if_ne (tgt := 12) hx hb dX3_rename_7 (by decide) (fun c_7 => ?_) (fun c_7 => ?_)
  · refine lv_aload_n hx hb dX3_rename_12 rfl (lv_at hl 0 rfl) ?_
    refine lv_iload_n hx hb dX3_rename_13 rfl (lv_at hl 3 rfl) ?_
    refine lv_iconst (v := 0) hx hb dX3_rename_14 (by decide) ?_
    refine lv_bipush (v := 99) hx hb dX3_rename_15 (by decide) ?_
    refine pr_i (va_runS (As := [.int p3, .int 0, .int 99]) (rest := [.ref (ad 0)]) ⟨hx, hb, hml, hown, hts⟩ (k_X3_isIn l D cyI cyZ p3 0 99) (va_cwS 3 hts gX3_rename_X3_isIn rfl rfl rfl (by decide +kernel) ⟨Nat.le_of_ble_eq_true rfl, Nat.le_of_ble_eq_true rfl⟩) (prS hG (hP.sub (ws' := []) [] rfl)) rfl rfl hl.1 rfl (lv_room (Nat.le_of_ble_eq_true rfl)) dX3_rename_17 ⟨Nat.zero_le _, Nat.zero_le _⟩) hS hP (fun H locs hP hS => ?_)
    refine lv_if_eq (tgt := 27) hx hb dX3_rename_20 (by decide) (fun c_20 => ?_) (fun c_20 => ?_)
    · refine lv_iconst (v := 2) hx hb dX3_rename_27 (by decide) ?_
      refine va_put (D := D) (ci := 3) (v := .int 2) (ty := .int) (C := RX3) (T := TX3) (N := 13) hx hb hts uin_X3_rename_X3 tyX3 tyX3_ok nmX3 hown hG.1 hP hD hS 0 rfl rfl 12 (by decide) (hts (.fieldLink RX3 41 "TableSpliceModel" "thrown" "I") (List.mem_of_getElem? (i := 1) rfl)) (fun _ h9 => h9) rfl (by decide +kernel) rfl rfl (Nat.le_of_ble_eq_true rfl) dX3_rename_28 (fun H locs hP hD hS => ?_)
      have hP : va_P D vwCl (wN cyI cyZ ad mc mw mn me mu mr mz mf 2) H := hP
      have hD : va_D A (wN cyI cyZ ad mc mw mn me mu mr mz mf 2) := hD
      refine lv_aload_n hx hb dX3_rename_31 rfl (lv_at hl 0 rfl) ?_
      refine va_get (D := D) (ci := 3) (v := .int 2) (C := RX3) (T := TX3) (N := 13) hx hb hts uin_X3_rename_X3 hown hG.1 hP 0 rfl rfl 12 (by decide) (hts (.fieldLink RX3 41 "TableSpliceModel" "thrown" "I") (List.mem_of_getElem? (i := 1) rfl)) (fun _ h9 => h9) rfl dX3_rename_32 ?_
      refine lv_if_le (tgt := 40) hx hb dX3_rename_35 (by decide) (fun c_35 => ?_) (fun c_35 => ?_)
      · exact absurd c_35 (by decide)
      · refine lv_iconst (v := 0) hx hb dX3_rename_38 (by decide) ?_
        have ef : f_X3_rename mc mn mf p1 p2 p3 = (0, mn, mf, 2) := by rw [f_X3_rename, if_neg c_7, if_pos c_20]
        exact W.iret (v := 0) hx hb hr (fun t ht hW => ⟨⟨0, (), rfl, by rw [ef], by rw [ht, ef]; exact hP, by rw [ef]; exact hD⟩, hS.F ht⟩) hS.2.2 dX3_rename_39
    · refine lv_iconst (v := 0) hx hb dX3_rename_23 (by decide) ?_
      refine lv_goto (tgt := 28) hx hb dX3_rename_24 (by decide) ?_
      refine va_put (D := D) (ci := 3) (v := .int 0) (ty := .int) (C := RX3) (T := TX3) (N := 13) hx hb hts uin_X3_rename_X3 tyX3 tyX3_ok nmX3 hown hG.1 hP hD hS 0 rfl rfl 12 (by decide) (hts (.fieldLink RX3 41 "TableSpliceModel" "thrown" "I") (List.mem_of_getElem? (i := 1) rfl)) (fun _ h9 => h9) rfl (by decide +kernel) rfl rfl (Nat.le_of_ble_eq_true rfl) dX3_rename_28 (fun H locs hP hD hS => ?_)
      have hP : va_P D vwCl (wN cyI cyZ ad mc mw mn me mu mr mz mf 0) H := hP
      have hD : va_D A (wN cyI cyZ ad mc mw mn me mu mr mz mf 0) := hD
      refine lv_aload_n hx hb dX3_rename_31 rfl (lv_at hl 0 rfl) ?_
      refine va_get (D := D) (ci := 3) (v := .int 0) (C := RX3) (T := TX3) (N := 13) hx hb hts uin_X3_rename_X3 hown hG.1 hP 0 rfl rfl 12 (by decide) (hts (.fieldLink RX3 41 "TableSpliceModel" "thrown" "I") (List.mem_of_getElem? (i := 1) rfl)) (fun _ h9 => h9) rfl dX3_rename_32 ?_
      refine lv_if_le (tgt := 40) hx hb dX3_rename_35 (by decide) (fun c_35 => ?_) (fun c_35 => ?_)
      · refine lv_aload_n hx hb dX3_rename_40 rfl (lv_at hl 0 rfl) ?_
        refine va_get (D := D) (ci := 3) (v := .ref (ad 3)) (C := RX3) (T := TX3) (N := 13) hx hb hts uin_X3_rename_X3 hown hG.1 hP 0 rfl rfl 2 (by decide) (hts (.fieldLink RX3 16 "TableSpliceModel" "name" "[I") (List.mem_of_getElem? (i := 2) rfl)) (fun _ h9 => h9) rfl dX3_rename_41 ?_
        refine lv_bipush (v := 8) hx hb dX3_rename_44 (by decide) ?_
        refine lv_iload_n hx hb dX3_rename_46 rfl (lv_at hl 1 rfl) ?_
        refine lv_imul hx hb dX3_rename_47 ?_
        refine lv_iload_n hx hb dX3_rename_48 rfl (lv_at hl 2 rfl) ?_
        refine lv_iadd hx hb dX3_rename_49 ?_
        refine va_iald hx hb hG.1 hP 3 0 rfl rfl (vi_mono (vi_add (k := 24) (vi_mul (c := 8) (k := 17) rfl (in_findsColumn_2_p1 c_7) (by decide) (by decide) (by decide)) (in_findsColumn_2_p2 c_7) (by decide) (by decide)) (by decide)) dX3_rename_50 ?_
        refine lv_istore (lv' := [(4, .int (mn ((8 * p1) + p2).toNatClampNeg)), (0, .ref (ad 0)), (1, .int p1), (2, .int p2), (3, .int p3)]) hx hb dX3_rename_51 hl (by decide) rfl (fun ls hl => ?_)
        refine lv_aload_n hx hb dX3_rename_53 rfl (lv_at hl 1 rfl) ?_
        refine va_get (D := D) (ci := 3) (v := .ref (ad 3)) (C := RX3) (T := TX3) (N := 13) hx hb hts uin_X3_rename_X3 hown hG.1 hP 0 rfl rfl 2 (by decide) (hts (.fieldLink RX3 16 "TableSpliceModel" "name" "[I") (List.mem_of_getElem? (i := 2) rfl)) (fun _ h9 => h9) rfl dX3_rename_54 ?_
        refine lv_bipush (v := 8) hx hb dX3_rename_57 (by decide) ?_
        refine lv_iload_n hx hb dX3_rename_59 rfl (lv_at hl 2 rfl) ?_
        refine lv_imul hx hb dX3_rename_60 ?_
        refine lv_iload_n hx hb dX3_rename_61 rfl (lv_at hl 3 rfl) ?_
        refine lv_iadd hx hb dX3_rename_62 ?_
        refine lv_iload_n hx hb dX3_rename_63 rfl (lv_at hl 4 rfl) ?_
        refine va_iast hx hb hG.1 hP hD hS 3 0 rfl rfl (vi_mono (vi_add (k := 24) (vi_mul (c := 8) (k := 17) rfl (in_findsColumn_2_p1 c_7) (by decide) (by decide) (by decide)) (in_findsColumn_2_p2 c_7) (by decide) (by decide)) (by decide)) dX3_rename_64 (fun H locs hP hD hS => ?_)
        have hP : va_P D vwCl (wN cyI cyZ ad mc mw (upd mn ((8 * p1) + p2).toNatClampNeg p3) me mu mr mz mf 0) H := hP
        have hD : va_D A (wN cyI cyZ ad mc mw (upd mn ((8 * p1) + p2).toNatClampNeg p3) me mu mr mz mf 0) := hD
        refine lv_aload_n hx hb dX3_rename_65 rfl (lv_at hl 1 rfl) ?_
        refine lv_iconst (v := 0) hx hb dX3_rename_66 (by decide) ?_
        refine va_put (D := D) (ci := 3) (v := .int 0) (ty := .boolean) (C := RX3) (T := TX3) (N := 13) hx hb hts uin_X3_rename_X3 tyX3 tyX3_ok nmX3 hown hG.1 hP hD hS 0 rfl rfl 7 (by decide) (hts (.fieldLink RX3 56 "TableSpliceModel" "fresh" "Z") (List.mem_of_getElem? (i := 3) rfl)) (fun _ h9 => h9) rfl (by decide +kernel) rfl rfl (Nat.le_of_ble_eq_true rfl) dX3_rename_67 (fun H locs hP hD hS => ?_)
        have hP : va_P D vwCl (wN cyI cyZ ad mc mw (upd mn ((8 * p1) + p2).toNatClampNeg p3) me mu mr mz 0 0) H := hP
        have hD : va_D A (wN cyI cyZ ad mc mw (upd mn ((8 * p1) + p2).toNatClampNeg p3) me mu mr mz 0 0) := hD
        refine lv_iload hx hb dX3_rename_70 (lv_at hl 0 rfl) ?_
        have ef : f_X3_rename mc mn mf p1 p2 p3 = (mn ((8 * p1) + p2).toNatClampNeg, (upd mn ((8 * p1) + p2).toNatClampNeg p3), 0, 0) := by rw [f_X3_rename, if_neg c_7, if_neg c_20]
        exact W.iret (v := mn ((8 * p1) + p2).toNatClampNeg) hx hb hr (fun t ht hW => ⟨⟨mn ((8 * p1) + p2).toNatClampNeg, (), rfl, by rw [ef], by rw [ht, ef]; exact hP, by rw [ef]; exact hD⟩, hS.F ht⟩) hS.2.2 dX3_rename_72
      · exact absurd (by decide) c_35
  · refine lv_iconst (v := 0) hx hb dX3_rename_10 (by decide) ?_
    have ef : f_X3_rename mc mn mf p1 p2 p3 = (0, mn, mf, ((f_X3_findsColumn_2 mc p1 p2).2)) := by rw [f_X3_rename, if_pos c_7]
    exact W.iret (v := 0) hx hb hr (fun t ht hW => ⟨⟨0, (), rfl, by rw [ef], by rw [ht, ef]; exact hP, by rw [ef]; exact hD⟩, hS.F ht⟩) hS.2.2 dX3_rename_11
def f_X3_addRow_sa (p1 : Int32) (p2 : Int32) (ia : Nat) (me_a : Nat → Int32) : (Nat → Int32) := (upd me_a (((192 * p1) + (8 * p2)) + (nI ia)).toNatClampNeg 0)
def f_X3_addRow_la (me : Nat → Int32) (p1 : Int32) (p2 : Int32) : (Nat → Int32) := it (fun (i9 : Nat) (z9 : (Nat → Int32)) => f_X3_addRow_sa p1 p2 i9 z9) me 8
def f_X3_addRow (mw : Nat → Int32) (me : Nat → Int32) (mf : Int32) (p1 : Int32) (p2 : Int32) : Int32 × (Nat → Int32) × (Nat → Int32) × Int32 × Int32 := if (f_X3_isIn p1 0 2) = 0 then ((0, mw, me, mf, 1)) else (if (f_X3_isIn p2 0 23) = 0 then ((0, mw, me, mf, 1)) else (if (f_X3_hasRow mw p1 p2) = 0 then ((f_X3_count ((upd mw (p1).toNatClampNeg ((mw (p1).toNatClampNeg) ||| (1 <<< (p2 &&& 31)))) (p1).toNatClampNeg), (upd mw (p1).toNatClampNeg ((mw (p1).toNatClampNeg) ||| (1 <<< (p2 &&& 31)))), ((f_X3_addRow_la me p1 p2)), 0, 0)) else ((0, mw, me, mf, 2))))
theorem uin_X3_addRow_X3 : ∀ w ∈ wsX30, w ∈ wsX3_addRow := fun _ h => List.mem_cons_of_mem _ (List.mem_append_right _ h)
set_option maxHeartbeats 4000000 in
set_option maxRecDepth 100000 in
theorem k_X3_addRow (l : Launch) (D : va_G) (cyI cyZ : ClassId) (ad : Nat → Nat) (mc : Nat → Int32) (mw : Nat → Int32) (mn : Nat → Int32) (me : Nat → Int32) (mu : Nat → Int32) (mr : Nat → Int32) (mz : Kr) (mf : Int32) (mt : Int32) (p1 : Int32) (p2 : Int32) (A : Nat → Prop) (sz : Nat) (hAe : A = va_A (wN cyI cyZ ad mc mw mn me mu mr mz mf mt) sz) : Met l yX3_addRow wsX3_addRow ({ frames := 1, cells := 0, slots := 0, locals := 22 } : Room) (pcM D cyI cyZ sz [.ref (ad 0), .int p1, .int p2] (wN cyI cyZ ad mc mw mn me mu mr mz mf mt)) (mI D A (wN cyI cyZ ad mc (f_X3_addRow mw me mf p1 p2).2.1 mn (f_X3_addRow mw me mf p1 p2).2.2.1 mu mr mz (f_X3_addRow mw me mf p1 p2).2.2.2.1 (f_X3_addRow mw me mf p1 p2).2.2.2.2) (f_X3_addRow mw me mf p1 p2).1) 0 0 A := by
  refine Met.ofW (cc := cX3_addRow) (maxL := 4) (ret := (some .int)) (by decide) rfl ?_
  intro p e s m args below meth c s₁ B hml hv
  obtain ⟨rfl, hsz, hP, hG, hD0⟩ := hv
  have hx := B.exec
  have hb := B.bytes
  have hr := B.returns
  have hts := atoms_spec (ws := wsX3_addRow) B.pre
  have hown : s.vm.findClass RX3 = some m.cls := findClass_of_methodNamed B.named
  have hlocks := B.notSynchronized
  subst hsz
  have hD : va_D A (wN cyI cyZ ad mc mw mn me mu mr mz mf mt) := by rw [hAe]; exact hD0.self
  have hA : ∀ q : Nat, s.heap.size ≤ q → A q := fun q h => by rw [hAe]; exact Or.inr h
  clear hAe hD0
  have hS : va_S nA s.heap s.heap [] := va_S.rf
  have hl := lv_entry ([.ref (ad 0), .int p1, .int p2]) (n := 4) (Nat.le_of_ble_eq_true rfl)
  rw [lg_entry_eq]
  generalize (lg_sl ([.ref (ad 0), .int p1, .int p2]) ++ List.replicate (4 - (lg_sl ([.ref (ad 0), .int p1, .int p2])).length) Slot.unset).toArray = ls at hl ⊢
  have hl : lv_has ls 4 [(0, .ref (ad 0)), (1, .int p1), (2, .int p2)] := hl
  have hP : va_P D vwCl (wN cyI cyZ ad mc mw mn me mu mr mz mf mt) s.heap := hP
  refine lv_aload_n hx hb dX3_addRow_0 rfl (lv_at hl 0 rfl) ?_
  refine lv_iload_n hx hb dX3_addRow_1 rfl (lv_at hl 1 rfl) ?_
  refine lv_iconst (v := 0) hx hb dX3_addRow_2 (by decide) ?_
  refine lv_iconst (v := 2) hx hb dX3_addRow_3 (by decide) ?_
  refine pr_i (va_runS (As := [.int p1, .int 0, .int 2]) (rest := [.ref (ad 0)]) ⟨hx, hb, hml, hown, hts⟩ (k_X3_isIn l D cyI cyZ p1 0 2) (va_cwS 3 hts gX3_addRow_X3_isIn rfl rfl rfl (by decide +kernel) ⟨Nat.le_of_ble_eq_true rfl, Nat.le_of_ble_eq_true rfl⟩) (prS hG (hP.sub (ws' := []) [] rfl)) rfl rfl hl.1 rfl (lv_room (Nat.le_of_ble_eq_true rfl)) dX3_addRow_4 ⟨Nat.zero_le _, Nat.zero_le _⟩) hS hP (fun H locs hP hS => ?_)
  refine lv_if_eq (tgt := 20) hx hb dX3_addRow_7 (by decide) (fun c_7 => ?_) (fun c_7 => ?_)
  · refine lv_iconst (v := 1) hx hb dX3_addRow_20 (by decide) ?_
    refine lv_goto (tgt := 38) hx hb dX3_addRow_21 (by decide) ?_
    have hS := sw_n (B := A) hS
    refine va_put (D := D) (ci := 3) (v := .int 1) (ty := .int) (C := RX3) (T := TX3) (N := 13) hx hb hts uin_X3_addRow_X3 tyX3 tyX3_ok nmX3 hown hG.1 hP hD hS 0 rfl rfl 12 (by decide) (hts (.fieldLink RX3 41 "TableSpliceModel" "thrown" "I") (List.mem_of_getElem? (i := 1) rfl)) (fun _ h9 => h9) rfl (by decide +kernel) rfl rfl (Nat.le_of_ble_eq_true rfl) dX3_addRow_38 (fun H locs hP hD hS => ?_)
    have hP : va_P D vwCl (wN cyI cyZ ad mc mw mn me mu mr mz mf 1) H := hP
    have hD : va_D A (wN cyI cyZ ad mc mw mn me mu mr mz mf 1) := hD
    refine lv_aload_n hx hb dX3_addRow_41 rfl (lv_at hl 0 rfl) ?_
    refine va_get (D := D) (ci := 3) (v := .int 1) (C := RX3) (T := TX3) (N := 13) hx hb hts uin_X3_addRow_X3 hown hG.1 hP 0 rfl rfl 12 (by decide) (hts (.fieldLink RX3 41 "TableSpliceModel" "thrown" "I") (List.mem_of_getElem? (i := 1) rfl)) (fun _ h9 => h9) rfl dX3_addRow_42 ?_
    refine lv_if_le (tgt := 50) hx hb dX3_addRow_45 (by decide) (fun c_45 => ?_) (fun c_45 => ?_)
    · exact absurd c_45 (by decide)
    · refine lv_iconst (v := 0) hx hb dX3_addRow_48 (by decide) ?_
      have ef : f_X3_addRow mw me mf p1 p2 = (0, mw, me, mf, 1) := by rw [f_X3_addRow, if_pos c_7]
      exact W.iret (v := 0) hx hb hr (fun t ht hW => ⟨⟨0, (), rfl, by rw [ef], by rw [ht, ef]; exact hP, by rw [ef]; exact hD⟩, hS.F ht⟩) hS.2.2 dX3_addRow_49
  · refine lv_iload_n hx hb dX3_addRow_10 rfl (lv_at hl 2 rfl) ?_
    refine lv_iconst (v := 0) hx hb dX3_addRow_11 (by decide) ?_
    refine lv_bipush (v := 23) hx hb dX3_addRow_12 (by decide) ?_
    refine pr_i (va_runS (As := [.int p2, .int 0, .int 23]) (rest := [.ref (ad 0)]) ⟨hx, hb, hml, hown, hts⟩ (k_X3_isIn l D cyI cyZ p2 0 23) (va_cwS 3 hts gX3_addRow_X3_isIn rfl rfl rfl (by decide +kernel) ⟨Nat.le_of_ble_eq_true rfl, Nat.le_of_ble_eq_true rfl⟩) (prS hG (hP.sub (ws' := []) [] rfl)) rfl rfl hl.1 rfl (lv_room (Nat.le_of_ble_eq_true rfl)) dX3_addRow_14 ⟨Nat.zero_le _, Nat.zero_le _⟩) hS hP (fun H locs hP hS => ?_)
    refine lv_if_ne (tgt := 24) hx hb dX3_addRow_17 (by decide) (fun c_17 => ?_) (fun c_17 => ?_)
    · refine lv_aload_n hx hb dX3_addRow_24 rfl (lv_at hl 0 rfl) ?_
      refine lv_iload_n hx hb dX3_addRow_25 rfl (lv_at hl 1 rfl) ?_
      refine lv_iload_n hx hb dX3_addRow_26 rfl (lv_at hl 2 rfl) ?_
      refine pr_i (va_runV (As := [.int p1, .int p2]) (rest := [.ref (ad 0)]) ⟨hx, hb, hml, hown, hts⟩ (k_X3_hasRow l D cyI cyZ ad mc mw mn me mu mr mz mf mt p1 p2 (vi_mono (in_isIn (n := 2) rfl (by decide) c_7) (by decide))) (cwV 2 hts gX3_addRow_X3_hasRow rfl rfl rfl (by decide +kernel) ⟨Nat.le_of_ble_eq_true rfl, Nat.le_of_ble_eq_true rfl⟩) (prV hG hP (ci := 3) rfl rfl rfl) rfl rfl hl.1 rfl (lv_room (Nat.le_of_ble_eq_true rfl)) dX3_addRow_27 ⟨Nat.zero_le _, Nat.zero_le _⟩) hS hP (fun H locs hP hS => ?_)
      refine lv_if_eq (tgt := 37) hx hb dX3_addRow_30 (by decide) (fun c_30 => ?_) (fun c_30 => ?_)
      · refine lv_iconst (v := 0) hx hb dX3_addRow_37 (by decide) ?_
        have hS := sw_n (B := A) hS
        refine va_put (D := D) (ci := 3) (v := .int 0) (ty := .int) (C := RX3) (T := TX3) (N := 13) hx hb hts uin_X3_addRow_X3 tyX3 tyX3_ok nmX3 hown hG.1 hP hD hS 0 rfl rfl 12 (by decide) (hts (.fieldLink RX3 41 "TableSpliceModel" "thrown" "I") (List.mem_of_getElem? (i := 1) rfl)) (fun _ h9 => h9) rfl (by decide +kernel) rfl rfl (Nat.le_of_ble_eq_true rfl) dX3_addRow_38 (fun H locs hP hD hS => ?_)
        have hP : va_P D vwCl (wN cyI cyZ ad mc mw mn me mu mr mz mf 0) H := hP
        have hD : va_D A (wN cyI cyZ ad mc mw mn me mu mr mz mf 0) := hD
        refine lv_aload_n hx hb dX3_addRow_41 rfl (lv_at hl 0 rfl) ?_
        refine va_get (D := D) (ci := 3) (v := .int 0) (C := RX3) (T := TX3) (N := 13) hx hb hts uin_X3_addRow_X3 hown hG.1 hP 0 rfl rfl 12 (by decide) (hts (.fieldLink RX3 41 "TableSpliceModel" "thrown" "I") (List.mem_of_getElem? (i := 1) rfl)) (fun _ h9 => h9) rfl dX3_addRow_42 ?_
        refine lv_if_le (tgt := 50) hx hb dX3_addRow_45 (by decide) (fun c_45 => ?_) (fun c_45 => ?_)
        · refine lv_aload_n hx hb dX3_addRow_50 rfl (lv_at hl 0 rfl) ?_
          refine va_get (D := D) (ci := 3) (v := .ref (ad 2)) (C := RX3) (T := TX3) (N := 13) hx hb hts uin_X3_addRow_X3 hown hG.1 hP 0 rfl rfl 1 (by decide) (hts (.fieldLink RX3 13 "TableSpliceModel" "rows" "[I") (List.mem_of_getElem? (i := 2) rfl)) (fun _ h9 => h9) rfl dX3_addRow_51 ?_
          refine lv_iload_n hx hb dX3_addRow_54 rfl (lv_at hl 1 rfl) ?_
          refine lv_dup2_11 hx hb dX3_addRow_55 rfl rfl ?_
          refine va_iald hx hb hG.1 hP 2 0 rfl rfl (vi_mono (in_isIn (n := 2) rfl (by decide) c_7) (by decide)) dX3_addRow_56 ?_
          refine lv_iconst (v := 1) hx hb dX3_addRow_57 (by decide) ?_
          refine lv_iload_n hx hb dX3_addRow_58 rfl (lv_at hl 2 rfl) ?_
          refine lv_ishl hx hb dX3_addRow_59 ?_
          refine lv_ior hx hb dX3_addRow_60 ?_
          refine va_iast hx hb hG.1 hP hD hS 2 0 rfl rfl (vi_mono (in_isIn (n := 2) rfl (by decide) c_7) (by decide)) dX3_addRow_61 (fun H locs hP hD hS => ?_)
          have hP : va_P D vwCl (wN cyI cyZ ad mc (upd mw (p1).toNatClampNeg ((mw (p1).toNatClampNeg) ||| (1 <<< (p2 &&& 31)))) mn me mu mr mz mf 0) H := hP
          have hD : va_D A (wN cyI cyZ ad mc (upd mw (p1).toNatClampNeg ((mw (p1).toNatClampNeg) ||| (1 <<< (p2 &&& 31)))) mn me mu mr mz mf 0) := hD
          refine lv_iconst (v := 0) hx hb dX3_addRow_62 (by decide) ?_
          refine lv_istore_n (lv' := [(3, .int 0), (0, .ref (ad 0)), (1, .int p1), (2, .int p2)]) hx hb dX3_addRow_63 rfl hl (by decide) rfl (fun ls hl => ?_)
          have lp_a : ∀ (n ia : Nat), ia + n = 8 → ∀ (me_a : Nat → Int32), me_a = it (fun (i9 : Nat) (z9 : (Nat → Int32)) => f_X3_addRow_sa p1 p2 i9 z9) me ia → ∀ (H : Heap) (locs : List Loc), va_P D vwCl (wN cyI cyZ ad mc (upd mw (p1).toNatClampNeg ((mw (p1).toNatClampNeg) ||| (1 <<< (p2 &&& 31)))) mn me_a mu mr mz mf 0) H → va_D A (wN cyI cyZ ad mc (upd mw (p1).toNatClampNeg ((mw (p1).toNatClampNeg) ||| (1 <<< (p2 &&& 31)))) mn me_a mu mr mz mf 0) → va_S A s.heap H locs → ∀ (ls : Array Slot), lv_has ls 4 [(3, .int (nI ia)), (0, .ref (ad 0)), (1, .int p1), (2, .int p2)] → W p l e (headSpec wsX3_addRow ({ frames := 1, cells := 0, slots := 0, locals := 22 } : Room)).room s m ([.ref (ad 0), .int p1, .int p2] : List Value).toArray below meth c H locs 0 0 (MQ below (mI D A (wN cyI cyZ ad mc (f_X3_addRow mw me mf p1 p2).2.1 mn (f_X3_addRow mw me mf p1 p2).2.2.1 mu mr mz (f_X3_addRow mw me mf p1 p2).2.2.2.1 (f_X3_addRow mw me mf p1 p2).2.2.2.2) (f_X3_addRow mw me mf p1 p2).1) ([.ref (ad 0), .int p1, .int p2] : List Value).toArray s 0 0 A) (F0 m 64 ls []) := by
            intro n
            induction n with
            | zero =>
              intro ia hi_a me_a hs_a H locs hP hD hS ls hl
              obtain rfl : 8 = ia := by omega
              obtain rfl : me_a = (f_X3_addRow_la me p1 p2) := hs_a
              refine lv_iload_n hx hb dX3_addRow_64 rfl (lv_at hl 0 rfl) ?_
              refine lv_bipush (v := 8) hx hb dX3_addRow_65 (by decide) ?_
              refine lv_icmp_ge (tgt := 94) hx hb dX3_addRow_67 (by decide) (fun c_67 => ?_) (fun c_67 => ?_)
              · refine lv_aload_n hx hb dX3_addRow_94 rfl (lv_at hl 1 rfl) ?_
                refine lv_iconst (v := 0) hx hb dX3_addRow_95 (by decide) ?_
                refine va_put (D := D) (ci := 3) (v := .int 0) (ty := .boolean) (C := RX3) (T := TX3) (N := 13) hx hb hts uin_X3_addRow_X3 tyX3 tyX3_ok nmX3 hown hG.1 hP hD hS 0 rfl rfl 7 (by decide) (hts (.fieldLink RX3 56 "TableSpliceModel" "fresh" "Z") (List.mem_of_getElem? (i := 4) rfl)) (fun _ h9 => h9) rfl (by decide +kernel) rfl rfl (Nat.le_of_ble_eq_true rfl) dX3_addRow_96 (fun H locs hP hD hS => ?_)
                have hP : va_P D vwCl (wN cyI cyZ ad mc (upd mw (p1).toNatClampNeg ((mw (p1).toNatClampNeg) ||| (1 <<< (p2 &&& 31)))) mn ((f_X3_addRow_la me p1 p2)) mu mr mz 0 0) H := hP
                have hD : va_D A (wN cyI cyZ ad mc (upd mw (p1).toNatClampNeg ((mw (p1).toNatClampNeg) ||| (1 <<< (p2 &&& 31)))) mn ((f_X3_addRow_la me p1 p2)) mu mr mz 0 0) := hD
                refine lv_aload_n hx hb dX3_addRow_99 rfl (lv_at hl 1 rfl) ?_
                refine va_get (D := D) (ci := 3) (v := .ref (ad 2)) (C := RX3) (T := TX3) (N := 13) hx hb hts uin_X3_addRow_X3 hown hG.1 hP 0 rfl rfl 1 (by decide) (hts (.fieldLink RX3 13 "TableSpliceModel" "rows" "[I") (List.mem_of_getElem? (i := 2) rfl)) (fun _ h9 => h9) rfl dX3_addRow_100 ?_
                refine lv_iload_n hx hb dX3_addRow_103 rfl (lv_at hl 2 rfl) ?_
                refine va_iald hx hb hG.1 hP 2 0 rfl rfl (vi_mono (in_isIn (n := 2) rfl (by decide) c_7) (by decide)) dX3_addRow_104 ?_
                refine pr_i (va_runS (As := [.int ((upd mw (p1).toNatClampNeg ((mw (p1).toNatClampNeg) ||| (1 <<< (p2 &&& 31)))) (p1).toNatClampNeg)]) (rest := []) ⟨hx, hb, hml, hown, hts⟩ (k_X3_count l D cyI cyZ ((upd mw (p1).toNatClampNeg ((mw (p1).toNatClampNeg) ||| (1 <<< (p2 &&& 31)))) (p1).toNatClampNeg)) (va_cwS 1 hts gX3_addRow_X3_count rfl rfl rfl (by decide +kernel) ⟨Nat.le_of_ble_eq_true rfl, Nat.le_of_ble_eq_true rfl⟩) (prS hG (hP.sub (ws' := []) [] rfl)) rfl rfl hl.1 rfl (lv_room (Nat.le_of_ble_eq_true rfl)) dX3_addRow_105 ⟨Nat.zero_le _, Nat.zero_le _⟩) hS hP (fun H locs hP hS => ?_)
                have ef : f_X3_addRow mw me mf p1 p2 = (f_X3_count ((upd mw (p1).toNatClampNeg ((mw (p1).toNatClampNeg) ||| (1 <<< (p2 &&& 31)))) (p1).toNatClampNeg), (upd mw (p1).toNatClampNeg ((mw (p1).toNatClampNeg) ||| (1 <<< (p2 &&& 31)))), ((f_X3_addRow_la me p1 p2)), 0, 0) := by rw [f_X3_addRow, if_neg c_7, if_neg c_17, if_pos c_30]
                exact W.iret (v := f_X3_count ((upd mw (p1).toNatClampNeg ((mw (p1).toNatClampNeg) ||| (1 <<< (p2 &&& 31)))) (p1).toNatClampNeg)) hx hb hr (fun t ht hW => ⟨⟨f_X3_count ((upd mw (p1).toNatClampNeg ((mw (p1).toNatClampNeg) ||| (1 <<< (p2 &&& 31)))) (p1).toNatClampNeg), (), rfl, by rw [ef], by rw [ht, ef]; exact hP, by rw [ef]; exact hD⟩, hS.F ht⟩) hS.2.2 dX3_addRow_108
              · exact absurd (by decide) c_67
            | succ n ih_a =>
              intro ia hi_a me_a hs_a H locs hP hD hS ls hl
              have hj_a : ia < 8 := by omega
              refine lv_iload_n hx hb dX3_addRow_64 rfl (lv_at hl 0 rfl) ?_
              refine lv_bipush (v := 8) hx hb dX3_addRow_65 (by decide) ?_
              refine lv_icmp_ge (tgt := 94) hx hb dX3_addRow_67 (by decide) (fun c_67 => ?_) (fun c_67 => ?_)
              · exact absurd c_67 (nI_ge hj_a (by decide))
              · refine lv_aload_n hx hb dX3_addRow_70 rfl (lv_at hl 1 rfl) ?_
                refine va_get (D := D) (ci := 3) (v := .ref (ad 4)) (C := RX3) (T := TX3) (N := 13) hx hb hts uin_X3_addRow_X3 hown hG.1 hP 0 rfl rfl 3 (by decide) (hts (.fieldLink RX3 19 "TableSpliceModel" "cell" "[I") (List.mem_of_getElem? (i := 3) rfl)) (fun _ h9 => h9) rfl dX3_addRow_71 ?_
                refine lv_sipush (v := 192) hx hb dX3_addRow_74 (by decide) ?_
                refine lv_iload_n hx hb dX3_addRow_77 rfl (lv_at hl 2 rfl) ?_
                refine lv_imul hx hb dX3_addRow_78 ?_
                refine lv_bipush (v := 8) hx hb dX3_addRow_79 (by decide) ?_
                refine lv_iload_n hx hb dX3_addRow_81 rfl (lv_at hl 3 rfl) ?_
                refine lv_imul hx hb dX3_addRow_82 ?_
                refine lv_iadd hx hb dX3_addRow_83 ?_
                refine lv_iload_n hx hb dX3_addRow_84 rfl (lv_at hl 0 rfl) ?_
                refine lv_iadd hx hb dX3_addRow_85 ?_
                refine lv_iconst (v := 0) hx hb dX3_addRow_86 (by decide) ?_
                refine va_iast hx hb hG.1 hP hD hS 4 0 rfl rfl (vi_mono (vi_add (k := 576) (vi_add (k := 569) (vi_mul (c := 192) (k := 385) rfl (in_isIn (n := 2) rfl (by decide) c_7) (by decide) (by decide) (by decide)) (vi_mul (c := 8) (k := 185) rfl (in_isIn (n := 23) rfl (by decide) c_17) (by decide) (by decide) (by decide)) (by decide) (by decide)) (vp_in_nI (n := ia) (N := 8) (by omega) (by omega)) (by decide) (by decide)) (by decide)) dX3_addRow_87 (fun H locs hP hD hS => ?_)
                have hP : va_P D vwCl (wN cyI cyZ ad mc (upd mw (p1).toNatClampNeg ((mw (p1).toNatClampNeg) ||| (1 <<< (p2 &&& 31)))) mn (upd me_a (((192 * p1) + (8 * p2)) + (nI ia)).toNatClampNeg 0) mu mr mz mf 0) H := hP
                have hD : va_D A (wN cyI cyZ ad mc (upd mw (p1).toNatClampNeg ((mw (p1).toNatClampNeg) ||| (1 <<< (p2 &&& 31)))) mn (upd me_a (((192 * p1) + (8 * p2)) + (nI ia)).toNatClampNeg 0) mu mr mz mf 0) := hD
                refine lv_iinc (v := nI (ia + 1)) (lv' := [(3, .int (nI (ia + 1))), (0, .ref (ad 0)), (1, .int p1), (2, .int p2)]) hx hb dX3_addRow_88 hl (k := 0) rfl (nI_1 _) (by decide) rfl (fun ls hl => ?_)
                refine lv_goto (tgt := 64) hx hb dX3_addRow_91 (by decide) ?_
                exact ih_a (ia + 1) (by omega) (upd me_a (((192 * p1) + (8 * p2)) + (nI ia)).toNatClampNeg 0) (it_s hs_a (by show f_X3_addRow_sa p1 p2 ia me_a = _; rw [f_X3_addRow_sa])) _ _ hP hD hS ls (lv_sub hl [0, 1, 2, 3] rfl)
          exact lp_a 8 0 (by omega) me rfl _ _ hP hD hS ls (lv_sub hl [0, 1, 2, 3] rfl)
        · exact absurd (by decide) c_45
      · refine lv_iconst (v := 2) hx hb dX3_addRow_33 (by decide) ?_
        refine lv_goto (tgt := 38) hx hb dX3_addRow_34 (by decide) ?_
        have hS := sw_n (B := A) hS
        refine va_put (D := D) (ci := 3) (v := .int 2) (ty := .int) (C := RX3) (T := TX3) (N := 13) hx hb hts uin_X3_addRow_X3 tyX3 tyX3_ok nmX3 hown hG.1 hP hD hS 0 rfl rfl 12 (by decide) (hts (.fieldLink RX3 41 "TableSpliceModel" "thrown" "I") (List.mem_of_getElem? (i := 1) rfl)) (fun _ h9 => h9) rfl (by decide +kernel) rfl rfl (Nat.le_of_ble_eq_true rfl) dX3_addRow_38 (fun H locs hP hD hS => ?_)
        have hP : va_P D vwCl (wN cyI cyZ ad mc mw mn me mu mr mz mf 2) H := hP
        have hD : va_D A (wN cyI cyZ ad mc mw mn me mu mr mz mf 2) := hD
        refine lv_aload_n hx hb dX3_addRow_41 rfl (lv_at hl 0 rfl) ?_
        refine va_get (D := D) (ci := 3) (v := .int 2) (C := RX3) (T := TX3) (N := 13) hx hb hts uin_X3_addRow_X3 hown hG.1 hP 0 rfl rfl 12 (by decide) (hts (.fieldLink RX3 41 "TableSpliceModel" "thrown" "I") (List.mem_of_getElem? (i := 1) rfl)) (fun _ h9 => h9) rfl dX3_addRow_42 ?_
        refine lv_if_le (tgt := 50) hx hb dX3_addRow_45 (by decide) (fun c_45 => ?_) (fun c_45 => ?_)
        · exact absurd c_45 (by decide)
        · refine lv_iconst (v := 0) hx hb dX3_addRow_48 (by decide) ?_
          have ef : f_X3_addRow mw me mf p1 p2 = (0, mw, me, mf, 2) := by rw [f_X3_addRow, if_neg c_7, if_neg c_17, if_neg c_30]
          exact W.iret (v := 0) hx hb hr (fun t ht hW => ⟨⟨0, (), rfl, by rw [ef], by rw [ht, ef]; exact hP, by rw [ef]; exact hD⟩, hS.F ht⟩) hS.2.2 dX3_addRow_49
    · refine lv_iconst (v := 1) hx hb dX3_addRow_20 (by decide) ?_
      refine lv_goto (tgt := 38) hx hb dX3_addRow_21 (by decide) ?_
      have hS := sw_n (B := A) hS
      refine va_put (D := D) (ci := 3) (v := .int 1) (ty := .int) (C := RX3) (T := TX3) (N := 13) hx hb hts uin_X3_addRow_X3 tyX3 tyX3_ok nmX3 hown hG.1 hP hD hS 0 rfl rfl 12 (by decide) (hts (.fieldLink RX3 41 "TableSpliceModel" "thrown" "I") (List.mem_of_getElem? (i := 1) rfl)) (fun _ h9 => h9) rfl (by decide +kernel) rfl rfl (Nat.le_of_ble_eq_true rfl) dX3_addRow_38 (fun H locs hP hD hS => ?_)
      have hP : va_P D vwCl (wN cyI cyZ ad mc mw mn me mu mr mz mf 1) H := hP
      have hD : va_D A (wN cyI cyZ ad mc mw mn me mu mr mz mf 1) := hD
      refine lv_aload_n hx hb dX3_addRow_41 rfl (lv_at hl 0 rfl) ?_
      refine va_get (D := D) (ci := 3) (v := .int 1) (C := RX3) (T := TX3) (N := 13) hx hb hts uin_X3_addRow_X3 hown hG.1 hP 0 rfl rfl 12 (by decide) (hts (.fieldLink RX3 41 "TableSpliceModel" "thrown" "I") (List.mem_of_getElem? (i := 1) rfl)) (fun _ h9 => h9) rfl dX3_addRow_42 ?_
      refine lv_if_le (tgt := 50) hx hb dX3_addRow_45 (by decide) (fun c_45 => ?_) (fun c_45 => ?_)
      · exact absurd c_45 (by decide)
      · refine lv_iconst (v := 0) hx hb dX3_addRow_48 (by decide) ?_
        have ef : f_X3_addRow mw me mf p1 p2 = (0, mw, me, mf, 1) := by rw [f_X3_addRow, if_neg c_7, if_pos c_17]
        exact W.iret (v := 0) hx hb hr (fun t ht hW => ⟨⟨0, (), rfl, by rw [ef], by rw [ht, ef]; exact hP, by rw [ef]; exact hD⟩, hS.F ht⟩) hS.2.2 dX3_addRow_49
def f_X3_removeRow (mw : Nat → Int32) (mf : Int32) (p1 : Int32) (p2 : Int32) : Int32 × (Nat → Int32) × Int32 × Int32 := if (f_X3_isIn p1 0 2) = 0 then ((0, mw, mf, 1)) else (if (f_X3_isIn p2 0 23) = 0 then ((0, mw, mf, 1)) else (if (f_X3_hasRow mw p1 p2) = 0 then ((0, mw, mf, 1)) else ((f_X3_count ((upd mw (p1).toNatClampNeg ((mw (p1).toNatClampNeg) &&& ((1 <<< (p2 &&& 31)) ^^^ (-1)))) (p1).toNatClampNeg), (upd mw (p1).toNatClampNeg ((mw (p1).toNatClampNeg) &&& ((1 <<< (p2 &&& 31)) ^^^ (-1)))), 0, 0))))
theorem uin_X3_removeRow_X3 : ∀ w ∈ wsX30, w ∈ wsX3_removeRow := fun _ h => List.mem_cons_of_mem _ (List.mem_append_right _ h)
set_option maxHeartbeats 4000000 in
set_option maxRecDepth 100000 in
theorem k_X3_removeRow (l : Launch) (D : va_G) (cyI cyZ : ClassId) (ad : Nat → Nat) (mc : Nat → Int32) (mw : Nat → Int32) (mn : Nat → Int32) (me : Nat → Int32) (mu : Nat → Int32) (mr : Nat → Int32) (mz : Kr) (mf : Int32) (mt : Int32) (p1 : Int32) (p2 : Int32) (A : Nat → Prop) (sz : Nat) (hAe : A = va_A (wN cyI cyZ ad mc mw mn me mu mr mz mf mt) sz) : Met l yX3_removeRow wsX3_removeRow ({ frames := 1, cells := 0, slots := 0, locals := 22 } : Room) (pcM D cyI cyZ sz [.ref (ad 0), .int p1, .int p2] (wN cyI cyZ ad mc mw mn me mu mr mz mf mt)) (mI D A (wN cyI cyZ ad mc (f_X3_removeRow mw mf p1 p2).2.1 mn me mu mr mz (f_X3_removeRow mw mf p1 p2).2.2.1 (f_X3_removeRow mw mf p1 p2).2.2.2) (f_X3_removeRow mw mf p1 p2).1) 0 0 A := by
  refine Met.ofW (cc := cX3_removeRow) (maxL := 3) (ret := (some .int)) (by decide) rfl ?_
  intro p e s m args below meth c s₁ B hml hv
  obtain ⟨rfl, hsz, hP, hG, hD0⟩ := hv
  have hx := B.exec
  have hb := B.bytes
  have hr := B.returns
  have hts := atoms_spec (ws := wsX3_removeRow) B.pre
  have hown : s.vm.findClass RX3 = some m.cls := findClass_of_methodNamed B.named
  have hlocks := B.notSynchronized
  subst hsz
  have hD : va_D A (wN cyI cyZ ad mc mw mn me mu mr mz mf mt) := by rw [hAe]; exact hD0.self
  have hA : ∀ q : Nat, s.heap.size ≤ q → A q := fun q h => by rw [hAe]; exact Or.inr h
  clear hAe hD0
  have hS : va_S nA s.heap s.heap [] := va_S.rf
  have hl := lv_entry ([.ref (ad 0), .int p1, .int p2]) (n := 3) (Nat.le_of_ble_eq_true rfl)
  rw [lg_entry_eq]
  generalize (lg_sl ([.ref (ad 0), .int p1, .int p2]) ++ List.replicate (3 - (lg_sl ([.ref (ad 0), .int p1, .int p2])).length) Slot.unset).toArray = ls at hl ⊢
  have hl : lv_has ls 3 [(0, .ref (ad 0)), (1, .int p1), (2, .int p2)] := hl
  have hP : va_P D vwCl (wN cyI cyZ ad mc mw mn me mu mr mz mf mt) s.heap := hP
  refine lv_aload_n hx hb dX3_removeRow_0 rfl (lv_at hl 0 rfl) ?_
  refine lv_iload_n hx hb dX3_removeRow_1 rfl (lv_at hl 1 rfl) ?_
  refine lv_iconst (v := 0) hx hb dX3_removeRow_2 (by decide) ?_
  refine lv_iconst (v := 2) hx hb dX3_removeRow_3 (by decide) ?_
  refine pr_i (va_runS (As := [.int p1, .int 0, .int 2]) (rest := [.ref (ad 0)]) ⟨hx, hb, hml, hown, hts⟩ (k_X3_isIn l D cyI cyZ p1 0 2) (va_cwS 3 hts gX3_removeRow_X3_isIn rfl rfl rfl (by decide +kernel) ⟨Nat.le_of_ble_eq_true rfl, Nat.le_of_ble_eq_true rfl⟩) (prS hG (hP.sub (ws' := []) [] rfl)) rfl rfl hl.1 rfl (lv_room (Nat.le_of_ble_eq_true rfl)) dX3_removeRow_4 ⟨Nat.zero_le _, Nat.zero_le _⟩) hS hP (fun H locs hP hS => ?_)
  refine lv_if_eq (tgt := 33) hx hb dX3_removeRow_7 (by decide) (fun c_7 => ?_) (fun c_7 => ?_)
  · refine lv_iconst (v := 1) hx hb dX3_removeRow_33 (by decide) ?_
    have hS := sw_n (B := A) hS
    refine va_put (D := D) (ci := 3) (v := .int 1) (ty := .int) (C := RX3) (T := TX3) (N := 13) hx hb hts uin_X3_removeRow_X3 tyX3 tyX3_ok nmX3 hown hG.1 hP hD hS 0 rfl rfl 12 (by decide) (hts (.fieldLink RX3 41 "TableSpliceModel" "thrown" "I") (List.mem_of_getElem? (i := 1) rfl)) (fun _ h9 => h9) rfl (by decide +kernel) rfl rfl (Nat.le_of_ble_eq_true rfl) dX3_removeRow_34 (fun H locs hP hD hS => ?_)
    have hP : va_P D vwCl (wN cyI cyZ ad mc mw mn me mu mr mz mf 1) H := hP
    have hD : va_D A (wN cyI cyZ ad mc mw mn me mu mr mz mf 1) := hD
    refine lv_aload_n hx hb dX3_removeRow_37 rfl (lv_at hl 0 rfl) ?_
    refine va_get (D := D) (ci := 3) (v := .int 1) (C := RX3) (T := TX3) (N := 13) hx hb hts uin_X3_removeRow_X3 hown hG.1 hP 0 rfl rfl 12 (by decide) (hts (.fieldLink RX3 41 "TableSpliceModel" "thrown" "I") (List.mem_of_getElem? (i := 1) rfl)) (fun _ h9 => h9) rfl dX3_removeRow_38 ?_
    refine lv_if_le (tgt := 46) hx hb dX3_removeRow_41 (by decide) (fun c_41 => ?_) (fun c_41 => ?_)
    · exact absurd c_41 (by decide)
    · refine lv_iconst (v := 0) hx hb dX3_removeRow_44 (by decide) ?_
      have ef : f_X3_removeRow mw mf p1 p2 = (0, mw, mf, 1) := by rw [f_X3_removeRow, if_pos c_7]
      exact W.iret (v := 0) hx hb hr (fun t ht hW => ⟨⟨0, (), rfl, by rw [ef], by rw [ht, ef]; exact hP, by rw [ef]; exact hD⟩, hS.F ht⟩) hS.2.2 dX3_removeRow_45
  · refine lv_iload_n hx hb dX3_removeRow_10 rfl (lv_at hl 2 rfl) ?_
    refine lv_iconst (v := 0) hx hb dX3_removeRow_11 (by decide) ?_
    refine lv_bipush (v := 23) hx hb dX3_removeRow_12 (by decide) ?_
    refine pr_i (va_runS (As := [.int p2, .int 0, .int 23]) (rest := [.ref (ad 0)]) ⟨hx, hb, hml, hown, hts⟩ (k_X3_isIn l D cyI cyZ p2 0 23) (va_cwS 3 hts gX3_removeRow_X3_isIn rfl rfl rfl (by decide +kernel) ⟨Nat.le_of_ble_eq_true rfl, Nat.le_of_ble_eq_true rfl⟩) (prS hG (hP.sub (ws' := []) [] rfl)) rfl rfl hl.1 rfl (lv_room (Nat.le_of_ble_eq_true rfl)) dX3_removeRow_14 ⟨Nat.zero_le _, Nat.zero_le _⟩) hS hP (fun H locs hP hS => ?_)
    refine lv_if_eq (tgt := 33) hx hb dX3_removeRow_17 (by decide) (fun c_17 => ?_) (fun c_17 => ?_)
    · refine lv_iconst (v := 1) hx hb dX3_removeRow_33 (by decide) ?_
      have hS := sw_n (B := A) hS
      refine va_put (D := D) (ci := 3) (v := .int 1) (ty := .int) (C := RX3) (T := TX3) (N := 13) hx hb hts uin_X3_removeRow_X3 tyX3 tyX3_ok nmX3 hown hG.1 hP hD hS 0 rfl rfl 12 (by decide) (hts (.fieldLink RX3 41 "TableSpliceModel" "thrown" "I") (List.mem_of_getElem? (i := 1) rfl)) (fun _ h9 => h9) rfl (by decide +kernel) rfl rfl (Nat.le_of_ble_eq_true rfl) dX3_removeRow_34 (fun H locs hP hD hS => ?_)
      have hP : va_P D vwCl (wN cyI cyZ ad mc mw mn me mu mr mz mf 1) H := hP
      have hD : va_D A (wN cyI cyZ ad mc mw mn me mu mr mz mf 1) := hD
      refine lv_aload_n hx hb dX3_removeRow_37 rfl (lv_at hl 0 rfl) ?_
      refine va_get (D := D) (ci := 3) (v := .int 1) (C := RX3) (T := TX3) (N := 13) hx hb hts uin_X3_removeRow_X3 hown hG.1 hP 0 rfl rfl 12 (by decide) (hts (.fieldLink RX3 41 "TableSpliceModel" "thrown" "I") (List.mem_of_getElem? (i := 1) rfl)) (fun _ h9 => h9) rfl dX3_removeRow_38 ?_
      refine lv_if_le (tgt := 46) hx hb dX3_removeRow_41 (by decide) (fun c_41 => ?_) (fun c_41 => ?_)
      · exact absurd c_41 (by decide)
      · refine lv_iconst (v := 0) hx hb dX3_removeRow_44 (by decide) ?_
        have ef : f_X3_removeRow mw mf p1 p2 = (0, mw, mf, 1) := by rw [f_X3_removeRow, if_neg c_7, if_pos c_17]
        exact W.iret (v := 0) hx hb hr (fun t ht hW => ⟨⟨0, (), rfl, by rw [ef], by rw [ht, ef]; exact hP, by rw [ef]; exact hD⟩, hS.F ht⟩) hS.2.2 dX3_removeRow_45
    · refine lv_aload_n hx hb dX3_removeRow_20 rfl (lv_at hl 0 rfl) ?_
      refine lv_iload_n hx hb dX3_removeRow_21 rfl (lv_at hl 1 rfl) ?_
      refine lv_iload_n hx hb dX3_removeRow_22 rfl (lv_at hl 2 rfl) ?_
      refine pr_i (va_runV (As := [.int p1, .int p2]) (rest := [.ref (ad 0)]) ⟨hx, hb, hml, hown, hts⟩ (k_X3_hasRow l D cyI cyZ ad mc mw mn me mu mr mz mf mt p1 p2 (vi_mono (in_isIn (n := 2) rfl (by decide) c_7) (by decide))) (cwV 2 hts gX3_removeRow_X3_hasRow rfl rfl rfl (by decide +kernel) ⟨Nat.le_of_ble_eq_true rfl, Nat.le_of_ble_eq_true rfl⟩) (prV hG hP (ci := 3) rfl rfl rfl) rfl rfl hl.1 rfl (lv_room (Nat.le_of_ble_eq_true rfl)) dX3_removeRow_23 ⟨Nat.zero_le _, Nat.zero_le _⟩) hS hP (fun H locs hP hS => ?_)
      refine lv_if_eq (tgt := 33) hx hb dX3_removeRow_26 (by decide) (fun c_26 => ?_) (fun c_26 => ?_)
      · refine lv_iconst (v := 1) hx hb dX3_removeRow_33 (by decide) ?_
        have hS := sw_n (B := A) hS
        refine va_put (D := D) (ci := 3) (v := .int 1) (ty := .int) (C := RX3) (T := TX3) (N := 13) hx hb hts uin_X3_removeRow_X3 tyX3 tyX3_ok nmX3 hown hG.1 hP hD hS 0 rfl rfl 12 (by decide) (hts (.fieldLink RX3 41 "TableSpliceModel" "thrown" "I") (List.mem_of_getElem? (i := 1) rfl)) (fun _ h9 => h9) rfl (by decide +kernel) rfl rfl (Nat.le_of_ble_eq_true rfl) dX3_removeRow_34 (fun H locs hP hD hS => ?_)
        have hP : va_P D vwCl (wN cyI cyZ ad mc mw mn me mu mr mz mf 1) H := hP
        have hD : va_D A (wN cyI cyZ ad mc mw mn me mu mr mz mf 1) := hD
        refine lv_aload_n hx hb dX3_removeRow_37 rfl (lv_at hl 0 rfl) ?_
        refine va_get (D := D) (ci := 3) (v := .int 1) (C := RX3) (T := TX3) (N := 13) hx hb hts uin_X3_removeRow_X3 hown hG.1 hP 0 rfl rfl 12 (by decide) (hts (.fieldLink RX3 41 "TableSpliceModel" "thrown" "I") (List.mem_of_getElem? (i := 1) rfl)) (fun _ h9 => h9) rfl dX3_removeRow_38 ?_
        refine lv_if_le (tgt := 46) hx hb dX3_removeRow_41 (by decide) (fun c_41 => ?_) (fun c_41 => ?_)
        · exact absurd c_41 (by decide)
        · refine lv_iconst (v := 0) hx hb dX3_removeRow_44 (by decide) ?_
          have ef : f_X3_removeRow mw mf p1 p2 = (0, mw, mf, 1) := by rw [f_X3_removeRow, if_neg c_7, if_neg c_17, if_pos c_26]
          exact W.iret (v := 0) hx hb hr (fun t ht hW => ⟨⟨0, (), rfl, by rw [ef], by rw [ht, ef]; exact hP, by rw [ef]; exact hD⟩, hS.F ht⟩) hS.2.2 dX3_removeRow_45
      · refine lv_iconst (v := 0) hx hb dX3_removeRow_29 (by decide) ?_
        refine lv_goto (tgt := 34) hx hb dX3_removeRow_30 (by decide) ?_
        have hS := sw_n (B := A) hS
        refine va_put (D := D) (ci := 3) (v := .int 0) (ty := .int) (C := RX3) (T := TX3) (N := 13) hx hb hts uin_X3_removeRow_X3 tyX3 tyX3_ok nmX3 hown hG.1 hP hD hS 0 rfl rfl 12 (by decide) (hts (.fieldLink RX3 41 "TableSpliceModel" "thrown" "I") (List.mem_of_getElem? (i := 1) rfl)) (fun _ h9 => h9) rfl (by decide +kernel) rfl rfl (Nat.le_of_ble_eq_true rfl) dX3_removeRow_34 (fun H locs hP hD hS => ?_)
        have hP : va_P D vwCl (wN cyI cyZ ad mc mw mn me mu mr mz mf 0) H := hP
        have hD : va_D A (wN cyI cyZ ad mc mw mn me mu mr mz mf 0) := hD
        refine lv_aload_n hx hb dX3_removeRow_37 rfl (lv_at hl 0 rfl) ?_
        refine va_get (D := D) (ci := 3) (v := .int 0) (C := RX3) (T := TX3) (N := 13) hx hb hts uin_X3_removeRow_X3 hown hG.1 hP 0 rfl rfl 12 (by decide) (hts (.fieldLink RX3 41 "TableSpliceModel" "thrown" "I") (List.mem_of_getElem? (i := 1) rfl)) (fun _ h9 => h9) rfl dX3_removeRow_38 ?_
        refine lv_if_le (tgt := 46) hx hb dX3_removeRow_41 (by decide) (fun c_41 => ?_) (fun c_41 => ?_)
        · refine lv_aload_n hx hb dX3_removeRow_46 rfl (lv_at hl 0 rfl) ?_
          refine va_get (D := D) (ci := 3) (v := .ref (ad 2)) (C := RX3) (T := TX3) (N := 13) hx hb hts uin_X3_removeRow_X3 hown hG.1 hP 0 rfl rfl 1 (by decide) (hts (.fieldLink RX3 13 "TableSpliceModel" "rows" "[I") (List.mem_of_getElem? (i := 2) rfl)) (fun _ h9 => h9) rfl dX3_removeRow_47 ?_
          refine lv_iload_n hx hb dX3_removeRow_50 rfl (lv_at hl 1 rfl) ?_
          refine lv_dup2_11 hx hb dX3_removeRow_51 rfl rfl ?_
          refine va_iald hx hb hG.1 hP 2 0 rfl rfl (vi_mono (in_isIn (n := 2) rfl (by decide) c_7) (by decide)) dX3_removeRow_52 ?_
          refine lv_iconst (v := 1) hx hb dX3_removeRow_53 (by decide) ?_
          refine lv_iload_n hx hb dX3_removeRow_54 rfl (lv_at hl 2 rfl) ?_
          refine lv_ishl hx hb dX3_removeRow_55 ?_
          refine lv_iconst (v := (-1)) hx hb dX3_removeRow_56 (by decide) ?_
          refine lv_ixor hx hb dX3_removeRow_57 ?_
          refine lv_iand hx hb dX3_removeRow_58 ?_
          refine va_iast hx hb hG.1 hP hD hS 2 0 rfl rfl (vi_mono (in_isIn (n := 2) rfl (by decide) c_7) (by decide)) dX3_removeRow_59 (fun H locs hP hD hS => ?_)
          have hP : va_P D vwCl (wN cyI cyZ ad mc (upd mw (p1).toNatClampNeg ((mw (p1).toNatClampNeg) &&& ((1 <<< (p2 &&& 31)) ^^^ (-1)))) mn me mu mr mz mf 0) H := hP
          have hD : va_D A (wN cyI cyZ ad mc (upd mw (p1).toNatClampNeg ((mw (p1).toNatClampNeg) &&& ((1 <<< (p2 &&& 31)) ^^^ (-1)))) mn me mu mr mz mf 0) := hD
          refine lv_aload_n hx hb dX3_removeRow_60 rfl (lv_at hl 0 rfl) ?_
          refine lv_iconst (v := 0) hx hb dX3_removeRow_61 (by decide) ?_
          refine va_put (D := D) (ci := 3) (v := .int 0) (ty := .boolean) (C := RX3) (T := TX3) (N := 13) hx hb hts uin_X3_removeRow_X3 tyX3 tyX3_ok nmX3 hown hG.1 hP hD hS 0 rfl rfl 7 (by decide) (hts (.fieldLink RX3 56 "TableSpliceModel" "fresh" "Z") (List.mem_of_getElem? (i := 3) rfl)) (fun _ h9 => h9) rfl (by decide +kernel) rfl rfl (Nat.le_of_ble_eq_true rfl) dX3_removeRow_62 (fun H locs hP hD hS => ?_)
          have hP : va_P D vwCl (wN cyI cyZ ad mc (upd mw (p1).toNatClampNeg ((mw (p1).toNatClampNeg) &&& ((1 <<< (p2 &&& 31)) ^^^ (-1)))) mn me mu mr mz 0 0) H := hP
          have hD : va_D A (wN cyI cyZ ad mc (upd mw (p1).toNatClampNeg ((mw (p1).toNatClampNeg) &&& ((1 <<< (p2 &&& 31)) ^^^ (-1)))) mn me mu mr mz 0 0) := hD
          refine lv_aload_n hx hb dX3_removeRow_65 rfl (lv_at hl 0 rfl) ?_
          refine va_get (D := D) (ci := 3) (v := .ref (ad 2)) (C := RX3) (T := TX3) (N := 13) hx hb hts uin_X3_removeRow_X3 hown hG.1 hP 0 rfl rfl 1 (by decide) (hts (.fieldLink RX3 13 "TableSpliceModel" "rows" "[I") (List.mem_of_getElem? (i := 2) rfl)) (fun _ h9 => h9) rfl dX3_removeRow_66 ?_
          refine lv_iload_n hx hb dX3_removeRow_69 rfl (lv_at hl 1 rfl) ?_
          refine va_iald hx hb hG.1 hP 2 0 rfl rfl (vi_mono (in_isIn (n := 2) rfl (by decide) c_7) (by decide)) dX3_removeRow_70 ?_
          refine pr_i (va_runS (As := [.int ((upd mw (p1).toNatClampNeg ((mw (p1).toNatClampNeg) &&& ((1 <<< (p2 &&& 31)) ^^^ (-1)))) (p1).toNatClampNeg)]) (rest := []) ⟨hx, hb, hml, hown, hts⟩ (k_X3_count l D cyI cyZ ((upd mw (p1).toNatClampNeg ((mw (p1).toNatClampNeg) &&& ((1 <<< (p2 &&& 31)) ^^^ (-1)))) (p1).toNatClampNeg)) (va_cwS 1 hts gX3_removeRow_X3_count rfl rfl rfl (by decide +kernel) ⟨Nat.le_of_ble_eq_true rfl, Nat.le_of_ble_eq_true rfl⟩) (prS hG (hP.sub (ws' := []) [] rfl)) rfl rfl hl.1 rfl (lv_room (Nat.le_of_ble_eq_true rfl)) dX3_removeRow_71 ⟨Nat.zero_le _, Nat.zero_le _⟩) hS hP (fun H locs hP hS => ?_)
          have ef : f_X3_removeRow mw mf p1 p2 = (f_X3_count ((upd mw (p1).toNatClampNeg ((mw (p1).toNatClampNeg) &&& ((1 <<< (p2 &&& 31)) ^^^ (-1)))) (p1).toNatClampNeg), (upd mw (p1).toNatClampNeg ((mw (p1).toNatClampNeg) &&& ((1 <<< (p2 &&& 31)) ^^^ (-1)))), 0, 0) := by rw [f_X3_removeRow, if_neg c_7, if_neg c_17, if_neg c_26]
          exact W.iret (v := f_X3_count ((upd mw (p1).toNatClampNeg ((mw (p1).toNatClampNeg) &&& ((1 <<< (p2 &&& 31)) ^^^ (-1)))) (p1).toNatClampNeg)) hx hb hr (fun t ht hW => ⟨⟨f_X3_count ((upd mw (p1).toNatClampNeg ((mw (p1).toNatClampNeg) &&& ((1 <<< (p2 &&& 31)) ^^^ (-1)))) (p1).toNatClampNeg), (), rfl, by rw [ef], by rw [ht, ef]; exact hP, by rw [ef]; exact hD⟩, hS.F ht⟩) hS.2.2 dX3_removeRow_74
        · exact absurd (by decide) c_41
def f_X3_set (mc : Nat → Int32) (mw : Nat → Int32) (me : Nat → Int32) (mf : Int32) (p1 : Int32) (p2 : Int32) (p3 : Int32) (p4 : Int32) : Int32 × (Nat → Int32) × Int32 × Int32 := if ((f_X3_findsCell_2 mc mw p1 p2 p3).1) = 0 then (0, me, mf, ((f_X3_findsCell_2 mc mw p1 p2 p3).2)) else (if (f_X3_isIn p4 (-9999) 9999) = 0 then (0, me, mf, 2) else (f_X3_at me p1 p2 p3, (upd me (((192 * p1) + (8 * p2)) + p3).toNatClampNeg p4), 0, 0))
theorem uin_X3_set_X3 : ∀ w ∈ wsX30, w ∈ wsX3_set := fun _ h => List.mem_cons_of_mem _ (List.mem_append_right _ h)
set_option maxHeartbeats 4000000 in
set_option maxRecDepth 100000 in
theorem k_X3_set (l : Launch) (D : va_G) (cyI cyZ : ClassId) (ad : Nat → Nat) (mc : Nat → Int32) (mw : Nat → Int32) (mn : Nat → Int32) (me : Nat → Int32) (mu : Nat → Int32) (mr : Nat → Int32) (mz : Kr) (mf : Int32) (mt : Int32) (p1 : Int32) (p2 : Int32) (p3 : Int32) (p4 : Int32) (A : Nat → Prop) (sz : Nat) (hAe : A = va_A (wN cyI cyZ ad mc mw mn me mu mr mz mf mt) sz) : Met l yX3_set wsX3_set ({ frames := 3, cells := 0, slots := 0, locals := 70 } : Room) (pcM D cyI cyZ sz [.ref (ad 0), .int p1, .int p2, .int p3, .int p4] (wN cyI cyZ ad mc mw mn me mu mr mz mf mt)) (mI D A (wN cyI cyZ ad mc mw mn (f_X3_set mc mw me mf p1 p2 p3 p4).2.1 mu mr mz (f_X3_set mc mw me mf p1 p2 p3 p4).2.2.1 (f_X3_set mc mw me mf p1 p2 p3 p4).2.2.2) (f_X3_set mc mw me mf p1 p2 p3 p4).1) 0 0 A := by
  refine Met.ofW (cc := cX3_set) (maxL := 6) (ret := (some .int)) (by decide) rfl ?_
  intro p e s m args below meth c s₁ B hml hv
  obtain ⟨rfl, hsz, hP, hG, hD0⟩ := hv
  have hx := B.exec
  have hb := B.bytes
  have hr := B.returns
  have hts := atoms_spec (ws := wsX3_set) B.pre
  have hown : s.vm.findClass RX3 = some m.cls := findClass_of_methodNamed B.named
  have hlocks := B.notSynchronized
  subst hsz
  have hD : va_D A (wN cyI cyZ ad mc mw mn me mu mr mz mf mt) := by rw [hAe]; exact hD0.self
  have hA : ∀ q : Nat, s.heap.size ≤ q → A q := fun q h => by rw [hAe]; exact Or.inr h
  clear hAe hD0
  have hS : va_S nA s.heap s.heap [] := va_S.rf
  have hl := lv_entry ([.ref (ad 0), .int p1, .int p2, .int p3, .int p4]) (n := 6) (Nat.le_of_ble_eq_true rfl)
  rw [lg_entry_eq]
  generalize (lg_sl ([.ref (ad 0), .int p1, .int p2, .int p3, .int p4]) ++ List.replicate (6 - (lg_sl ([.ref (ad 0), .int p1, .int p2, .int p3, .int p4])).length) Slot.unset).toArray = ls at hl ⊢
  have hl : lv_has ls 6 [(0, .ref (ad 0)), (1, .int p1), (2, .int p2), (3, .int p3), (4, .int p4)] := hl
  have hP : va_P D vwCl (wN cyI cyZ ad mc mw mn me mu mr mz mf mt) s.heap := hP
  refine lv_aload_n hx hb dX3_set_0 rfl (lv_at hl 0 rfl) ?_
  refine lv_iload_n hx hb dX3_set_1 rfl (lv_at hl 1 rfl) ?_
  refine lv_iconst (v := 2) hx hb dX3_set_2 (by decide) ?_
  refine lv_iload_n hx hb dX3_set_3 rfl (lv_at hl 2 rfl) ?_
  refine lv_iload_n hx hb dX3_set_4 rfl (lv_at hl 3 rfl) ?_
  have hS := sw_n (B := A) hS
  refine mr_i0 (va_runV (As := [.int p1, .int 2, .int p2, .int p3]) (rest := []) ⟨hx, hb, hml, hown, hts⟩ (k_X3_findsCell_2 l D cyI cyZ ad mc mw mn me mu mr mz mf mt p1 p2 p3 _ _ rfl) (cwV 4 hts gX3_set_X3_findsCell rfl rfl rfl (by decide +kernel) ⟨Nat.le_of_ble_eq_true rfl, Nat.le_of_ble_eq_true rfl⟩) (pmV hG hP hD (ci := 3) rfl rfl rfl) rfl rfl hl.1 rfl (lv_room (Nat.le_of_ble_eq_true rfl)) dX3_set_5 ⟨Nat.zero_le _, Nat.zero_le _⟩) hD hS hA (fun H locs hP hD hS => ?_)
  have hP : va_P D vwCl (wN cyI cyZ ad mc mw mn me mu mr mz mf ((f_X3_findsCell_2 mc mw p1 p2 p3).2)) H := hP
  have hD : va_D A (wN cyI cyZ ad mc mw mn me mu mr mz mf ((f_X3_findsCell_2 mc mw p1 p2 p3).2)) := hD
  refine lv_if_ne (tgt := 13) hx hb dX3_set_8 (by decide) (fun c_8 => ?_) (fun c_8 => ?_)
  · refine lv_aload_n hx hb dX3_set_13 rfl (lv_at hl 0 rfl) ?_
    refine lv_iload hx hb dX3_set_14 (lv_at hl 4 rfl) ?_
    refine lv_sipush (v := (-9999)) hx hb dX3_set_16 (by decide) ?_
    refine lv_sipush (v := 9999) hx hb dX3_set_19 (by decide) ?_
    refine pr_i (va_runS (As := [.int p4, .int (-9999), .int 9999]) (rest := [.ref (ad 0)]) ⟨hx, hb, hml, hown, hts⟩ (k_X3_isIn l D cyI cyZ p4 (-9999) 9999) (va_cwS 3 hts gX3_set_X3_isIn rfl rfl rfl (by decide +kernel) ⟨Nat.le_of_ble_eq_true rfl, Nat.le_of_ble_eq_true rfl⟩) (prS hG (hP.sub (ws' := []) [] rfl)) rfl rfl hl.1 rfl (lv_room (Nat.le_of_ble_eq_true rfl)) dX3_set_22 ⟨Nat.zero_le _, Nat.zero_le _⟩) hS hP (fun H locs hP hS => ?_)
    refine lv_if_eq (tgt := 32) hx hb dX3_set_25 (by decide) (fun c_25 => ?_) (fun c_25 => ?_)
    · refine lv_iconst (v := 2) hx hb dX3_set_32 (by decide) ?_
      refine va_put (D := D) (ci := 3) (v := .int 2) (ty := .int) (C := RX3) (T := TX3) (N := 13) hx hb hts uin_X3_set_X3 tyX3 tyX3_ok nmX3 hown hG.1 hP hD hS 0 rfl rfl 12 (by decide) (hts (.fieldLink RX3 41 "TableSpliceModel" "thrown" "I") (List.mem_of_getElem? (i := 1) rfl)) (fun _ h9 => h9) rfl (by decide +kernel) rfl rfl (Nat.le_of_ble_eq_true rfl) dX3_set_33 (fun H locs hP hD hS => ?_)
      have hP : va_P D vwCl (wN cyI cyZ ad mc mw mn me mu mr mz mf 2) H := hP
      have hD : va_D A (wN cyI cyZ ad mc mw mn me mu mr mz mf 2) := hD
      refine lv_aload_n hx hb dX3_set_36 rfl (lv_at hl 0 rfl) ?_
      refine va_get (D := D) (ci := 3) (v := .int 2) (C := RX3) (T := TX3) (N := 13) hx hb hts uin_X3_set_X3 hown hG.1 hP 0 rfl rfl 12 (by decide) (hts (.fieldLink RX3 41 "TableSpliceModel" "thrown" "I") (List.mem_of_getElem? (i := 1) rfl)) (fun _ h9 => h9) rfl dX3_set_37 ?_
      refine lv_if_le (tgt := 45) hx hb dX3_set_40 (by decide) (fun c_40 => ?_) (fun c_40 => ?_)
      · exact absurd c_40 (by decide)
      · refine lv_iconst (v := 0) hx hb dX3_set_43 (by decide) ?_
        have ef : f_X3_set mc mw me mf p1 p2 p3 p4 = (0, me, mf, 2) := by rw [f_X3_set, if_neg c_8, if_pos c_25]
        exact W.iret (v := 0) hx hb hr (fun t ht hW => ⟨⟨0, (), rfl, by rw [ef], by rw [ht, ef]; exact hP, by rw [ef]; exact hD⟩, hS.F ht⟩) hS.2.2 dX3_set_44
    · refine lv_iconst (v := 0) hx hb dX3_set_28 (by decide) ?_
      refine lv_goto (tgt := 33) hx hb dX3_set_29 (by decide) ?_
      refine va_put (D := D) (ci := 3) (v := .int 0) (ty := .int) (C := RX3) (T := TX3) (N := 13) hx hb hts uin_X3_set_X3 tyX3 tyX3_ok nmX3 hown hG.1 hP hD hS 0 rfl rfl 12 (by decide) (hts (.fieldLink RX3 41 "TableSpliceModel" "thrown" "I") (List.mem_of_getElem? (i := 1) rfl)) (fun _ h9 => h9) rfl (by decide +kernel) rfl rfl (Nat.le_of_ble_eq_true rfl) dX3_set_33 (fun H locs hP hD hS => ?_)
      have hP : va_P D vwCl (wN cyI cyZ ad mc mw mn me mu mr mz mf 0) H := hP
      have hD : va_D A (wN cyI cyZ ad mc mw mn me mu mr mz mf 0) := hD
      refine lv_aload_n hx hb dX3_set_36 rfl (lv_at hl 0 rfl) ?_
      refine va_get (D := D) (ci := 3) (v := .int 0) (C := RX3) (T := TX3) (N := 13) hx hb hts uin_X3_set_X3 hown hG.1 hP 0 rfl rfl 12 (by decide) (hts (.fieldLink RX3 41 "TableSpliceModel" "thrown" "I") (List.mem_of_getElem? (i := 1) rfl)) (fun _ h9 => h9) rfl dX3_set_37 ?_
      refine lv_if_le (tgt := 45) hx hb dX3_set_40 (by decide) (fun c_40 => ?_) (fun c_40 => ?_)
      · refine lv_aload_n hx hb dX3_set_45 rfl (lv_at hl 0 rfl) ?_
        refine lv_iload_n hx hb dX3_set_46 rfl (lv_at hl 1 rfl) ?_
        refine lv_iload_n hx hb dX3_set_47 rfl (lv_at hl 2 rfl) ?_
        refine lv_iload_n hx hb dX3_set_48 rfl (lv_at hl 3 rfl) ?_
        refine pr_i (va_runV (As := [.int p1, .int p2, .int p3]) (rest := []) ⟨hx, hb, hml, hown, hts⟩ (k_X3_at l D cyI cyZ ad mc mw mn me mu mr mz mf 0 p1 p2 p3 (vi_mono (in_findsCell_2_p1 c_8) (by decide)) (in_findsCell_2_p2 c_8) (in_findsCell_2_p3 c_8)) (cwV 3 hts gX3_set_X3_at rfl rfl rfl (by decide +kernel) ⟨Nat.le_of_ble_eq_true rfl, Nat.le_of_ble_eq_true rfl⟩) (prV hG hP (ci := 3) rfl rfl rfl) rfl rfl hl.1 rfl (lv_room (Nat.le_of_ble_eq_true rfl)) dX3_set_49 ⟨Nat.zero_le _, Nat.zero_le _⟩) hS hP (fun H locs hP hS => ?_)
        refine lv_istore (lv' := [(5, .int (f_X3_at me p1 p2 p3)), (0, .ref (ad 0)), (1, .int p1), (2, .int p2), (3, .int p3), (4, .int p4)]) hx hb dX3_set_52 hl (by decide) rfl (fun ls hl => ?_)
        refine lv_aload_n hx hb dX3_set_54 rfl (lv_at hl 1 rfl) ?_
        refine va_get (D := D) (ci := 3) (v := .ref (ad 4)) (C := RX3) (T := TX3) (N := 13) hx hb hts uin_X3_set_X3 hown hG.1 hP 0 rfl rfl 3 (by decide) (hts (.fieldLink RX3 19 "TableSpliceModel" "cell" "[I") (List.mem_of_getElem? (i := 2) rfl)) (fun _ h9 => h9) rfl dX3_set_55 ?_
        refine lv_sipush (v := 192) hx hb dX3_set_58 (by decide) ?_
        refine lv_iload_n hx hb dX3_set_61 rfl (lv_at hl 2 rfl) ?_
        refine lv_imul hx hb dX3_set_62 ?_
        refine lv_bipush (v := 8) hx hb dX3_set_63 (by decide) ?_
        refine lv_iload_n hx hb dX3_set_65 rfl (lv_at hl 3 rfl) ?_
        refine lv_imul hx hb dX3_set_66 ?_
        refine lv_iadd hx hb dX3_set_67 ?_
        refine lv_iload_n hx hb dX3_set_68 rfl (lv_at hl 4 rfl) ?_
        refine lv_iadd hx hb dX3_set_69 ?_
        refine lv_iload hx hb dX3_set_70 (lv_at hl 5 rfl) ?_
        refine va_iast hx hb hG.1 hP hD hS 4 0 rfl rfl (vi_mono (vi_add (k := 576) (vi_add (k := 569) (vi_mul (c := 192) (k := 385) rfl (in_findsCell_2_p1 c_8) (by decide) (by decide) (by decide)) (vi_mul (c := 8) (k := 185) rfl (in_findsCell_2_p2 c_8) (by decide) (by decide) (by decide)) (by decide) (by decide)) (in_findsCell_2_p3 c_8) (by decide) (by decide)) (by decide)) dX3_set_72 (fun H locs hP hD hS => ?_)
        have hP : va_P D vwCl (wN cyI cyZ ad mc mw mn (upd me (((192 * p1) + (8 * p2)) + p3).toNatClampNeg p4) mu mr mz mf 0) H := hP
        have hD : va_D A (wN cyI cyZ ad mc mw mn (upd me (((192 * p1) + (8 * p2)) + p3).toNatClampNeg p4) mu mr mz mf 0) := hD
        refine lv_aload_n hx hb dX3_set_73 rfl (lv_at hl 1 rfl) ?_
        refine lv_iconst (v := 0) hx hb dX3_set_74 (by decide) ?_
        refine va_put (D := D) (ci := 3) (v := .int 0) (ty := .boolean) (C := RX3) (T := TX3) (N := 13) hx hb hts uin_X3_set_X3 tyX3 tyX3_ok nmX3 hown hG.1 hP hD hS 0 rfl rfl 7 (by decide) (hts (.fieldLink RX3 56 "TableSpliceModel" "fresh" "Z") (List.mem_of_getElem? (i := 3) rfl)) (fun _ h9 => h9) rfl (by decide +kernel) rfl rfl (Nat.le_of_ble_eq_true rfl) dX3_set_75 (fun H locs hP hD hS => ?_)
        have hP : va_P D vwCl (wN cyI cyZ ad mc mw mn (upd me (((192 * p1) + (8 * p2)) + p3).toNatClampNeg p4) mu mr mz 0 0) H := hP
        have hD : va_D A (wN cyI cyZ ad mc mw mn (upd me (((192 * p1) + (8 * p2)) + p3).toNatClampNeg p4) mu mr mz 0 0) := hD
        refine lv_iload hx hb dX3_set_78 (lv_at hl 0 rfl) ?_
        have ef : f_X3_set mc mw me mf p1 p2 p3 p4 = (f_X3_at me p1 p2 p3, (upd me (((192 * p1) + (8 * p2)) + p3).toNatClampNeg p4), 0, 0) := by rw [f_X3_set, if_neg c_8, if_neg c_25]
        exact W.iret (v := f_X3_at me p1 p2 p3) hx hb hr (fun t ht hW => ⟨⟨f_X3_at me p1 p2 p3, (), rfl, by rw [ef], by rw [ht, ef]; exact hP, by rw [ef]; exact hD⟩, hS.F ht⟩) hS.2.2 dX3_set_80
      · exact absurd (by decide) c_40
  · refine lv_iconst (v := 0) hx hb dX3_set_11 (by decide) ?_
    have ef : f_X3_set mc mw me mf p1 p2 p3 p4 = (0, me, mf, ((f_X3_findsCell_2 mc mw p1 p2 p3).2)) := by rw [f_X3_set, if_pos c_8]
    exact W.iret (v := 0) hx hb hr (fun t ht hW => ⟨⟨0, (), rfl, by rw [ef], by rw [ht, ef]; exact hP, by rw [ef]; exact hD⟩, hS.F ht⟩) hS.2.2 dX3_set_12
def f_X3_setRule (mu : Nat → Int32) (mf : Int32) (p1 : Int32) (p2 : Int32) : Int32 × (Nat → Int32) × Int32 × Int32 := if (f_X3_isIn p1 0 7) = 0 then ((0, mu, mf, 1)) else (if (f_X3_isIn p2 0 3) = 0 then ((0, mu, mf, 2)) else ((mu (p1).toNatClampNeg, (upd mu (p1).toNatClampNeg p2), 0, 0)))
theorem uin_X3_setRule_X3 : ∀ w ∈ wsX30, w ∈ wsX3_setRule := fun _ h => List.mem_cons_of_mem _ (List.mem_append_right _ h)
set_option maxHeartbeats 4000000 in
set_option maxRecDepth 100000 in
theorem k_X3_setRule (l : Launch) (D : va_G) (cyI cyZ : ClassId) (ad : Nat → Nat) (mc : Nat → Int32) (mw : Nat → Int32) (mn : Nat → Int32) (me : Nat → Int32) (mu : Nat → Int32) (mr : Nat → Int32) (mz : Kr) (mf : Int32) (mt : Int32) (p1 : Int32) (p2 : Int32) (A : Nat → Prop) (sz : Nat) (hAe : A = va_A (wN cyI cyZ ad mc mw mn me mu mr mz mf mt) sz) : Met l yX3_setRule wsX3_setRule ({ frames := 1, cells := 0, slots := 0, locals := 22 } : Room) (pcM D cyI cyZ sz [.ref (ad 0), .int p1, .int p2] (wN cyI cyZ ad mc mw mn me mu mr mz mf mt)) (mI D A (wN cyI cyZ ad mc mw mn me (f_X3_setRule mu mf p1 p2).2.1 mr mz (f_X3_setRule mu mf p1 p2).2.2.1 (f_X3_setRule mu mf p1 p2).2.2.2) (f_X3_setRule mu mf p1 p2).1) 0 0 A := by
  refine Met.ofW (cc := cX3_setRule) (maxL := 4) (ret := (some .int)) (by decide) rfl ?_
  intro p e s m args below meth c s₁ B hml hv
  obtain ⟨rfl, hsz, hP, hG, hD0⟩ := hv
  have hx := B.exec
  have hb := B.bytes
  have hr := B.returns
  have hts := atoms_spec (ws := wsX3_setRule) B.pre
  have hown : s.vm.findClass RX3 = some m.cls := findClass_of_methodNamed B.named
  have hlocks := B.notSynchronized
  subst hsz
  have hD : va_D A (wN cyI cyZ ad mc mw mn me mu mr mz mf mt) := by rw [hAe]; exact hD0.self
  have hA : ∀ q : Nat, s.heap.size ≤ q → A q := fun q h => by rw [hAe]; exact Or.inr h
  clear hAe hD0
  have hS : va_S nA s.heap s.heap [] := va_S.rf
  have hl := lv_entry ([.ref (ad 0), .int p1, .int p2]) (n := 4) (Nat.le_of_ble_eq_true rfl)
  rw [lg_entry_eq]
  generalize (lg_sl ([.ref (ad 0), .int p1, .int p2]) ++ List.replicate (4 - (lg_sl ([.ref (ad 0), .int p1, .int p2])).length) Slot.unset).toArray = ls at hl ⊢
  have hl : lv_has ls 4 [(0, .ref (ad 0)), (1, .int p1), (2, .int p2)] := hl
  have hP : va_P D vwCl (wN cyI cyZ ad mc mw mn me mu mr mz mf mt) s.heap := hP
  refine lv_aload_n hx hb dX3_setRule_0 rfl (lv_at hl 0 rfl) ?_
  refine lv_iload_n hx hb dX3_setRule_1 rfl (lv_at hl 1 rfl) ?_
  refine lv_iconst (v := 0) hx hb dX3_setRule_2 (by decide) ?_
  refine lv_bipush (v := 7) hx hb dX3_setRule_3 (by decide) ?_
  refine pr_i (va_runS (As := [.int p1, .int 0, .int 7]) (rest := [.ref (ad 0)]) ⟨hx, hb, hml, hown, hts⟩ (k_X3_isIn l D cyI cyZ p1 0 7) (va_cwS 3 hts gX3_setRule_X3_isIn rfl rfl rfl (by decide +kernel) ⟨Nat.le_of_ble_eq_true rfl, Nat.le_of_ble_eq_true rfl⟩) (prS hG (hP.sub (ws' := []) [] rfl)) rfl rfl hl.1 rfl (lv_room (Nat.le_of_ble_eq_true rfl)) dX3_setRule_5 ⟨Nat.zero_le _, Nat.zero_le _⟩) hS hP (fun H locs hP hS => ?_)
  refine lv_if_ne (tgt := 15) hx hb dX3_setRule_8 (by decide) (fun c_8 => ?_) (fun c_8 => ?_)
  · refine lv_iload_n hx hb dX3_setRule_15 rfl (lv_at hl 2 rfl) ?_
    refine lv_iconst (v := 0) hx hb dX3_setRule_16 (by decide) ?_
    refine lv_iconst (v := 3) hx hb dX3_setRule_17 (by decide) ?_
    refine pr_i (va_runS (As := [.int p2, .int 0, .int 3]) (rest := [.ref (ad 0)]) ⟨hx, hb, hml, hown, hts⟩ (k_X3_isIn l D cyI cyZ p2 0 3) (va_cwS 3 hts gX3_setRule_X3_isIn rfl rfl rfl (by decide +kernel) ⟨Nat.le_of_ble_eq_true rfl, Nat.le_of_ble_eq_true rfl⟩) (prS hG (hP.sub (ws' := []) [] rfl)) rfl rfl hl.1 rfl (lv_room (Nat.le_of_ble_eq_true rfl)) dX3_setRule_18 ⟨Nat.zero_le _, Nat.zero_le _⟩) hS hP (fun H locs hP hS => ?_)
    refine lv_if_eq (tgt := 28) hx hb dX3_setRule_21 (by decide) (fun c_21 => ?_) (fun c_21 => ?_)
    · refine lv_iconst (v := 2) hx hb dX3_setRule_28 (by decide) ?_
      have hS := sw_n (B := A) hS
      refine va_put (D := D) (ci := 3) (v := .int 2) (ty := .int) (C := RX3) (T := TX3) (N := 13) hx hb hts uin_X3_setRule_X3 tyX3 tyX3_ok nmX3 hown hG.1 hP hD hS 0 rfl rfl 12 (by decide) (hts (.fieldLink RX3 41 "TableSpliceModel" "thrown" "I") (List.mem_of_getElem? (i := 1) rfl)) (fun _ h9 => h9) rfl (by decide +kernel) rfl rfl (Nat.le_of_ble_eq_true rfl) dX3_setRule_29 (fun H locs hP hD hS => ?_)
      have hP : va_P D vwCl (wN cyI cyZ ad mc mw mn me mu mr mz mf 2) H := hP
      have hD : va_D A (wN cyI cyZ ad mc mw mn me mu mr mz mf 2) := hD
      refine lv_aload_n hx hb dX3_setRule_32 rfl (lv_at hl 0 rfl) ?_
      refine va_get (D := D) (ci := 3) (v := .int 2) (C := RX3) (T := TX3) (N := 13) hx hb hts uin_X3_setRule_X3 hown hG.1 hP 0 rfl rfl 12 (by decide) (hts (.fieldLink RX3 41 "TableSpliceModel" "thrown" "I") (List.mem_of_getElem? (i := 1) rfl)) (fun _ h9 => h9) rfl dX3_setRule_33 ?_
      refine lv_if_le (tgt := 41) hx hb dX3_setRule_36 (by decide) (fun c_36 => ?_) (fun c_36 => ?_)
      · exact absurd c_36 (by decide)
      · refine lv_iconst (v := 0) hx hb dX3_setRule_39 (by decide) ?_
        have ef : f_X3_setRule mu mf p1 p2 = (0, mu, mf, 2) := by rw [f_X3_setRule, if_neg c_8, if_pos c_21]
        exact W.iret (v := 0) hx hb hr (fun t ht hW => ⟨⟨0, (), rfl, by rw [ef], by rw [ht, ef]; exact hP, by rw [ef]; exact hD⟩, hS.F ht⟩) hS.2.2 dX3_setRule_40
    · refine lv_iconst (v := 0) hx hb dX3_setRule_24 (by decide) ?_
      refine lv_goto (tgt := 29) hx hb dX3_setRule_25 (by decide) ?_
      have hS := sw_n (B := A) hS
      refine va_put (D := D) (ci := 3) (v := .int 0) (ty := .int) (C := RX3) (T := TX3) (N := 13) hx hb hts uin_X3_setRule_X3 tyX3 tyX3_ok nmX3 hown hG.1 hP hD hS 0 rfl rfl 12 (by decide) (hts (.fieldLink RX3 41 "TableSpliceModel" "thrown" "I") (List.mem_of_getElem? (i := 1) rfl)) (fun _ h9 => h9) rfl (by decide +kernel) rfl rfl (Nat.le_of_ble_eq_true rfl) dX3_setRule_29 (fun H locs hP hD hS => ?_)
      have hP : va_P D vwCl (wN cyI cyZ ad mc mw mn me mu mr mz mf 0) H := hP
      have hD : va_D A (wN cyI cyZ ad mc mw mn me mu mr mz mf 0) := hD
      refine lv_aload_n hx hb dX3_setRule_32 rfl (lv_at hl 0 rfl) ?_
      refine va_get (D := D) (ci := 3) (v := .int 0) (C := RX3) (T := TX3) (N := 13) hx hb hts uin_X3_setRule_X3 hown hG.1 hP 0 rfl rfl 12 (by decide) (hts (.fieldLink RX3 41 "TableSpliceModel" "thrown" "I") (List.mem_of_getElem? (i := 1) rfl)) (fun _ h9 => h9) rfl dX3_setRule_33 ?_
      refine lv_if_le (tgt := 41) hx hb dX3_setRule_36 (by decide) (fun c_36 => ?_) (fun c_36 => ?_)
      · refine lv_aload_n hx hb dX3_setRule_41 rfl (lv_at hl 0 rfl) ?_
        refine va_get (D := D) (ci := 3) (v := .ref (ad 5)) (C := RX3) (T := TX3) (N := 13) hx hb hts uin_X3_setRule_X3 hown hG.1 hP 0 rfl rfl 4 (by decide) (hts (.fieldLink RX3 22 "TableSpliceModel" "rule" "[I") (List.mem_of_getElem? (i := 2) rfl)) (fun _ h9 => h9) rfl dX3_setRule_42 ?_
        refine lv_iload_n hx hb dX3_setRule_45 rfl (lv_at hl 1 rfl) ?_
        refine va_iald hx hb hG.1 hP 5 0 rfl rfl (in_isIn (n := 7) rfl (by decide) c_8) dX3_setRule_46 ?_
        refine lv_istore_n (lv' := [(3, .int (mu (p1).toNatClampNeg)), (0, .ref (ad 0)), (1, .int p1), (2, .int p2)]) hx hb dX3_setRule_47 rfl hl (by decide) rfl (fun ls hl => ?_)
        refine lv_aload_n hx hb dX3_setRule_48 rfl (lv_at hl 1 rfl) ?_
        refine va_get (D := D) (ci := 3) (v := .ref (ad 5)) (C := RX3) (T := TX3) (N := 13) hx hb hts uin_X3_setRule_X3 hown hG.1 hP 0 rfl rfl 4 (by decide) (hts (.fieldLink RX3 22 "TableSpliceModel" "rule" "[I") (List.mem_of_getElem? (i := 2) rfl)) (fun _ h9 => h9) rfl dX3_setRule_49 ?_
        refine lv_iload_n hx hb dX3_setRule_52 rfl (lv_at hl 2 rfl) ?_
        refine lv_iload_n hx hb dX3_setRule_53 rfl (lv_at hl 3 rfl) ?_
        refine va_iast hx hb hG.1 hP hD hS 5 0 rfl rfl (in_isIn (n := 7) rfl (by decide) c_8) dX3_setRule_54 (fun H locs hP hD hS => ?_)
        have hP : va_P D vwCl (wN cyI cyZ ad mc mw mn me (upd mu (p1).toNatClampNeg p2) mr mz mf 0) H := hP
        have hD : va_D A (wN cyI cyZ ad mc mw mn me (upd mu (p1).toNatClampNeg p2) mr mz mf 0) := hD
        refine lv_aload_n hx hb dX3_setRule_55 rfl (lv_at hl 1 rfl) ?_
        refine lv_iconst (v := 0) hx hb dX3_setRule_56 (by decide) ?_
        refine va_put (D := D) (ci := 3) (v := .int 0) (ty := .boolean) (C := RX3) (T := TX3) (N := 13) hx hb hts uin_X3_setRule_X3 tyX3 tyX3_ok nmX3 hown hG.1 hP hD hS 0 rfl rfl 7 (by decide) (hts (.fieldLink RX3 56 "TableSpliceModel" "fresh" "Z") (List.mem_of_getElem? (i := 3) rfl)) (fun _ h9 => h9) rfl (by decide +kernel) rfl rfl (Nat.le_of_ble_eq_true rfl) dX3_setRule_57 (fun H locs hP hD hS => ?_)
        have hP : va_P D vwCl (wN cyI cyZ ad mc mw mn me (upd mu (p1).toNatClampNeg p2) mr mz 0 0) H := hP
        have hD : va_D A (wN cyI cyZ ad mc mw mn me (upd mu (p1).toNatClampNeg p2) mr mz 0 0) := hD
        refine lv_iload_n hx hb dX3_setRule_60 rfl (lv_at hl 0 rfl) ?_
        have ef : f_X3_setRule mu mf p1 p2 = (mu (p1).toNatClampNeg, (upd mu (p1).toNatClampNeg p2), 0, 0) := by rw [f_X3_setRule, if_neg c_8, if_neg c_21]
        exact W.iret (v := mu (p1).toNatClampNeg) hx hb hr (fun t ht hW => ⟨⟨mu (p1).toNatClampNeg, (), rfl, by rw [ef], by rw [ht, ef]; exact hP, by rw [ef]; exact hD⟩, hS.F ht⟩) hS.2.2 dX3_setRule_61
      · exact absurd (by decide) c_36
  · refine lv_iconst (v := 1) hx hb dX3_setRule_11 (by decide) ?_
    refine lv_goto (tgt := 29) hx hb dX3_setRule_12 (by decide) ?_
    have hS := sw_n (B := A) hS
    refine va_put (D := D) (ci := 3) (v := .int 1) (ty := .int) (C := RX3) (T := TX3) (N := 13) hx hb hts uin_X3_setRule_X3 tyX3 tyX3_ok nmX3 hown hG.1 hP hD hS 0 rfl rfl 12 (by decide) (hts (.fieldLink RX3 41 "TableSpliceModel" "thrown" "I") (List.mem_of_getElem? (i := 1) rfl)) (fun _ h9 => h9) rfl (by decide +kernel) rfl rfl (Nat.le_of_ble_eq_true rfl) dX3_setRule_29 (fun H locs hP hD hS => ?_)
    have hP : va_P D vwCl (wN cyI cyZ ad mc mw mn me mu mr mz mf 1) H := hP
    have hD : va_D A (wN cyI cyZ ad mc mw mn me mu mr mz mf 1) := hD
    refine lv_aload_n hx hb dX3_setRule_32 rfl (lv_at hl 0 rfl) ?_
    refine va_get (D := D) (ci := 3) (v := .int 1) (C := RX3) (T := TX3) (N := 13) hx hb hts uin_X3_setRule_X3 hown hG.1 hP 0 rfl rfl 12 (by decide) (hts (.fieldLink RX3 41 "TableSpliceModel" "thrown" "I") (List.mem_of_getElem? (i := 1) rfl)) (fun _ h9 => h9) rfl dX3_setRule_33 ?_
    refine lv_if_le (tgt := 41) hx hb dX3_setRule_36 (by decide) (fun c_36 => ?_) (fun c_36 => ?_)
    · exact absurd c_36 (by decide)
    · refine lv_iconst (v := 0) hx hb dX3_setRule_39 (by decide) ?_
      have ef : f_X3_setRule mu mf p1 p2 = (0, mu, mf, 1) := by rw [f_X3_setRule, if_pos c_8]
      exact W.iret (v := 0) hx hb hr (fun t ht hW => ⟨⟨0, (), rfl, by rw [ef], by rw [ht, ef]; exact hP, by rw [ef]; exact hD⟩, hS.F ht⟩) hS.2.2 dX3_setRule_40
def f_X3_setReference (mr : Nat → Int32) (mf : Int32) (p1 : Int32) (p2 : Int32) : Int32 × (Nat → Int32) × Int32 × Int32 := if (f_X3_isIn p1 0 7) = 0 then ((0, mr, mf, 1)) else (if (mr (p1).toNatClampNeg) = p2 then (0, (upd mr (p1).toNatClampNeg p2), 0, 0) else (1, (upd mr (p1).toNatClampNeg p2), 0, 0))
theorem uin_X3_setReference_X3 : ∀ w ∈ wsX30, w ∈ wsX3_setReference := fun _ h => List.mem_cons_of_mem _ (List.mem_append_right _ h)
set_option maxHeartbeats 4000000 in
set_option maxRecDepth 100000 in
theorem k_X3_setReference (l : Launch) (D : va_G) (cyI cyZ : ClassId) (ad : Nat → Nat) (mc : Nat → Int32) (mw : Nat → Int32) (mn : Nat → Int32) (me : Nat → Int32) (mu : Nat → Int32) (mr : Nat → Int32) (mz : Kr) (mf : Int32) (mt : Int32) (p1 : Int32) (p2 : Int32) (A : Nat → Prop) (sz : Nat) (hAe : A = va_A (wN cyI cyZ ad mc mw mn me mu mr mz mf mt) sz) (hb2 : p2 = 0 ∨ p2 = 1) : Met l yX3_setReference wsX3_setReference ({ frames := 1, cells := 0, slots := 0, locals := 22 } : Room) (pcM D cyI cyZ sz [.ref (ad 0), .int p1, .int p2] (wN cyI cyZ ad mc mw mn me mu mr mz mf mt)) (mI D A (wN cyI cyZ ad mc mw mn me mu (f_X3_setReference mr mf p1 p2).2.1 mz (f_X3_setReference mr mf p1 p2).2.2.1 (f_X3_setReference mr mf p1 p2).2.2.2) (f_X3_setReference mr mf p1 p2).1) 0 0 A := by
  refine Met.ofW (cc := cX3_setReference) (maxL := 4) (ret := (some .boolean)) (by decide) rfl ?_
  intro p e s m args below meth c s₁ B hml hv
  obtain ⟨rfl, hsz, hP, hG, hD0⟩ := hv
  have hx := B.exec
  have hb := B.bytes
  have hr := B.returns
  have hts := atoms_spec (ws := wsX3_setReference) B.pre
  have hown : s.vm.findClass RX3 = some m.cls := findClass_of_methodNamed B.named
  have hlocks := B.notSynchronized
  subst hsz
  have hD : va_D A (wN cyI cyZ ad mc mw mn me mu mr mz mf mt) := by rw [hAe]; exact hD0.self
  have hA : ∀ q : Nat, s.heap.size ≤ q → A q := fun q h => by rw [hAe]; exact Or.inr h
  clear hAe hD0
  have hS : va_S nA s.heap s.heap [] := va_S.rf
  have hl := lv_entry ([.ref (ad 0), .int p1, .int p2]) (n := 4) (Nat.le_of_ble_eq_true rfl)
  rw [lg_entry_eq]
  generalize (lg_sl ([.ref (ad 0), .int p1, .int p2]) ++ List.replicate (4 - (lg_sl ([.ref (ad 0), .int p1, .int p2])).length) Slot.unset).toArray = ls at hl ⊢
  have hl : lv_has ls 4 [(0, .ref (ad 0)), (1, .int p1), (2, .int p2)] := hl
  have hP : va_P D vwCl (wN cyI cyZ ad mc mw mn me mu mr mz mf mt) s.heap := hP
  refine lv_aload_n hx hb dX3_setReference_0 rfl (lv_at hl 0 rfl) ?_
  refine lv_iload_n hx hb dX3_setReference_1 rfl (lv_at hl 1 rfl) ?_
  refine lv_iconst (v := 0) hx hb dX3_setReference_2 (by decide) ?_
  refine lv_bipush (v := 7) hx hb dX3_setReference_3 (by decide) ?_
  refine pr_i (va_runS (As := [.int p1, .int 0, .int 7]) (rest := [.ref (ad 0)]) ⟨hx, hb, hml, hown, hts⟩ (k_X3_isIn l D cyI cyZ p1 0 7) (va_cwS 3 hts gX3_setReference_X3_isIn rfl rfl rfl (by decide +kernel) ⟨Nat.le_of_ble_eq_true rfl, Nat.le_of_ble_eq_true rfl⟩) (prS hG (hP.sub (ws' := []) [] rfl)) rfl rfl hl.1 rfl (lv_room (Nat.le_of_ble_eq_true rfl)) dX3_setReference_5 ⟨Nat.zero_le _, Nat.zero_le _⟩) hS hP (fun H locs hP hS => ?_)
  refine lv_if_eq (tgt := 15) hx hb dX3_setReference_8 (by decide) (fun c_8 => ?_) (fun c_8 => ?_)
  · refine lv_iconst (v := 1) hx hb dX3_setReference_15 (by decide) ?_
    have hS := sw_n (B := A) hS
    refine va_put (D := D) (ci := 3) (v := .int 1) (ty := .int) (C := RX3) (T := TX3) (N := 13) hx hb hts uin_X3_setReference_X3 tyX3 tyX3_ok nmX3 hown hG.1 hP hD hS 0 rfl rfl 12 (by decide) (hts (.fieldLink RX3 41 "TableSpliceModel" "thrown" "I") (List.mem_of_getElem? (i := 1) rfl)) (fun _ h9 => h9) rfl (by decide +kernel) rfl rfl (Nat.le_of_ble_eq_true rfl) dX3_setReference_16 (fun H locs hP hD hS => ?_)
    have hP : va_P D vwCl (wN cyI cyZ ad mc mw mn me mu mr mz mf 1) H := hP
    have hD : va_D A (wN cyI cyZ ad mc mw mn me mu mr mz mf 1) := hD
    refine lv_aload_n hx hb dX3_setReference_19 rfl (lv_at hl 0 rfl) ?_
    refine va_get (D := D) (ci := 3) (v := .int 1) (C := RX3) (T := TX3) (N := 13) hx hb hts uin_X3_setReference_X3 hown hG.1 hP 0 rfl rfl 12 (by decide) (hts (.fieldLink RX3 41 "TableSpliceModel" "thrown" "I") (List.mem_of_getElem? (i := 1) rfl)) (fun _ h9 => h9) rfl dX3_setReference_20 ?_
    refine lv_if_le (tgt := 28) hx hb dX3_setReference_23 (by decide) (fun c_23 => ?_) (fun c_23 => ?_)
    · exact absurd c_23 (by decide)
    · refine lv_iconst (v := 0) hx hb dX3_setReference_26 (by decide) ?_
      have ef : f_X3_setReference mr mf p1 p2 = (0, mr, mf, 1) := by rw [f_X3_setReference, if_pos c_8]
      exact W.zret (v := 0) (ty := .boolean) hx hb hr rfl (fun t ht hW => ⟨⟨0, (), rfl, by rw [ef], by rw [ht, ef]; exact hP, by rw [ef]; exact hD⟩, hS.F ht⟩) hS.2.2 dX3_setReference_27
  · refine lv_iconst (v := 0) hx hb dX3_setReference_11 (by decide) ?_
    refine lv_goto (tgt := 16) hx hb dX3_setReference_12 (by decide) ?_
    have hS := sw_n (B := A) hS
    refine va_put (D := D) (ci := 3) (v := .int 0) (ty := .int) (C := RX3) (T := TX3) (N := 13) hx hb hts uin_X3_setReference_X3 tyX3 tyX3_ok nmX3 hown hG.1 hP hD hS 0 rfl rfl 12 (by decide) (hts (.fieldLink RX3 41 "TableSpliceModel" "thrown" "I") (List.mem_of_getElem? (i := 1) rfl)) (fun _ h9 => h9) rfl (by decide +kernel) rfl rfl (Nat.le_of_ble_eq_true rfl) dX3_setReference_16 (fun H locs hP hD hS => ?_)
    have hP : va_P D vwCl (wN cyI cyZ ad mc mw mn me mu mr mz mf 0) H := hP
    have hD : va_D A (wN cyI cyZ ad mc mw mn me mu mr mz mf 0) := hD
    refine lv_aload_n hx hb dX3_setReference_19 rfl (lv_at hl 0 rfl) ?_
    refine va_get (D := D) (ci := 3) (v := .int 0) (C := RX3) (T := TX3) (N := 13) hx hb hts uin_X3_setReference_X3 hown hG.1 hP 0 rfl rfl 12 (by decide) (hts (.fieldLink RX3 41 "TableSpliceModel" "thrown" "I") (List.mem_of_getElem? (i := 1) rfl)) (fun _ h9 => h9) rfl dX3_setReference_20 ?_
    refine lv_if_le (tgt := 28) hx hb dX3_setReference_23 (by decide) (fun c_23 => ?_) (fun c_23 => ?_)
    · refine lv_aload_n hx hb dX3_setReference_28 rfl (lv_at hl 0 rfl) ?_
      refine va_get (D := D) (ci := 3) (v := .ref (ad 6)) (C := RX3) (T := TX3) (N := 13) hx hb hts uin_X3_setReference_X3 hown hG.1 hP 0 rfl rfl 5 (by decide) (hts (.fieldLink RX3 25 "TableSpliceModel" "reference" "[Z") (List.mem_of_getElem? (i := 2) rfl)) (fun _ h9 => h9) rfl dX3_setReference_29 ?_
      refine lv_iload_n hx hb dX3_setReference_32 rfl (lv_at hl 1 rfl) ?_
      refine va_zald hx hb hG.1 hP 6 1 rfl rfl (in_isIn (n := 7) rfl (by decide) c_8) dX3_setReference_33 ?_
      refine lv_istore_n (lv' := [(3, .int (mr (p1).toNatClampNeg)), (0, .ref (ad 0)), (1, .int p1), (2, .int p2)]) hx hb dX3_setReference_34 rfl hl (by decide) rfl (fun ls hl => ?_)
      refine lv_aload_n hx hb dX3_setReference_35 rfl (lv_at hl 1 rfl) ?_
      refine va_get (D := D) (ci := 3) (v := .ref (ad 6)) (C := RX3) (T := TX3) (N := 13) hx hb hts uin_X3_setReference_X3 hown hG.1 hP 0 rfl rfl 5 (by decide) (hts (.fieldLink RX3 25 "TableSpliceModel" "reference" "[Z") (List.mem_of_getElem? (i := 2) rfl)) (fun _ h9 => h9) rfl dX3_setReference_36 ?_
      refine lv_iload_n hx hb dX3_setReference_39 rfl (lv_at hl 2 rfl) ?_
      refine lv_iload_n hx hb dX3_setReference_40 rfl (lv_at hl 3 rfl) ?_
      refine va_zast hx hb hG.1 hP hD hS 6 1 rfl rfl (in_isIn (n := 7) rfl (by decide) c_8) dX3_setReference_41 (fun H locs hP hD hS => ?_)
      rw [nr_b hb2] at hP hD
      have hP : va_P D vwCl (wN cyI cyZ ad mc mw mn me mu (upd mr (p1).toNatClampNeg p2) mz mf 0) H := hP
      have hD : va_D A (wN cyI cyZ ad mc mw mn me mu (upd mr (p1).toNatClampNeg p2) mz mf 0) := hD
      refine lv_aload_n hx hb dX3_setReference_42 rfl (lv_at hl 1 rfl) ?_
      refine lv_iconst (v := 0) hx hb dX3_setReference_43 (by decide) ?_
      refine va_put (D := D) (ci := 3) (v := .int 0) (ty := .boolean) (C := RX3) (T := TX3) (N := 13) hx hb hts uin_X3_setReference_X3 tyX3 tyX3_ok nmX3 hown hG.1 hP hD hS 0 rfl rfl 7 (by decide) (hts (.fieldLink RX3 56 "TableSpliceModel" "fresh" "Z") (List.mem_of_getElem? (i := 3) rfl)) (fun _ h9 => h9) rfl (by decide +kernel) rfl rfl (Nat.le_of_ble_eq_true rfl) dX3_setReference_44 (fun H locs hP hD hS => ?_)
      have hP : va_P D vwCl (wN cyI cyZ ad mc mw mn me mu (upd mr (p1).toNatClampNeg p2) mz 0 0) H := hP
      have hD : va_D A (wN cyI cyZ ad mc mw mn me mu (upd mr (p1).toNatClampNeg p2) mz 0 0) := hD
      refine lv_iload_n hx hb dX3_setReference_47 rfl (lv_at hl 0 rfl) ?_
      refine lv_iload_n hx hb dX3_setReference_48 rfl (lv_at hl 3 rfl) ?_
      refine lv_icmp_eq (tgt := 56) hx hb dX3_setReference_49 (by decide) (fun c_49 => ?_) (fun c_49 => ?_)
      · refine lv_iconst (v := 0) hx hb dX3_setReference_56 (by decide) ?_
        have ef : f_X3_setReference mr mf p1 p2 = (0, (upd mr (p1).toNatClampNeg p2), 0, 0) := by rw [f_X3_setReference, if_neg c_8, if_pos c_49]
        exact W.zret (v := 0) (ty := .boolean) hx hb hr rfl (fun t ht hW => ⟨⟨0, (), rfl, by rw [ef], by rw [ht, ef]; exact hP, by rw [ef]; exact hD⟩, hS.F ht⟩) hS.2.2 dX3_setReference_57
      · refine lv_iconst (v := 1) hx hb dX3_setReference_52 (by decide) ?_
        refine lv_goto (tgt := 57) hx hb dX3_setReference_53 (by decide) ?_
        have ef : f_X3_setReference mr mf p1 p2 = (1, (upd mr (p1).toNatClampNeg p2), 0, 0) := by rw [f_X3_setReference, if_neg c_8, if_neg c_49]
        exact W.zret (v := 1) (ty := .boolean) hx hb hr rfl (fun t ht hW => ⟨⟨1, (), rfl, by rw [ef], by rw [ht, ef]; exact hP, by rw [ef]; exact hD⟩, hS.F ht⟩) hS.2.2 dX3_setReference_57
    · exact absurd (by decide) c_23
