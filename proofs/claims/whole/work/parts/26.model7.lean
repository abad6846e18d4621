def f_X3_merge_sa (mc : Nat → Int32) (mw : Nat → Int32) (mn : Nat → Int32) (me : Nat → Int32) (mu : Nat → Int32) (mz : Kr) (ia : Nat) (me_a : Nat → Int32) (mz_a : Kr) : (Nat → Int32) × Kr := if (f_X3_hasCell ((f_X3_fills mc mw mn me (0, mz.2.1, mz.2.2.1, mz.2.2.2.1, mz.2.2.2.2)).1) ((f_X3_fills mc mw mn me (0, mz.2.1, mz.2.2.1, mz.2.2.2.1, mz.2.2.2.2)).2.1) 3 (nI (ia / 8)) (nI (ia % 8))) = 0 then (me_a, mz_a) else (if (mu (nI (ia % 8)).toNatClampNeg) = 0 then (if (f_X3_atOdds ((f_X3_fills mc mw mn me (0, mz.2.1, mz.2.2.1, mz.2.2.2.1, mz.2.2.2.2)).1) ((f_X3_fills mc mw mn me (0, mz.2.1, mz.2.2.1, mz.2.2.2.1, mz.2.2.2.2)).2.1) (upd me_a (576 + (nI ia)).toNatClampNeg (f_X3_mergedCell ((f_X3_fills mc mw mn me (0, mz.2.1, mz.2.2.1, mz.2.2.2.1, mz.2.2.2.2)).1) ((f_X3_fills mc mw mn me (0, mz.2.1, mz.2.2.1, mz.2.2.2.1, mz.2.2.2.2)).2.1) me_a mu (nI (ia / 8)) (nI (ia % 8)))) mu (nI (ia / 8)) (nI (ia % 8))) = 0 then ((upd me_a (576 + (nI ia)).toNatClampNeg (f_X3_mergedCell ((f_X3_fills mc mw mn me (0, mz.2.1, mz.2.2.1, mz.2.2.2.1, mz.2.2.2.2)).1) ((f_X3_fills mc mw mn me (0, mz.2.1, mz.2.2.1, mz.2.2.2.1, mz.2.2.2.2)).2.1) me_a mu (nI (ia / 8)) (nI (ia % 8)))), mz_a) else ((upd me_a (576 + (nI ia)).toNatClampNeg (f_X3_mergedCell ((f_X3_fills mc mw mn me (0, mz.2.1, mz.2.2.1, mz.2.2.2.1, mz.2.2.2.2)).1) ((f_X3_fills mc mw mn me (0, mz.2.1, mz.2.2.1, mz.2.2.2.1, mz.2.2.2.2)).2.1) me_a mu (nI (ia / 8)) (nI (ia % 8)))), (f_X3_lists mz_a 1 (nI (ia / 8)) (nI (ia % 8))))) else ((upd me_a (576 + (nI ia)).toNatClampNeg (f_X3_mergedCell ((f_X3_fills mc mw mn me (0, mz.2.1, mz.2.2.1, mz.2.2.2.1, mz.2.2.2.2)).1) ((f_X3_fills mc mw mn me (0, mz.2.1, mz.2.2.1, mz.2.2.2.1, mz.2.2.2.2)).2.1) me_a mu (nI (ia / 8)) (nI (ia % 8)))), mz_a))
def f_X3_merge_la (mc : Nat → Int32) (mw : Nat → Int32) (mn : Nat → Int32) (me : Nat → Int32) (mu : Nat → Int32) (mz : Kr) : (Nat → Int32) × Kr := it (fun (i9 : Nat) (z9 : (Nat → Int32) × Kr) => f_X3_merge_sa mc mw mn me mu mz i9 z9.1 z9.2) (me, ((f_X3_fills mc mw mn me (0, mz.2.1, mz.2.2.1, mz.2.2.2.1, mz.2.2.2.2)).2.2.2)) 192
def f_X3_merge_sc (mc : Nat → Int32) (mw : Nat → Int32) (mn : Nat → Int32) (me : Nat → Int32) (mu : Nat → Int32) (mr : Nat → Int32) (mz : Kr) (ic : Nat) (mz_c : Kr) : Kr := if (f_X3_hasCell ((f_X3_fills mc mw mn me (0, mz.2.1, mz.2.2.1, mz.2.2.2.1, mz.2.2.2.2)).1) ((f_X3_fills mc mw mn me (0, mz.2.1, mz.2.2.1, mz.2.2.2.1, mz.2.2.2.2)).2.1) 3 (nI (ic / 8)) (nI (ic % 8))) = 0 then mz_c else (if (f_X3_isLost ((f_X3_fills mc mw mn me (0, mz.2.1, mz.2.2.1, mz.2.2.2.1, mz.2.2.2.2)).2.1) (((f_X3_merge_la mc mw mn me mu mz)).1) mr (nI (ic / 8)) (nI (ic % 8))) = 0 then mz_c else (f_X3_lists mz_c 6 (nI (ic / 8)) (nI (ic % 8))))
def f_X3_merge_sb (mc : Nat → Int32) (mw : Nat → Int32) (mn : Nat → Int32) (me : Nat → Int32) (mz : Kr) (ib : Nat) (mz_b : Kr) : Kr := if (f_X3_hasColumn ((f_X3_fills mc mw mn me (0, mz.2.1, mz.2.2.1, mz.2.2.2.1, mz.2.2.2.2)).1) 3 (nI ib)) = 0 then mz_b else (if (f_X3_isDouble ((f_X3_fills mc mw mn me (0, mz.2.1, mz.2.2.1, mz.2.2.2.1, mz.2.2.2.2)).1) ((f_X3_fills mc mw mn me (0, mz.2.1, mz.2.2.1, mz.2.2.2.1, mz.2.2.2.2)).2.2.1) ib) = 0 then mz_b else (f_X3_lists mz_b 5 (-1) (nI ib)))
def f_X3_merge_lb (mc : Nat → Int32) (mw : Nat → Int32) (mn : Nat → Int32) (me : Nat → Int32) (mu : Nat → Int32) (mz : Kr) : Kr := it (fun (i9 : Nat) (z9 : Kr) => f_X3_merge_sb mc mw mn me mz i9 z9) (((f_X3_merge_la mc mw mn me mu mz)).2) 8
def f_X3_merge_lc (mc : Nat → Int32) (mw : Nat → Int32) (mn : Nat → Int32) (me : Nat → Int32) (mu : Nat → Int32) (mr : Nat → Int32) (mz : Kr) : Kr := it (fun (i9 : Nat) (z9 : Kr) => f_X3_merge_sc mc mw mn me mu mr mz i9 z9) ((f_X3_merge_lb mc mw mn me mu mz)) 192
def f_X3_merge (mc : Nat → Int32) (mw : Nat → Int32) (mn : Nat → Int32) (me : Nat → Int32) (mu : Nat → Int32) (mr : Nat → Int32) (mz : Kr) : Int32 × (Nat → Int32) × (Nat → Int32) × (Nat → Int32) × (Nat → Int32) × Kr × Int32 × Int32 := (nI (((f_X3_merge_lc mc mw mn me mu mr mz)).1), ((f_X3_fills mc mw mn me (0, mz.2.1, mz.2.2.1, mz.2.2.2.1, mz.2.2.2.2)).1), ((f_X3_fills mc mw mn me (0, mz.2.1, mz.2.2.1, mz.2.2.2.1, mz.2.2.2.2)).2.1), ((f_X3_fills mc mw mn me (0, mz.2.1, mz.2.2.1, mz.2.2.2.1, mz.2.2.2.2)).2.2.1), (((f_X3_merge_la mc mw mn me mu mz)).1), ((f_X3_merge_lc mc mw mn me mu mr mz)), 1, 0)
theorem uin_X3_merge_X3 : ∀ w ∈ wsX30, w ∈ wsX3_merge := fun _ h => List.mem_cons_of_mem _ (List.mem_append_right _ h)
set_option maxHeartbeats 4000000 in
set_option maxRecDepth 100000 in
theorem k_X3_merge (l : Launch) (D : va_G) (cyI cyZ : ClassId) (ad : Nat → Nat) (mc : Nat → Int32) (mw : Nat → Int32) (mn : Nat → Int32) (me : Nat → Int32) (mu : Nat → Int32) (mr : Nat → Int32) (mz : Kr) (mf : Int32) (mt : Int32) (A : Nat → Prop) (sz : Nat) (hAe : A = va_A (wN cyI cyZ ad mc mw mn me mu mr mz mf mt) sz) : Met l yX3_merge wsX3_merge ({ frames := 6, cells := 0, slots := 0, locals := 136 } : Room) (pcM D cyI cyZ sz [.ref (ad 0)] (wN cyI cyZ ad mc mw mn me mu mr mz mf mt)) (mI D A (wN cyI cyZ ad (f_X3_merge mc mw mn me mu mr mz).2.1 (f_X3_merge mc mw mn me mu mr mz).2.2.1 (f_X3_merge mc mw mn me mu mr mz).2.2.2.1 (f_X3_merge mc mw mn me mu mr mz).2.2.2.2.1 mu mr (f_X3_merge mc mw mn me mu mr mz).2.2.2.2.2.1 (f_X3_merge mc mw mn me mu mr mz).2.2.2.2.2.2.1 (f_X3_merge mc mw mn me mu mr mz).2.2.2.2.2.2.2) (f_X3_merge mc mw mn me mu mr mz).1) 0 0 A := by
  refine Met.ofW (cc := cX3_merge) (maxL := 2) (ret := (some .int)) (by decide) rfl ?_
  intro p e s m args below meth c s₁ B hml hv
  obtain ⟨rfl, hsz, hP, hG, hD0⟩ := hv
  have hx := B.exec
  have hb := B.bytes
  have hr := B.returns
  have hts := atoms_spec (ws := wsX3_merge) B.pre
  have hown : s.vm.findClass RX3 = some m.cls := findClass_of_methodNamed B.named
  have hlocks := B.notSynchronized
  subst hsz
  have hD : va_D A (wN cyI cyZ ad mc mw mn me mu mr mz mf mt) := by rw [hAe]; exact hD0.self
  have hA : ∀ q : Nat, s.heap.size ≤ q → A q := fun q h => by rw [hAe]; exact Or.inr h
  clear hAe hD0
  have hS : va_S nA s.heap s.heap [] := va_S.rf
  have hl := lv_entry ([.ref (ad 0)]) (n := 2) (Nat.le_of_ble_eq_true rfl)
  rw [lg_entry_eq]
  generalize (lg_sl ([.ref (ad 0)]) ++ List.replicate (2 - (lg_sl ([.ref (ad 0)])).length) Slot.unset).toArray = ls at hl ⊢
  have hl : lv_has ls 2 [(0, .ref (ad 0))] := hl
  have hP : va_P D vwCl (wN cyI cyZ ad mc mw mn me mu mr mz mf mt) s.heap := hP
  refine lv_aload_n hx hb dX3_merge_0 rfl (lv_at hl 0 rfl) ?_
  refine lv_iconst (v := 0) hx hb dX3_merge_1 (by decide) ?_
  have hS := sw_n (B := A) hS
  refine va_put (D := D) (ci := 3) (v := .int 0) (ty := .int) (C := RX3) (T := TX3) (N := 13) hx hb hts uin_X3_merge_X3 tyX3 tyX3_ok nmX3 hown hG.1 hP hD hS 0 rfl rfl 12 (by decide) (hts (.fieldLink RX3 41 "TableSpliceModel" "thrown" "I") (List.mem_of_getElem? (i := 1) rfl)) (fun _ h9 => h9) rfl (by decide +kernel) rfl rfl (Nat.le_of_ble_eq_true rfl) dX3_merge_2 (fun H locs hP hD hS => ?_)
  have hP : va_P D vwCl (wN cyI cyZ ad mc mw mn me mu mr mz mf 0) H := hP
  have hD : va_D A (wN cyI cyZ ad mc mw mn me mu mr mz mf 0) := hD
  refine lv_aload_n hx hb dX3_merge_5 rfl (lv_at hl 0 rfl) ?_
  refine lv_iconst (v := 0) hx hb dX3_merge_6 (by decide) ?_
  refine va_put (D := D) (ci := 3) (v := .int 0) (ty := .int) (C := RX3) (T := TX3) (N := 13) hx hb hts uin_X3_merge_X3 tyX3 tyX3_ok nmX3 hown hG.1 hP hD hS 0 rfl rfl 6 (by decide) (hts (.fieldLink RX3 97 "TableSpliceModel" "listed" "I") (List.mem_of_getElem? (i := 2) rfl)) (fun _ h9 => h9) rfl (by decide +kernel) rfl rfl (Nat.le_of_ble_eq_true rfl) dX3_merge_7 (fun H locs hP hD hS => ?_)
  have hP : va_P D vwCl (wN cyI cyZ ad mc mw mn me mu mr (0, mz.2.1, mz.2.2.1, mz.2.2.2.1, mz.2.2.2.2) mf 0) H := hP
  have hD : va_D A (wN cyI cyZ ad mc mw mn me mu mr (0, mz.2.1, mz.2.2.1, mz.2.2.2.1, mz.2.2.2.2) mf 0) := hD
  refine lv_aload_n hx hb dX3_merge_10 rfl (lv_at hl 0 rfl) ?_
  refine mr_v0 (va_runV (As := []) (rest := []) ⟨hx, hb, hml, hown, hts⟩ (k_X3_fills l D cyI cyZ ad mc mw mn me mu mr (0, mz.2.1, mz.2.2.1, mz.2.2.2.1, mz.2.2.2.2) mf 0 _ _ rfl rfl) (cwV 0 hts gX3_merge_X3_fills rfl rfl rfl (by decide +kernel) ⟨Nat.le_of_ble_eq_true rfl, Nat.le_of_ble_eq_true rfl⟩) (pmV hG hP hD (ci := 3) rfl rfl rfl) rfl rfl hl.1 rfl (lv_room (Nat.le_of_ble_eq_true rfl)) dX3_merge_11 ⟨Nat.zero_le _, Nat.zero_le _⟩) hD hS hA (fun H locs hP hD hS => ?_)
  have hP : va_P D vwCl (wN cyI cyZ ad ((f_X3_fills mc mw mn me (0, mz.2.1, mz.2.2.1, mz.2.2.2.1, mz.2.2.2.2)).1) ((f_X3_fills mc mw mn me (0, mz.2.1, mz.2.2.1, mz.2.2.2.1, mz.2.2.2.2)).2.1) ((f_X3_fills mc mw mn me (0, mz.2.1, mz.2.2.1, mz.2.2.2.1, mz.2.2.2.2)).2.2.1) me mu mr ((f_X3_fills mc mw mn me (0, mz.2.1, mz.2.2.1, mz.2.2.2.1, mz.2.2.2.2)).2.2.2) mf 0) H := hP
  have hD : va_D A (wN cyI cyZ ad ((f_X3_fills mc mw mn me (0, mz.2.1, mz.2.2.1, mz.2.2.2.1, mz.2.2.2.2)).1) ((f_X3_fills mc mw mn me (0, mz.2.1, mz.2.2.1, mz.2.2.2.1, mz.2.2.2.2)).2.1) ((f_X3_fills mc mw mn me (0, mz.2.1, mz.2.2.1, mz.2.2.2.1, mz.2.2.2.2)).2.2.1) me mu mr ((f_X3_fills mc mw mn me (0, mz.2.1, mz.2.2.1, mz.2.2.2.1, mz.2.2.2.2)).2.2.2) mf 0) := hD
  refine lv_iconst (v := 0) hx hb dX3_merge_14 (by decide) ?_
  refine lv_istore_n (lv' := [(1, .int 0), (0, .ref (ad 0))]) hx hb dX3_merge_15 rfl hl (by decide) rfl (fun ls hl => ?_)
  have lp_a : ∀ (n ia : Nat), ia + n = 192 → ∀ (me_a : Nat → Int32) (mz_a : Kr), (me_a, mz_a) = it (fun (i9 : Nat) (z9 : (Nat → Int32) × Kr) => f_X3_merge_sa mc mw mn me mu mz i9 z9.1 z9.2) (me, ((f_X3_fills mc mw mn me (0, mz.2.1, mz.2.2.1, mz.2.2.2.1, mz.2.2.2.2)).2.2.2)) ia → (mz_a.1 ≤ 40 + ia) → ∀ (H : Heap) (locs : List Loc), va_P D vwCl (wN cyI cyZ ad ((f_X3_fills mc mw mn me (0, mz.2.1, mz.2.2.1, mz.2.2.2.1, mz.2.2.2.2)).1) ((f_X3_fills mc mw mn me (0, mz.2.1, mz.2.2.1, mz.2.2.2.1, mz.2.2.2.2)).2.1) ((f_X3_fills mc mw mn me (0, mz.2.1, mz.2.2.1, mz.2.2.2.1, mz.2.2.2.2)).2.2.1) me_a mu mr mz_a mf 0) H → va_D A (wN cyI cyZ ad ((f_X3_fills mc mw mn me (0, mz.2.1, mz.2.2.1, mz.2.2.2.1, mz.2.2.2.2)).1) ((f_X3_fills mc mw mn me (0, mz.2.1, mz.2.2.1, mz.2.2.2.1, mz.2.2.2.2)).2.1) ((f_X3_fills mc mw mn me (0, mz.2.1, mz.2.2.1, mz.2.2.2.1, mz.2.2.2.2)).2.2.1) me_a mu mr mz_a mf 0) → va_S A s.heap H locs → ∀ (ls : Array Slot), lv_has ls 2 [(1, .int (nI ia)), (0, .ref (ad 0))] → W p l e (headSpec wsX3_merge ({ frames := 6, cells := 0, slots := 0, locals := 136 } : Room)).room s m ([.ref (ad 0)] : List Value).toArray below meth c H locs 0 0 (MQ below (mI D A (wN cyI cyZ ad (f_X3_merge mc mw mn me mu mr mz).2.1 (f_X3_merge mc mw mn me mu mr mz).2.2.1 (f_X3_merge mc mw mn me mu mr mz).2.2.2.1 (f_X3_merge mc mw mn me mu mr mz).2.2.2.2.1 mu mr (f_X3_merge mc mw mn me mu mr mz).2.2.2.2.2.1 (f_X3_merge mc mw mn me mu mr mz).2.2.2.2.2.2.1 (f_X3_merge mc mw mn me mu mr mz).2.2.2.2.2.2.2) (f_X3_merge mc mw mn me mu mr mz).1) ([.ref (ad 0)] : List Value).toArray s 0 0 A) (F0 m 16 ls []) := by
    intro n
    induction n with
    | zero =>
      intro ia hi_a me_a mz_a hs_a hn_a H locs hP hD hS ls hl
      obtain rfl : 192 = ia := by omega
      obtain rfl : me_a = ((f_X3_merge_la mc mw mn me mu mz)).1 := congrArg (fun z => z.1) hs_a
      obtain rfl : mz_a = ((f_X3_merge_la mc mw mn me mu mz)).2 := congrArg (fun z => z.2) hs_a
      refine lv_iload_n hx hb dX3_merge_16 rfl (lv_at hl 0 rfl) ?_
      refine lv_sipush (v := 192) hx hb dX3_merge_17 (by decide) ?_
      refine lv_icmp_ge (tgt := 107) hx hb dX3_merge_20 (by decide) (fun c_20 => ?_) (fun c_20 => ?_)
      · refine lv_iconst (v := 0) hx hb dX3_merge_107 (by decide) ?_
        refine lv_istore_n (lv' := [(1, .int 0), (0, .ref (ad 0))]) hx hb dX3_merge_108 rfl hl (by decide) rfl (fun ls hl => ?_)
        have lp_b : ∀ (n ib : Nat), ib + n = 8 → ∀ (mz_b : Kr), mz_b = it (fun (i9 : Nat) (z9 : Kr) => f_X3_merge_sb mc mw mn me mz i9 z9) (((f_X3_merge_la mc mw mn me mu mz)).2) ib → (mz_b.1 ≤ 232 + ib) → ∀ (H : Heap) (locs : List Loc), va_P D vwCl (wN cyI cyZ ad ((f_X3_fills mc mw mn me (0, mz.2.1, mz.2.2.1, mz.2.2.2.1, mz.2.2.2.2)).1) ((f_X3_fills mc mw mn me (0, mz.2.1, mz.2.2.1, mz.2.2.2.1, mz.2.2.2.2)).2.1) ((f_X3_fills mc mw mn me (0, mz.2.1, mz.2.2.1, mz.2.2.2.1, mz.2.2.2.2)).2.2.1) (((f_X3_merge_la mc mw mn me mu mz)).1) mu mr mz_b mf 0) H → va_D A (wN cyI cyZ ad ((f_X3_fills mc mw mn me (0, mz.2.1, mz.2.2.1, mz.2.2.2.1, mz.2.2.2.2)).1) ((f_X3_fills mc mw mn me (0, mz.2.1, mz.2.2.1, mz.2.2.2.1, mz.2.2.2.2)).2.1) ((f_X3_fills mc mw mn me (0, mz.2.1, mz.2.2.1, mz.2.2.2.1, mz.2.2.2.2)).2.2.1) (((f_X3_merge_la mc mw mn me mu mz)).1) mu mr mz_b mf 0) → va_S A s.heap H locs → ∀ (ls : Array Slot), lv_has ls 2 [(1, .int (nI ib)), (0, .ref (ad 0))] → W p l e (headSpec wsX3_merge ({ frames := 6, cells := 0, slots := 0, locals := 136 } : Room)).room s m ([.ref (ad 0)] : List Value).toArray below meth c H locs 0 0 (MQ below (mI D A (wN cyI cyZ ad (f_X3_merge mc mw mn me mu mr mz).2.1 (f_X3_merge mc mw mn me mu mr mz).2.2.1 (f_X3_merge mc mw mn me mu mr mz).2.2.2.1 (f_X3_merge mc mw mn me mu mr mz).2.2.2.2.1 mu mr (f_X3_merge mc mw mn me mu mr mz).2.2.2.2.2.1 (f_X3_merge mc mw mn me mu mr mz).2.2.2.2.2.2.1 (f_X3_merge mc mw mn me mu mr mz).2.2.2.2.2.2.2) (f_X3_merge mc mw mn me mu mr mz).1) ([.ref (ad 0)] : List Value).toArray s 0 0 A) (F0 m 109 ls []) := by
          intro n
          induction n with
          | zero =>
            intro ib hi_b mz_b hs_b hn_b H locs hP hD hS ls hl
            obtain rfl : 8 = ib := by omega
            obtain rfl : mz_b = (f_X3_merge_lb mc mw mn me mu mz) := hs_b
            refine lv_iload_n hx hb dX3_merge_109 rfl (lv_at hl 0 rfl) ?_
            refine lv_bipush (v := 8) hx hb dX3_merge_110 (by decide) ?_
            refine lv_icmp_ge (tgt := 145) hx hb dX3_merge_112 (by decide) (fun c_112 => ?_) (fun c_112 => ?_)
            · refine lv_iconst (v := 0) hx hb dX3_merge_145 (by decide) ?_
              refine lv_istore_n (lv' := [(1, .int 0), (0, .ref (ad 0))]) hx hb dX3_merge_146 rfl hl (by decide) rfl (fun ls hl => ?_)
              have lp_c : ∀ (n ic : Nat), ic + n = 192 → ∀ (mz_c : Kr), mz_c = it (fun (i9 : Nat) (z9 : Kr) => f_X3_merge_sc mc mw mn me mu mr mz i9 z9) ((f_X3_merge_lb mc mw mn me mu mz)) ic → (mz_c.1 ≤ 240 + ic) → ∀ (H : Heap) (locs : List Loc), va_P D vwCl (wN cyI cyZ ad ((f_X3_fills mc mw mn me (0, mz.2.1, mz.2.2.1, mz.2.2.2.1, mz.2.2.2.2)).1) ((f_X3_fills mc mw mn me (0, mz.2.1, mz.2.2.1, mz.2.2.2.1, mz.2.2.2.2)).2.1) ((f_X3_fills mc mw mn me (0, mz.2.1, mz.2.2.1, mz.2.2.2.1, mz.2.2.2.2)).2.2.1) (((f_X3_merge_la mc mw mn me mu mz)).1) mu mr mz_c mf 0) H → va_D A (wN cyI cyZ ad ((f_X3_fills mc mw mn me (0, mz.2.1, mz.2.2.1, mz.2.2.2.1, mz.2.2.2.2)).1) ((f_X3_fills mc mw mn me (0, mz.2.1, mz.2.2.1, mz.2.2.2.1, mz.2.2.2.2)).2.1) ((f_X3_fills mc mw mn me (0, mz.2.1, mz.2.2.1, mz.2.2.2.1, mz.2.2.2.2)).2.2.1) (((f_X3_merge_la mc mw mn me mu mz)).1) mu mr mz_c mf 0) → va_S A s.heap H locs → ∀ (ls : Array Slot), lv_has ls 2 [(1, .int (nI ic)), (0, .ref (ad 0))] → W p l e (headSpec wsX3_merge ({ frames := 6, cells := 0, slots := 0, locals := 136 } : Room)).room s m ([.ref (ad 0)] : List Value).toArray below meth c H locs 0 0 (MQ below (mI D A (wN cyI cyZ ad (f_X3_merge mc mw mn me mu mr mz).2.1 (f_X3_merge mc mw mn me mu mr mz).2.2.1 (f_X3_merge mc mw mn me mu mr mz).2.2.2.1 (f_X3_merge mc mw mn me mu mr mz).2.2.2.2.1 mu mr (f_X3_merge mc mw mn me mu mr mz).2.2.2.2.2.1 (f_X3_merge mc mw mn me mu mr mz).2.2.2.2.2.2.1 (f_X3_merge mc mw mn me mu mr mz).2.2.2.2.2.2.2) (f_X3_merge mc mw mn me mu mr mz).1) ([.ref (ad 0)] : List Value).toArray s 0 0 A) (F0 m 147 ls []) := by
                intro n
                induction n with
                | zero =>
                  intro ic hi_c mz_c hs_c hn_c H locs hP hD hS ls hl
                  obtain rfl : 192 = ic := by omega
                  obtain rfl : mz_c = (f_X3_merge_lc mc mw mn me mu mr mz) := hs_c
                  refine lv_iload_n hx hb dX3_merge_147 rfl (lv_at hl 0 rfl) ?_
                  refine lv_sipush (v := 192) hx hb dX3_merge_148 (by decide) ?_
                  refine lv_icmp_ge (tgt := 205) hx hb dX3_merge_151 (by decide) (fun c_151 => ?_) (fun c_151 => ?_)
                  · refine lv_aload_n hx hb dX3_merge_205 rfl (lv_at hl 1 rfl) ?_
                    refine lv_iconst (v := 1) hx hb dX3_merge_206 (by decide) ?_
                    refine va_put (D := D) (ci := 3) (v := .int 1) (ty := .boolean) (C := RX3) (T := TX3) (N := 13) hx hb hts uin_X3_merge_X3 tyX3 tyX3_ok nmX3 hown hG.1 hP hD hS 0 rfl rfl 7 (by decide) (hts (.fieldLink RX3 56 "TableSpliceModel" "fresh" "Z") (List.mem_of_getElem? (i := 5) rfl)) (fun _ h9 => h9) rfl (by decide +kernel) rfl rfl (Nat.le_of_ble_eq_true rfl) dX3_merge_207 (fun H locs hP hD hS => ?_)
                    have hP : va_P D vwCl (wN cyI cyZ ad ((f_X3_fills mc mw mn me (0, mz.2.1, mz.2.2.1, mz.2.2.2.1, mz.2.2.2.2)).1) ((f_X3_fills mc mw mn me (0, mz.2.1, mz.2.2.1, mz.2.2.2.1, mz.2.2.2.2)).2.1) ((f_X3_fills mc mw mn me (0, mz.2.1, mz.2.2.1, mz.2.2.2.1, mz.2.2.2.2)).2.2.1) (((f_X3_merge_la mc mw mn me mu mz)).1) mu mr ((f_X3_merge_lc mc mw mn me mu mr mz)) 1 0) H := hP
                    have hD : va_D A (wN cyI cyZ ad ((f_X3_fills mc mw mn me (0, mz.2.1, mz.2.2.1, mz.2.2.2.1, mz.2.2.2.2)).1) ((f_X3_fills mc mw mn me (0, mz.2.1, mz.2.2.1, mz.2.2.2.1, mz.2.2.2.2)).2.1) ((f_X3_fills mc mw mn me (0, mz.2.1, mz.2.2.1, mz.2.2.2.1, mz.2.2.2.2)).2.2.1) (((f_X3_merge_la mc mw mn me mu mz)).1) mu mr ((f_X3_merge_lc mc mw mn me mu mr mz)) 1 0) := hD
                    refine lv_aload_n hx hb dX3_merge_210 rfl (lv_at hl 1 rfl) ?_
                    refine va_get (D := D) (ci := 3) (v := .int (nI (((f_X3_merge_lc mc mw mn me mu mr mz)).1))) (C := RX3) (T := TX3) (N := 13) hx hb hts uin_X3_merge_X3 hown hG.1 hP 0 rfl rfl 6 (by decide) (hts (.fieldLink RX3 97 "TableSpliceModel" "listed" "I") (List.mem_of_getElem? (i := 2) rfl)) (fun _ h9 => h9) rfl dX3_merge_211 ?_
                    have ef : f_X3_merge mc mw mn me mu mr mz = (nI (((f_X3_merge_lc mc mw mn me mu mr mz)).1), ((f_X3_fills mc mw mn me (0, mz.2.1, mz.2.2.1, mz.2.2.2.1, mz.2.2.2.2)).1), ((f_X3_fills mc mw mn me (0, mz.2.1, mz.2.2.1, mz.2.2.2.1, mz.2.2.2.2)).2.1), ((f_X3_fills mc mw mn me (0, mz.2.1, mz.2.2.1, mz.2.2.2.1, mz.2.2.2.2)).2.2.1), (((f_X3_merge_la mc mw mn me mu mz)).1), ((f_X3_merge_lc mc mw mn me mu mr mz)), 1, 0) := by rw [f_X3_merge]
                    exact W.iret (v := nI (((f_X3_merge_lc mc mw mn me mu mr mz)).1)) hx hb hr (fun t ht hW => ⟨⟨nI (((f_X3_merge_lc mc mw mn me mu mr mz)).1), (), rfl, by rw [ef], by rw [ht, ef]; exact hP, by rw [ef]; exact hD⟩, hS.F ht⟩) hS.2.2 dX3_merge_214
                  · exact absurd (by decide) c_151
                | succ n ih_c =>
                  intro ic hi_c mz_c hs_c hn_c H locs hP hD hS ls hl
                  have hj_c : ic < 192 := by omega
                  refine lv_iload_n hx hb dX3_merge_147 rfl (lv_at hl 0 rfl) ?_
                  refine lv_sipush (v := 192) hx hb dX3_merge_148 (by decide) ?_
                  refine lv_icmp_ge (tgt := 205) hx hb dX3_merge_151 (by decide) (fun c_151 => ?_) (fun c_151 => ?_)
                  · exact absurd c_151 (nI_ge hj_c (by decide))
                  · refine lv_aload_n hx hb dX3_merge_154 rfl (lv_at hl 1 rfl) ?_
                    refine lv_iconst (v := 3) hx hb dX3_merge_155 (by decide) ?_
                    refine lv_iload_n hx hb dX3_merge_156 rfl (lv_at hl 0 rfl) ?_
                    refine lv_bipush (v := 8) hx hb dX3_merge_157 (by decide) ?_
                    refine lv_idiv hx hb dX3_merge_159 (by decide) ?_
                    refine W.eq (g2 := F0 m 160 ls (.int (nI (ic / 8)) :: [.int 3, .ref (ad 0)])) (congrArg (fun z => F0 m 160 ls (.int z :: [.int 3, .ref (ad 0)])) (pk_div (a := ic) (d := 8) (by omega) (by decide) (by decide))) ?_
                    refine lv_iload_n hx hb dX3_merge_160 rfl (lv_at hl 0 rfl) ?_
                    refine lv_bipush (v := 8) hx hb dX3_merge_161 (by decide) ?_
                    refine lv_irem hx hb dX3_merge_163 (by decide) ?_
                    refine W.eq (g2 := F0 m 164 ls (.int (nI (ic % 8)) :: [.int (nI (ic / 8)), .int 3, .ref (ad 0)])) (congrArg (fun z => F0 m 164 ls (.int z :: [.int (nI (ic / 8)), .int 3, .ref (ad 0)])) (pk_rem (a := ic) (d := 8) (by omega) (by decide) (by decide))) ?_
                    refine pr_i (va_runV (As := [.int 3, .int (nI (ic / 8)), .int (nI (ic % 8))]) (rest := []) ⟨hx, hb, hml, hown, hts⟩ (k_X3_hasCell l D cyI cyZ ad ((f_X3_fills mc mw mn me (0, mz.2.1, mz.2.2.1, mz.2.2.2.1, mz.2.2.2.2)).1) ((f_X3_fills mc mw mn me (0, mz.2.1, mz.2.2.1, mz.2.2.2.1, mz.2.2.2.2)).2.1) ((f_X3_fills mc mw mn me (0, mz.2.1, mz.2.2.1, mz.2.2.2.1, mz.2.2.2.2)).2.2.1) (((f_X3_merge_la mc mw mn me mu mz)).1) mu mr mz_c mf 0 3 (nI (ic / 8)) (nI (ic % 8)) (vp_in_nI (n := 3) (N := 4) (by decide) (by decide))) (cwV 3 hts gX3_merge_X3_hasCell rfl rfl rfl (by decide +kernel) ⟨Nat.le_of_ble_eq_true rfl, Nat.le_of_ble_eq_true rfl⟩) (prV hG hP (ci := 3) rfl rfl rfl) rfl rfl hl.1 rfl (lv_room (Nat.le_of_ble_eq_true rfl)) dX3_merge_164 ⟨Nat.zero_le _, Nat.zero_le _⟩) hS hP (fun H locs hP hS => ?_)
                    refine lv_if_eq (tgt := 199) hx hb dX3_merge_167 (by decide) (fun c_167 => ?_) (fun c_167 => ?_)
                    · refine lv_iinc (v := nI (ic + 1)) (lv' := [(1, .int (nI (ic + 1))), (0, .ref (ad 0))]) hx hb dX3_merge_199 hl (k := 0) rfl (nI_1 _) (by decide) rfl (fun ls hl => ?_)
                      refine lv_goto (tgt := 147) hx hb dX3_merge_202 (by decide) ?_
                      exact ih_c (ic + 1) (by omega) mz_c (it_s hs_c (by show f_X3_merge_sc mc mw mn me mu mr mz ic mz_c = _; rw [f_X3_merge_sc, if_pos c_167])) (by first | omega | (simp only [l1_lists]; omega)) _ _ hP hD hS ls (lv_sub hl [0, 1] rfl)
                    · refine lv_aload_n hx hb dX3_merge_170 rfl (lv_at hl 1 rfl) ?_
                      refine lv_iload_n hx hb dX3_merge_171 rfl (lv_at hl 0 rfl) ?_
                      refine lv_bipush (v := 8) hx hb dX3_merge_172 (by decide) ?_
                      refine lv_idiv hx hb dX3_merge_174 (by decide) ?_
                      refine W.eq (g2 := F0 m 175 ls (.int (nI (ic / 8)) :: [.ref (ad 0)])) (congrArg (fun z => F0 m 175 ls (.int z :: [.ref (ad 0)])) (pk_div (a := ic) (d := 8) (by omega) (by decide) (by decide))) ?_
                      refine lv_iload_n hx hb dX3_merge_175 rfl (lv_at hl 0 rfl) ?_
                      refine lv_bipush (v := 8) hx hb dX3_merge_176 (by decide) ?_
                      refine lv_irem hx hb dX3_merge_178 (by decide) ?_
                      refine W.eq (g2 := F0 m 179 ls (.int (nI (ic % 8)) :: [.int (nI (ic / 8)), .ref (ad 0)])) (congrArg (fun z => F0 m 179 ls (.int z :: [.int (nI (ic / 8)), .ref (ad 0)])) (pk_rem (a := ic) (d := 8) (by omega) (by decide) (by decide))) ?_
                      refine pr_i (va_runV (As := [.int (nI (ic / 8)), .int (nI (ic % 8))]) (rest := []) ⟨hx, hb, hml, hown, hts⟩ (k_X3_isLost l D cyI cyZ ad ((f_X3_fills mc mw mn me (0, mz.2.1, mz.2.2.1, mz.2.2.2.1, mz.2.2.2.2)).1) ((f_X3_fills mc mw mn me (0, mz.2.1, mz.2.2.1, mz.2.2.2.1, mz.2.2.2.2)).2.1) ((f_X3_fills mc mw mn me (0, mz.2.1, mz.2.2.1, mz.2.2.2.1, mz.2.2.2.2)).2.2.1) (((f_X3_merge_la mc mw mn me mu mz)).1) mu mr mz_c mf 0 (nI (ic / 8)) (nI (ic % 8)) (vp_in_nI (n := (ic / 8)) (N := 24) (by omega) (by omega)) (vp_in_nI (n := (ic % 8)) (N := 8) (by omega) (by omega))) (cwV 2 hts gX3_merge_X3_isLost rfl rfl rfl (by decide +kernel) ⟨Nat.le_of_ble_eq_true rfl, Nat.le_of_ble_eq_true rfl⟩) (prV hG hP (ci := 3) rfl rfl rfl) rfl rfl hl.1 rfl (lv_room (Nat.le_of_ble_eq_true rfl)) dX3_merge_179 ⟨Nat.zero_le _, Nat.zero_le _⟩) hS hP (fun H locs hP hS => ?_)
                      refine lv_if_eq (tgt := 199) hx hb dX3_merge_182 (by decide) (fun c_182 => ?_) (fun c_182 => ?_)
                      · refine lv_iinc (v := nI (ic + 1)) (lv' := [(1, .int (nI (ic + 1))), (0, .ref (ad 0))]) hx hb dX3_merge_199 hl (k := 0) rfl (nI_1 _) (by decide) rfl (fun ls hl => ?_)
                        refine lv_goto (tgt := 147) hx hb dX3_merge_202 (by decide) ?_
                        exact ih_c (ic + 1) (by omega) mz_c (it_s hs_c (by show f_X3_merge_sc mc mw mn me mu mr mz ic mz_c = _; rw [f_X3_merge_sc, if_neg c_167, if_pos c_182])) (by first | omega | (simp only [l1_lists]; omega)) _ _ hP hD hS ls (lv_sub hl [0, 1] rfl)
                      · refine lv_aload_n hx hb dX3_merge_185 rfl (lv_at hl 1 rfl) ?_
                        refine lv_bipush (v := 6) hx hb dX3_merge_186 (by decide) ?_
                        refine lv_iload_n hx hb dX3_merge_188 rfl (lv_at hl 0 rfl) ?_
                        refine lv_bipush (v := 8) hx hb dX3_merge_189 (by decide) ?_
                        refine lv_idiv hx hb dX3_merge_191 (by decide) ?_
                        refine W.eq (g2 := F0 m 192 ls (.int (nI (ic / 8)) :: [.int 6, .ref (ad 0)])) (congrArg (fun z => F0 m 192 ls (.int z :: [.int 6, .ref (ad 0)])) (pk_div (a := ic) (d := 8) (by omega) (by decide) (by decide))) ?_
                        refine lv_iload_n hx hb dX3_merge_192 rfl (lv_at hl 0 rfl) ?_
                        refine lv_bipush (v := 8) hx hb dX3_merge_193 (by decide) ?_
                        refine lv_irem hx hb dX3_merge_195 (by decide) ?_
                        refine W.eq (g2 := F0 m 196 ls (.int (nI (ic % 8)) :: [.int (nI (ic / 8)), .int 6, .ref (ad 0)])) (congrArg (fun z => F0 m 196 ls (.int z :: [.int (nI (ic / 8)), .int 6, .ref (ad 0)])) (pk_rem (a := ic) (d := 8) (by omega) (by decide) (by decide))) ?_
                        refine mr_v0 (va_runV (As := [.int 6, .int (nI (ic / 8)), .int (nI (ic % 8))]) (rest := []) ⟨hx, hb, hml, hown, hts⟩ (k_X3_lists l D cyI cyZ ad ((f_X3_fills mc mw mn me (0, mz.2.1, mz.2.2.1, mz.2.2.2.1, mz.2.2.2.2)).1) ((f_X3_fills mc mw mn me (0, mz.2.1, mz.2.2.1, mz.2.2.2.1, mz.2.2.2.2)).2.1) ((f_X3_fills mc mw mn me (0, mz.2.1, mz.2.2.1, mz.2.2.2.1, mz.2.2.2.2)).2.2.1) (((f_X3_merge_la mc mw mn me mu mz)).1) mu mr mz_c mf 0 6 (nI (ic / 8)) (nI (ic % 8)) _ _ rfl (by first | omega | (simp only [l1_lists]; omega))) (cwV 3 hts gX3_merge_X3_lists rfl rfl rfl (by decide +kernel) ⟨Nat.le_of_ble_eq_true rfl, Nat.le_of_ble_eq_true rfl⟩) (pmV hG hP hD (ci := 3) rfl rfl rfl) rfl rfl hl.1 rfl (lv_room (Nat.le_of_ble_eq_true rfl)) dX3_merge_196 ⟨Nat.zero_le _, Nat.zero_le _⟩) hD hS hA (fun H locs hP hD hS => ?_)
                        have hP : va_P D vwCl (wN cyI cyZ ad ((f_X3_fills mc mw mn me (0, mz.2.1, mz.2.2.1, mz.2.2.2.1, mz.2.2.2.2)).1) ((f_X3_fills mc mw mn me (0, mz.2.1, mz.2.2.1, mz.2.2.2.1, mz.2.2.2.2)).2.1) ((f_X3_fills mc mw mn me (0, mz.2.1, mz.2.2.1, mz.2.2.2.1, mz.2.2.2.2)).2.2.1) (((f_X3_merge_la mc mw mn me mu mz)).1) mu mr (f_X3_lists mz_c 6 (nI (ic / 8)) (nI (ic % 8))) mf 0) H := hP
                        have hD : va_D A (wN cyI cyZ ad ((f_X3_fills mc mw mn me (0, mz.2.1, mz.2.2.1, mz.2.2.2.1, mz.2.2.2.2)).1) ((f_X3_fills mc mw mn me (0, mz.2.1, mz.2.2.1, mz.2.2.2.1, mz.2.2.2.2)).2.1) ((f_X3_fills mc mw mn me (0, mz.2.1, mz.2.2.1, mz.2.2.2.1, mz.2.2.2.2)).2.2.1) (((f_X3_merge_la mc mw mn me mu mz)).1) mu mr (f_X3_lists mz_c 6 (nI (ic / 8)) (nI (ic % 8))) mf 0) := hD
                        refine lv_iinc (v := nI (ic + 1)) (lv' := [(1, .int (nI (ic + 1))), (0, .ref (ad 0))]) hx hb dX3_merge_199 hl (k := 0) rfl (nI_1 _) (by decide) rfl (fun ls hl => ?_)
                        refine lv_goto (tgt := 147) hx hb dX3_merge_202 (by decide) ?_
                        exact ih_c (ic + 1) (by omega) (f_X3_lists mz_c 6 (nI (ic / 8)) (nI (ic % 8))) (it_s hs_c (by show f_X3_merge_sc mc mw mn me mu mr mz ic mz_c = _; rw [f_X3_merge_sc, if_neg c_167, if_neg c_182])) (by first | omega | (simp only [l1_lists]; omega)) _ _ hP hD hS ls (lv_sub hl [0, 1] rfl)
              exact lp_c 192 0 (by omega) ((f_X3_merge_lb mc mw mn me mu mz)) rfl (hn_b) _ _ hP hD hS ls (lv_sub hl [0, 1] rfl)
            · exact absurd (by decide) c_112
          | succ n ih_b =>
            intro ib hi_b mz_b hs_b hn_b H locs hP hD hS ls hl
            have hj_b : ib < 8 := by omega
            refine lv_iload_n hx hb dX3_merge_109 rfl (lv_at hl 0 rfl) ?_
            refine lv_bipush (v := 8) hx hb dX3_merge_110 (by decide) ?_
            refine lv_icmp_ge (tgt := 145) hx hb dX3_merge_112 (by decide) (fun c_112 => ?_) (fun c_112 => ?_)
            · exact absurd c_112 (nI_ge hj_b (by decide))
            · refine lv_aload_n hx hb dX3_merge_115 rfl (lv_at hl 1 rfl) ?_
              refine lv_iconst (v := 3) hx hb dX3_merge_116 (by decide) ?_
              refine lv_iload_n hx hb dX3_merge_117 rfl (lv_at hl 0 rfl) ?_
              refine pr_i (va_runV (As := [.int 3, .int (nI ib)]) (rest := []) ⟨hx, hb, hml, hown, hts⟩ (k_X3_hasColumn l D cyI cyZ ad ((f_X3_fills mc mw mn me (0, mz.2.1, mz.2.2.1, mz.2.2.2.1, mz.2.2.2.2)).1) ((f_X3_fills mc mw mn me (0, mz.2.1, mz.2.2.1, mz.2.2.2.1, mz.2.2.2.2)).2.1) ((f_X3_fills mc mw mn me (0, mz.2.1, mz.2.2.1, mz.2.2.2.1, mz.2.2.2.2)).2.2.1) (((f_X3_merge_la mc mw mn me mu mz)).1) mu mr mz_b mf 0 3 (nI ib) (vp_in_nI (n := 3) (N := 4) (by decide) (by decide))) (cwV 2 hts gX3_merge_X3_hasColumn rfl rfl rfl (by decide +kernel) ⟨Nat.le_of_ble_eq_true rfl, Nat.le_of_ble_eq_true rfl⟩) (prV hG hP (ci := 3) rfl rfl rfl) rfl rfl hl.1 rfl (lv_room (Nat.le_of_ble_eq_true rfl)) dX3_merge_118 ⟨Nat.zero_le _, Nat.zero_le _⟩) hS hP (fun H locs hP hS => ?_)
              refine lv_if_eq (tgt := 139) hx hb dX3_merge_121 (by decide) (fun c_121 => ?_) (fun c_121 => ?_)
              · refine lv_iinc (v := nI (ib + 1)) (lv' := [(1, .int (nI (ib + 1))), (0, .ref (ad 0))]) hx hb dX3_merge_139 hl (k := 0) rfl (nI_1 _) (by decide) rfl (fun ls hl => ?_)
                refine lv_goto (tgt := 109) hx hb dX3_merge_142 (by decide) ?_
                exact ih_b (ib + 1) (by omega) mz_b (it_s hs_b (by show f_X3_merge_sb mc mw mn me mz ib mz_b = _; rw [f_X3_merge_sb, if_pos c_121])) (by first | omega | (simp only [l1_lists]; omega)) _ _ hP hD hS ls (lv_sub hl [0, 1] rfl)
              · refine lv_aload_n hx hb dX3_merge_124 rfl (lv_at hl 1 rfl) ?_
                refine lv_iload_n hx hb dX3_merge_125 rfl (lv_at hl 0 rfl) ?_
                refine pr_i (va_runV (As := [.int (nI ib)]) (rest := []) ⟨hx, hb, hml, hown, hts⟩ (k_X3_isDouble l D cyI cyZ ad ((f_X3_fills mc mw mn me (0, mz.2.1, mz.2.2.1, mz.2.2.2.1, mz.2.2.2.2)).1) ((f_X3_fills mc mw mn me (0, mz.2.1, mz.2.2.1, mz.2.2.2.1, mz.2.2.2.2)).2.1) ((f_X3_fills mc mw mn me (0, mz.2.1, mz.2.2.1, mz.2.2.2.1, mz.2.2.2.2)).2.2.1) (((f_X3_merge_la mc mw mn me mu mz)).1) mu mr mz_b mf 0 ib (by first | omega | (simp only [l1_lists]; omega))) (cwV 1 hts gX3_merge_X3_isDouble rfl rfl rfl (by decide +kernel) ⟨Nat.le_of_ble_eq_true rfl, Nat.le_of_ble_eq_true rfl⟩) (prV hG hP (ci := 3) rfl rfl rfl) rfl rfl hl.1 rfl (lv_room (Nat.le_of_ble_eq_true rfl)) dX3_merge_126 ⟨Nat.zero_le _, Nat.zero_le _⟩) hS hP (fun H locs hP hS => ?_)
                refine lv_if_eq (tgt := 139) hx hb dX3_merge_129 (by decide) (fun c_129 => ?_) (fun c_129 => ?_)
                · refine lv_iinc (v := nI (ib + 1)) (lv' := [(1, .int (nI (ib + 1))), (0, .ref (ad 0))]) hx hb dX3_merge_139 hl (k := 0) rfl (nI_1 _) (by decide) rfl (fun ls hl => ?_)
                  refine lv_goto (tgt := 109) hx hb dX3_merge_142 (by decide) ?_
                  exact ih_b (ib + 1) (by omega) mz_b (it_s hs_b (by show f_X3_merge_sb mc mw mn me mz ib mz_b = _; rw [f_X3_merge_sb, if_neg c_121, if_pos c_129])) (by first | omega | (simp only [l1_lists]; omega)) _ _ hP hD hS ls (lv_sub hl [0, 1] rfl)
                · refine lv_aload_n hx hb dX3_merge_132 rfl (lv_at hl 1 rfl) ?_
                  refine lv_iconst (v := 5) hx hb dX3_merge_133 (by decide) ?_
                  refine lv_iconst (v := (-1)) hx hb dX3_merge_134 (by decide) ?_
                  refine lv_iload_n hx hb dX3_merge_135 rfl (lv_at hl 0 rfl) ?_
                  refine mr_v0 (va_runV (As := [.int 5, .int (-1), .int (nI ib)]) (rest := []) ⟨hx, hb, hml, hown, hts⟩ (k_X3_lists l D cyI cyZ ad ((f_X3_fills mc mw mn me (0, mz.2.1, mz.2.2.1, mz.2.2.2.1, mz.2.2.2.2)).1) ((f_X3_fills mc mw mn me (0, mz.2.1, mz.2.2.1, mz.2.2.2.1, mz.2.2.2.2)).2.1) ((f_X3_fills mc mw mn me (0, mz.2.1, mz.2.2.1, mz.2.2.2.1, mz.2.2.2.2)).2.2.1) (((f_X3_merge_la mc mw mn me mu mz)).1) mu mr mz_b mf 0 5 (-1) (nI ib) _ _ rfl (by first | omega | (simp only [l1_lists]; omega))) (cwV 3 hts gX3_merge_X3_lists rfl rfl rfl (by decide +kernel) ⟨Nat.le_of_ble_eq_true rfl, Nat.le_of_ble_eq_true rfl⟩) (pmV hG hP hD (ci := 3) rfl rfl rfl) rfl rfl hl.1 rfl (lv_room (Nat.le_of_ble_eq_true rfl)) dX3_merge_136 ⟨Nat.zero_le _, Nat.zero_le _⟩) hD hS hA (fun H locs hP hD hS => ?_)
                  have hP : va_P D vwCl (wN cyI cyZ ad ((f_X3_fills mc mw mn me (0, mz.2.1, mz.2.2.1, mz.2.2.2.1, mz.2.2.2.2)).1) ((f_X3_fills mc mw mn me (0, mz.2.1, mz.2.2.1, mz.2.2.2.1, mz.2.2.2.2)).2.1) ((f_X3_fills mc mw mn me (0, mz.2.1, mz.2.2.1, mz.2.2.2.1, mz.2.2.2.2)).2.2.1) (((f_X3_merge_la mc mw mn me mu mz)).1) mu mr (f_X3_lists mz_b 5 (-1) (nI ib)) mf 0) H := hP
                  have hD : va_D A (wN cyI cyZ ad ((f_X3_fills mc mw mn me (0, mz.2.1, mz.2.2.1, mz.2.2.2.1, mz.2.2.2.2)).1) ((f_X3_fills mc mw mn me (0, mz.2.1, mz.2.2.1, mz.2.2.2.1, mz.2.2.2.2)).2.1) ((f_X3_fills mc mw mn me (0, mz.2.1, mz.2.2.1, mz.2.2.2.1, mz.2.2.2.2)).2.2.1) (((f_X3_merge_la mc mw mn me mu mz)).1) mu mr (f_X3_lists mz_b 5 (-1) (nI ib)) mf 0) := hD
                  refine lv_iinc (v := nI (ib + 1)) (lv' := [(1, .int (nI (ib + 1))), (0, .ref (ad 0))]) hx hb dX3_merge_139 hl (k := 0) rfl (nI_1 _) (by decide) rfl (fun ls hl => ?_)
                  refine lv_goto (tgt := 109) hx hb dX3_merge_142 (by decide) ?_
                  exact ih_b (ib + 1) (by omega) (f_X3_lists mz_b 5 (-1) (nI ib)) (it_s hs_b (by show f_X3_merge_sb mc mw mn me mz ib mz_b = _; rw [f_X3_merge_sb, if_neg c_121, if_neg c_129])) (by first | omega | (simp only [l1_lists]; omega)) _ _ hP hD hS ls (lv_sub hl [0, 1] rfl)
        exact lp_b 8 0 (by omega) (((f_X3_merge_la mc mw mn me mu mz)).2) rfl (hn_a) _ _ hP hD hS ls (lv_sub hl [0, 1] rfl)
      · exact absurd (by decide) c_20
    | succ n ih_a =>
      intro ia hi_a me_a mz_a hs_a hn_a H locs hP hD hS ls hl
      have hj_a : ia < 192 := by omega
      refine lv_iload_n hx hb dX3_merge_16 rfl (lv_at hl 0 rfl) ?_
      refine lv_sipush (v := 192) hx hb dX3_merge_17 (by decide) ?_
      refine lv_icmp_ge (tgt := 107) hx hb dX3_merge_20 (by decide) (fun c_20 => ?_) (fun c_20 => ?_)
      · exact absurd c_20 (nI_ge hj_a (by decide))
      · refine lv_aload_n hx hb dX3_merge_23 rfl (lv_at hl 1 rfl) ?_
        refine lv_iconst (v := 3) hx hb dX3_merge_24 (by decide) ?_
        refine lv_iload_n hx hb dX3_merge_25 rfl (lv_at hl 0 rfl) ?_
        refine lv_bipush (v := 8) hx hb dX3_merge_26 (by decide) ?_
        refine lv_idiv hx hb dX3_merge_28 (by decide) ?_
        refine W.eq (g2 := F0 m 29 ls (.int (nI (ia / 8)) :: [.int 3, .ref (ad 0)])) (congrArg (fun z => F0 m 29 ls (.int z :: [.int 3, .ref (ad 0)])) (pk_div (a := ia) (d := 8) (by omega) (by decide) (by decide))) ?_
        refine lv_iload_n hx hb dX3_merge_29 rfl (lv_at hl 0 rfl) ?_
        refine lv_bipush (v := 8) hx hb dX3_merge_30 (by decide) ?_
        refine lv_irem hx hb dX3_merge_32 (by decide) ?_
        refine W.eq (g2 := F0 m 33 ls (.int (nI (ia % 8)) :: [.int (nI (ia / 8)), .int 3, .ref (ad 0)])) (congrArg (fun z => F0 m 33 ls (.int z :: [.int (nI (ia / 8)), .int 3, .ref (ad 0)])) (pk_rem (a := ia) (d := 8) (by omega) (by decide) (by decide))) ?_
        refine pr_i (va_runV (As := [.int 3, .int (nI (ia / 8)), .int (nI (ia % 8))]) (rest := []) ⟨hx, hb, hml, hown, hts⟩ (k_X3_hasCell l D cyI cyZ ad ((f_X3_fills mc mw mn me (0, mz.2.1, mz.2.2.1, mz.2.2.2.1, mz.2.2.2.2)).1) ((f_X3_fills mc mw mn me (0, mz.2.1, mz.2.2.1, mz.2.2.2.1, mz.2.2.2.2)).2.1) ((f_X3_fills mc mw mn me (0, mz.2.1, mz.2.2.1, mz.2.2.2.1, mz.2.2.2.2)).2.2.1) me_a mu mr mz_a mf 0 3 (nI (ia / 8)) (nI (ia % 8)) (vp_in_nI (n := 3) (N := 4) (by decide) (by decide))) (cwV 3 hts gX3_merge_X3_hasCell rfl rfl rfl (by decide +kernel) ⟨Nat.le_of_ble_eq_true rfl, Nat.le_of_ble_eq_true rfl⟩) (prV hG hP (ci := 3) rfl rfl rfl) rfl rfl hl.1 rfl (lv_room (Nat.le_of_ble_eq_true rfl)) dX3_merge_33 ⟨Nat.zero_le _, Nat.zero_le _⟩) hS hP (fun H locs hP hS => ?_)
        refine lv_if_eq (tgt := 101) hx hb dX3_merge_36 (by decide) (fun c_36 => ?_) (fun c_36 => ?_)
        · refine lv_iinc (v := nI (ia + 1)) (lv' := [(1, .int (nI (ia + 1))), (0, .ref (ad 0))]) hx hb dX3_merge_101 hl (k := 0) rfl (nI_1 _) (by decide) rfl (fun ls hl => ?_)
          refine lv_goto (tgt := 16) hx hb dX3_merge_104 (by decide) ?_
          exact ih_a (ia + 1) (by omega) me_a mz_a (it_s hs_a (by show f_X3_merge_sa mc mw mn me mu mz ia me_a mz_a = _; rw [f_X3_merge_sa, if_pos c_36])) (by first | omega | (simp only [l1_lists]; omega)) _ _ hP hD hS ls (lv_sub hl [0, 1] rfl)
        · refine lv_aload_n hx hb dX3_merge_39 rfl (lv_at hl 1 rfl) ?_
          refine va_get (D := D) (ci := 3) (v := .ref (ad 4)) (C := RX3) (T := TX3) (N := 13) hx hb hts uin_X3_merge_X3 hown hG.1 hP 0 rfl rfl 3 (by decide) (hts (.fieldLink RX3 19 "TableSpliceModel" "cell" "[I") (List.mem_of_getElem? (i := 3) rfl)) (fun _ h9 => h9) rfl dX3_merge_40 ?_
          refine lv_sipush (v := 576) hx hb dX3_merge_43 (by decide) ?_
          refine lv_iload_n hx hb dX3_merge_46 rfl (lv_at hl 0 rfl) ?_
          refine lv_iadd hx hb dX3_merge_47 ?_
          refine lv_aload_n hx hb dX3_merge_48 rfl (lv_at hl 1 rfl) ?_
          refine lv_iload_n hx hb dX3_merge_49 rfl (lv_at hl 0 rfl) ?_
          refine lv_bipush (v := 8) hx hb dX3_merge_50 (by decide) ?_
          refine lv_idiv hx hb dX3_merge_52 (by decide) ?_
          refine W.eq (g2 := F0 m 53 ls (.int (nI (ia / 8)) :: [.ref (ad 0), .int (576 + (nI ia)), .ref (ad 4)])) (congrArg (fun z => F0 m 53 ls (.int z :: [.ref (ad 0), .int (576 + (nI ia)), .ref (ad 4)])) (pk_div (a := ia) (d := 8) (by omega) (by decide) (by decide))) ?_
          refine lv_iload_n hx hb dX3_merge_53 rfl (lv_at hl 0 rfl) ?_
          refine lv_bipush (v := 8) hx hb dX3_merge_54 (by decide) ?_
          refine lv_irem hx hb dX3_merge_56 (by decide) ?_
          refine W.eq (g2 := F0 m 57 ls (.int (nI (ia % 8)) :: [.int (nI (ia / 8)), .ref (ad 0), .int (576 + (nI ia)), .ref (ad 4)])) (congrArg (fun z => F0 m 57 ls (.int z :: [.int (nI (ia / 8)), .ref (ad 0), .int (576 + (nI ia)), .ref (ad 4)])) (pk_rem (a := ia) (d := 8) (by omega) (by decide) (by decide))) ?_
          refine pr_i (va_runV (As := [.int (nI (ia / 8)), .int (nI (ia % 8))]) (rest := [.int (576 + (nI ia)), .ref (ad 4)]) ⟨hx, hb, hml, hown, hts⟩ (k_X3_mergedCell l D cyI cyZ ad ((f_X3_fills mc mw mn me (0, mz.2.1, mz.2.2.1, mz.2.2.2.1, mz.2.2.2.2)).1) ((f_X3_fills mc mw mn me (0, mz.2.1, mz.2.2.1, mz.2.2.2.1, mz.2.2.2.2)).2.1) ((f_X3_fills mc mw mn me (0, mz.2.1, mz.2.2.1, mz.2.2.2.1, mz.2.2.2.2)).2.2.1) me_a mu mr mz_a mf 0 (nI (ia / 8)) (nI (ia % 8)) (vp_in_nI (n := (ia / 8)) (N := 24) (by omega) (by omega)) (vp_in_nI (n := (ia % 8)) (N := 8) (by omega) (by omega))) (cwV 2 hts gX3_merge_X3_mergedCell rfl rfl rfl (by decide +kernel) ⟨Nat.le_of_ble_eq_true rfl, Nat.le_of_ble_eq_true rfl⟩) (prV hG hP (ci := 3) rfl rfl rfl) rfl rfl hl.1 rfl (lv_room (Nat.le_of_ble_eq_true rfl)) dX3_merge_57 ⟨Nat.zero_le _, Nat.zero_le _⟩) hS hP (fun H locs hP hS => ?_)
          refine va_iast hx hb hG.1 hP hD hS 4 0 rfl rfl (vi_add (k := 768) (vp_in_nI (n := 576) (N := 577) (by decide) (by decide)) (vp_in_nI (n := ia) (N := 192) (by omega) (by omega)) (by decide) (by decide)) dX3_merge_60 (fun H locs hP hD hS => ?_)
          have hP : va_P D vwCl (wN cyI cyZ ad ((f_X3_fills mc mw mn me (0, mz.2.1, mz.2.2.1, mz.2.2.2.1, mz.2.2.2.2)).1) ((f_X3_fills mc mw mn me (0, mz.2.1, mz.2.2.1, mz.2.2.2.1, mz.2.2.2.2)).2.1) ((f_X3_fills mc mw mn me (0, mz.2.1, mz.2.2.1, mz.2.2.2.1, mz.2.2.2.2)).2.2.1) (upd me_a (576 + (nI ia)).toNatClampNeg (f_X3_mergedCell ((f_X3_fills mc mw mn me (0, mz.2.1, mz.2.2.1, mz.2.2.2.1, mz.2.2.2.2)).1) ((f_X3_fills mc mw mn me (0, mz.2.1, mz.2.2.1, mz.2.2.2.1, mz.2.2.2.2)).2.1) me_a mu (nI (ia / 8)) (nI (ia % 8)))) mu mr mz_a mf 0) H := hP
          have hD : va_D A (wN cyI cyZ ad ((f_X3_fills mc mw mn me (0, mz.2.1, mz.2.2.1, mz.2.2.2.1, mz.2.2.2.2)).1) ((f_X3_fills mc mw mn me (0, mz.2.1, mz.2.2.1, mz.2.2.2.1, mz.2.2.2.2)).2.1) ((f_X3_fills mc mw mn me (0, mz.2.1, mz.2.2.1, mz.2.2.2.1, mz.2.2.2.2)).2.2.1) (upd me_a (576 + (nI ia)).toNatClampNeg (f_X3_mergedCell ((f_X3_fills mc mw mn me (0, mz.2.1, mz.2.2.1, mz.2.2.2.1, mz.2.2.2.2)).1) ((f_X3_fills mc mw mn me (0, mz.2.1, mz.2.2.1, mz.2.2.2.1, mz.2.2.2.2)).2.1) me_a mu (nI (ia / 8)) (nI (ia % 8)))) mu mr mz_a mf 0) := hD
          refine lv_aload_n hx hb dX3_merge_61 rfl (lv_at hl 1 rfl) ?_
          refine va_get (D := D) (ci := 3) (v := .ref (ad 5)) (C := RX3) (T := TX3) (N := 13) hx hb hts uin_X3_merge_X3 hown hG.1 hP 0 rfl rfl 4 (by decide) (hts (.fieldLink RX3 22 "TableSpliceModel" "rule" "[I") (List.mem_of_getElem? (i := 4) rfl)) (fun _ h9 => h9) rfl dX3_merge_62 ?_
          refine lv_iload_n hx hb dX3_merge_65 rfl (lv_at hl 0 rfl) ?_
          refine lv_bipush (v := 8) hx hb dX3_merge_66 (by decide) ?_
          refine lv_irem hx hb dX3_merge_68 (by decide) ?_
          refine W.eq (g2 := F0 m 69 ls (.int (nI (ia % 8)) :: [.ref (ad 5)])) (congrArg (fun z => F0 m 69 ls (.int z :: [.ref (ad 5)])) (pk_rem (a := ia) (d := 8) (by omega) (by decide) (by decide))) ?_
          refine va_iald hx hb hG.1 hP 5 0 rfl rfl (vp_in_nI (n := (ia % 8)) (N := 8) (by omega) (by omega)) dX3_merge_69 ?_
          refine lv_if_ne (tgt := 101) hx hb dX3_merge_70 (by decide) (fun c_70 => ?_) (fun c_70 => ?_)
          · refine lv_iinc (v := nI (ia + 1)) (lv' := [(1, .int (nI (ia + 1))), (0, .ref (ad 0))]) hx hb dX3_merge_101 hl (k := 0) rfl (nI_1 _) (by decide) rfl (fun ls hl => ?_)
            refine lv_goto (tgt := 16) hx hb dX3_merge_104 (by decide) ?_
            exact ih_a (ia + 1) (by omega) (upd me_a (576 + (nI ia)).toNatClampNeg (f_X3_mergedCell ((f_X3_fills mc mw mn me (0, mz.2.1, mz.2.2.1, mz.2.2.2.1, mz.2.2.2.2)).1) ((f_X3_fills mc mw mn me (0, mz.2.1, mz.2.2.1, mz.2.2.2.1, mz.2.2.2.2)).2.1) me_a mu (nI (ia / 8)) (nI (ia % 8)))) mz_a (it_s hs_a (by show f_X3_merge_sa mc mw mn me mu mz ia me_a mz_a = _; rw [f_X3_merge_sa, if_neg c_36, if_neg c_70])) (by first | omega | (simp only [l1_lists]; omega)) _ _ hP hD hS ls (lv_sub hl [0, 1] rfl)
          · refine lv_aload_n hx hb dX3_merge_73 rfl (lv_at hl 1 rfl) ?_
            refine lv_iload_n hx hb dX3_merge_74 rfl (lv_at hl 0 rfl) ?_
            refine lv_bipush (v := 8) hx hb dX3_merge_75 (by decide) ?_
            refine lv_idiv hx hb dX3_merge_77 (by decide) ?_
            refine W.eq (g2 := F0 m 78 ls (.int (nI (ia / 8)) :: [.ref (ad 0)])) (congrArg (fun z => F0 m 78 ls (.int z :: [.ref (ad 0)])) (pk_div (a := ia) (d := 8) (by omega) (by decide) (by decide))) ?_
            refine lv_iload_n hx hb dX3_merge_78 rfl (lv_at hl 0 rfl) ?_
            refine lv_bipush (v := 8) hx hb dX3_merge_79 (by decide) ?_
            refine lv_irem hx hb dX3_merge_81 (by decide) ?_
            refine W.eq (g2 := F0 m 82 ls (.int (nI (ia % 8)) :: [.int (nI (ia / 8)), .ref (ad 0)])) (congrArg (fun z => F0 m 82 ls (.int z :: [.int (nI (ia / 8)), .ref (ad 0)])) (pk_rem (a := ia) (d := 8) (by omega) (by decide) (by decide))) ?_
            refine pr_i (va_runV (As := [.int (nI (ia / 8)), .int (nI (ia % 8))]) (rest := []) ⟨hx, hb, hml, hown, hts⟩ (k_X3_atOdds l D cyI cyZ ad ((f_X3_fills mc mw mn me (0, mz.2.1, mz.2.2.1, mz.2.2.2.1, mz.2.2.2.2)).1) ((f_X3_fills mc mw mn me (0, mz.2.1, mz.2.2.1, mz.2.2.2.1, mz.2.2.2.2)).2.1) ((f_X3_fills mc mw mn me (0, mz.2.1, mz.2.2.1, mz.2.2.2.1, mz.2.2.2.2)).2.2.1) (upd me_a (576 + (nI ia)).toNatClampNeg (f_X3_mergedCell ((f_X3_fills mc mw mn me (0, mz.2.1, mz.2.2.1, mz.2.2.2.1, mz.2.2.2.2)).1) ((f_X3_fills mc mw mn me (0, mz.2.1, mz.2.2.1, mz.2.2.2.1, mz.2.2.2.2)).2.1) me_a mu (nI (ia / 8)) (nI (ia % 8)))) mu mr mz_a mf 0 (nI (ia / 8)) (nI (ia % 8)) (vp_in_nI (n := (ia / 8)) (N := 24) (by omega) (by omega)) (vp_in_nI (n := (ia % 8)) (N := 8) (by omega) (by omega))) (cwV 2 hts gX3_merge_X3_atOdds rfl rfl rfl (by decide +kernel) ⟨Nat.le_of_ble_eq_true rfl, Nat.le_of_ble_eq_true rfl⟩) (prV hG hP (ci := 3) rfl rfl rfl) rfl rfl hl.1 rfl (lv_room (Nat.le_of_ble_eq_true rfl)) dX3_merge_82 ⟨Nat.zero_le _, Nat.zero_le _⟩) hS hP (fun H locs hP hS => ?_)
            refine lv_if_eq (tgt := 101) hx hb dX3_merge_85 (by decide) (fun c_85 => ?_) (fun c_85 => ?_)
            · refine lv_iinc (v := nI (ia + 1)) (lv' := [(1, .int (nI (ia + 1))), (0, .ref (ad 0))]) hx hb dX3_merge_101 hl (k := 0) rfl (nI_1 _) (by decide) rfl (fun ls hl => ?_)
              refine lv_goto (tgt := 16) hx hb dX3_merge_104 (by decide) ?_
              exact ih_a (ia + 1) (by omega) (upd me_a (576 + (nI ia)).toNatClampNeg (f_X3_mergedCell ((f_X3_fills mc mw mn me (0, mz.2.1, mz.2.2.1, mz.2.2.2.1, mz.2.2.2.2)).1) ((f_X3_fills mc mw mn me (0, mz.2.1, mz.2.2.1, mz.2.2.2.1, mz.2.2.2.2)).2.1) me_a mu (nI (ia / 8)) (nI (ia % 8)))) mz_a (it_s hs_a (by show f_X3_merge_sa mc mw mn me mu mz ia me_a mz_a = _; rw [f_X3_merge_sa, if_neg c_36, if_pos c_70, if_pos c_85])) (by first | omega | (simp only [l1_lists]; omega)) _ _ hP hD hS ls (lv_sub hl [0, 1] rfl)
            · refine lv_aload_n hx hb dX3_merge_88 rfl (lv_at hl 1 rfl) ?_
              refine lv_iconst (v := 1) hx hb dX3_merge_89 (by decide) ?_
              refine lv_iload_n hx hb dX3_merge_90 rfl (lv_at hl 0 rfl) ?_
              refine lv_bipush (v := 8) hx hb dX3_merge_91 (by decide) ?_
              refine lv_idiv hx hb dX3_merge_93 (by decide) ?_
              refine W.eq (g2 := F0 m 94 ls (.int (nI (ia / 8)) :: [.int 1, .ref (ad 0)])) (congrArg (fun z => F0 m 94 ls (.int z :: [.int 1, .ref (ad 0)])) (pk_div (a := ia) (d := 8) (by omega) (by decide) (by decide))) ?_
              refine lv_iload_n hx hb dX3_merge_94 rfl (lv_at hl 0 rfl) ?_
              refine lv_bipush (v := 8) hx hb dX3_merge_95 (by decide) ?_
              refine lv_irem hx hb dX3_merge_97 (by decide) ?_
              refine W.eq (g2 := F0 m 98 ls (.int (nI (ia % 8)) :: [.int (nI (ia / 8)), .int 1, .ref (ad 0)])) (congrArg (fun z => F0 m 98 ls (.int z :: [.int (nI (ia / 8)), .int 1, .ref (ad 0)])) (pk_rem (a := ia) (d := 8) (by omega) (by decide) (by decide))) ?_
              refine mr_v0 (va_runV (As := [.int 1, .int (nI (ia / 8)), .int (nI (ia % 8))]) (rest := []) ⟨hx, hb, hml, hown, hts⟩ (k_X3_lists l D cyI cyZ ad ((f_X3_fills mc mw mn me (0, mz.2.1, mz.2.2.1, mz.2.2.2.1, mz.2.2.2.2)).1) ((f_X3_fills mc mw mn me (0, mz.2.1, mz.2.2.1, mz.2.2.2.1, mz.2.2.2.2)).2.1) ((f_X3_fills mc mw mn me (0, mz.2.1, mz.2.2.1, mz.2.2.2.1, mz.2.2.2.2)).2.2.1) (upd me_a (576 + (nI ia)).toNatClampNeg (f_X3_mergedCell ((f_X3_fills mc mw mn me (0, mz.2.1, mz.2.2.1, mz.2.2.2.1, mz.2.2.2.2)).1) ((f_X3_fills mc mw mn me (0, mz.2.1, mz.2.2.1, mz.2.2.2.1, mz.2.2.2.2)).2.1) me_a mu (nI (ia / 8)) (nI (ia % 8)))) mu mr mz_a mf 0 1 (nI (ia / 8)) (nI (ia % 8)) _ _ rfl (by first | omega | (simp only [l1_lists]; omega))) (cwV 3 hts gX3_merge_X3_lists rfl rfl rfl (by decide +kernel) ⟨Nat.le_of_ble_eq_true rfl, Nat.le_of_ble_eq_true rfl⟩) (pmV hG hP hD (ci := 3) rfl rfl rfl) rfl rfl hl.1 rfl (lv_room (Nat.le_of_ble_eq_true rfl)) dX3_merge_98 ⟨Nat.zero_le _, Nat.zero_le _⟩) hD hS hA (fun H locs hP hD hS => ?_)
              have hP : va_P D vwCl (wN cyI cyZ ad ((f_X3_fills mc mw mn me (0, mz.2.1, mz.2.2.1, mz.2.2.2.1, mz.2.2.2.2)).1) ((f_X3_fills mc mw mn me (0, mz.2.1, mz.2.2.1, mz.2.2.2.1, mz.2.2.2.2)).2.1) ((f_X3_fills mc mw mn me (0, mz.2.1, mz.2.2.1, mz.2.2.2.1, mz.2.2.2.2)).2.2.1) (upd me_a (576 + (nI ia)).toNatClampNeg (f_X3_mergedCell ((f_X3_fills mc mw mn me (0, mz.2.1, mz.2.2.1, mz.2.2.2.1, mz.2.2.2.2)).1) ((f_X3_fills mc mw mn me (0, mz.2.1, mz.2.2.1, mz.2.2.2.1, mz.2.2.2.2)).2.1) me_a mu (nI (ia / 8)) (nI (ia % 8)))) mu mr (f_X3_lists mz_a 1 (nI (ia / 8)) (nI (ia % 8))) mf 0) H := hP
              have hD : va_D A (wN cyI cyZ ad ((f_X3_fills mc mw mn me (0, mz.2.1, mz.2.2.1, mz.2.2.2.1, mz.2.2.2.2)).1) ((f_X3_fills mc mw mn me (0, mz.2.1, mz.2.2.1, mz.2.2.2.1, mz.2.2.2.2)).2.1) ((f_X3_fills mc mw mn me (0, mz.2.1, mz.2.2.1, mz.2.2.2.1, mz.2.2.2.2)).2.2.1) (upd me_a (576 + (nI ia)).toNatClampNeg (f_X3_mergedCell ((f_X3_fills mc mw mn me (0, mz.2.1, mz.2.2.1, mz.2.2.2.1, mz.2.2.2.2)).1) ((f_X3_fills mc mw mn me (0, mz.2.1, mz.2.2.1, mz.2.2.2.1, mz.2.2.2.2)).2.1) me_a mu (nI (ia / 8)) (nI (ia % 8)))) mu mr (f_X3_lists mz_a 1 (nI (ia / 8)) (nI (ia % 8))) mf 0) := hD
              refine lv_iinc (v := nI (ia + 1)) (lv' := [(1, .int (nI (ia + 1))), (0, .ref (ad 0))]) hx hb dX3_merge_101 hl (k := 0) rfl (nI_1 _) (by decide) rfl (fun ls hl => ?_)
              refine lv_goto (tgt := 16) hx hb dX3_merge_104 (by decide) ?_
              exact ih_a (ia + 1) (by omega) (upd me_a (576 + (nI ia)).toNatClampNeg (f_X3_mergedCell ((f_X3_fills mc mw mn me (0, mz.2.1, mz.2.2.1, mz.2.2.2.1, mz.2.2.2.2)).1) ((f_X3_fills mc mw mn me (0, mz.2.1, mz.2.2.1, mz.2.2.2.1, mz.2.2.2.2)).2.1) me_a mu (nI (ia / 8)) (nI (ia % 8)))) (f_X3_lists mz_a 1 (nI (ia / 8)) (nI (ia % 8))) (it_s hs_a (by show f_X3_merge_sa mc mw mn me mu mz ia me_a mz_a = _; rw [f_X3_merge_sa, if_neg c_36, if_pos c_70, if_neg c_85])) (by first | omega | (simp only [l1_lists]; omega)) _ _ hP hD hS ls (lv_sub hl [0, 1] rfl)
  exact lp_a 192 0 (by omega) me ((f_X3_fills mc mw mn me (0, mz.2.1, mz.2.2.1, mz.2.2.2.1, mz.2.2.2.2)).2.2.2) rfl (n_fills rfl) _ _ hP hD hS ls (lv_sub hl [0, 1] rfl)
