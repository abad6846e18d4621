theorem n_fills_a {mc mw mn me : Nat → Int32} {mz : Kr} (h : mz.1 = 0) : (f_X3_fills_la mc mw mn me mz).2.2.1 ≤ 16 := by
  rw [f_X3_fills_la]
  have h9 := it_Pi (P := fun i (z : (Nat → Int32) × (Nat → Int32) × Kr) => z.2.2.1 ≤ 2 * i) (f := fun (i9 : Nat) (z9 : (Nat → Int32) × (Nat → Int32) × Kr) => f_X3_fills_sa mw me i9 z9.1 z9.2.1 z9.2.2) (s := ((upd mc (3 : Int32).toNatClampNeg 0), mn, mz)) (Nat.le_of_eq h) (fun i z hz => by
    show (f_X3_fills_sa mw me i z.1 z.2.1 z.2.2).2.2.1 ≤ 2 * (i + 1)
    have hz : z.2.2.1 ≤ 2 * i := hz
    rw [f_X3_fills_sa]
    repeat' split
    all_goals first | omega | (simp only [l1_lists]; omega)) 8
  exact h9
theorem n_fills {mc mw mn me : Nat → Int32} {mz : Kr} (h : mz.1 = 0) : (f_X3_fills mc mw mn me mz).2.2.2.1 ≤ 40 := by
  show (f_X3_fills_lb mc mw mn me mz).2.1 ≤ 40
  rw [f_X3_fills_lb]
  have h9 := it_Pi (P := fun i (z : (Nat → Int32) × Kr) => z.2.1 ≤ 16 + i) (f := fun (i9 : Nat) (z9 : (Nat → Int32) × Kr) => f_X3_fills_sb mc mw mn me mz i9 z9.1 z9.2) (s := ((upd mw (3 : Int32).toNatClampNeg 0), (f_X3_fills_la mc mw mn me mz).2.2)) (n_fills_a h) (fun i z hz => by
    show (f_X3_fills_sb mc mw mn me mz i z.1 z.2).2.1 ≤ 16 + (i + 1)
    have hz : z.2.1 ≤ 16 + i := hz
    rw [f_X3_fills_sb]
    repeat' split
    all_goals first | omega | (simp only [l1_lists]; omega)) 24
  exact h9
def f_X3_isDouble_sa (mc : Nat → Int32) (mn : Nat → Int32) (q1 : Nat) (ia : Nat) (va_2 : Int32) : Int32 := if (f_X3_hasColumn mc 3 (nI ia)) = 0 then va_2 ||| 0 else (if (mn (24 + (nI ia)).toNatClampNeg) = (mn (24 + (nI q1)).toNatClampNeg) then va_2 ||| 1 else va_2 ||| 0)
def f_X3_isDouble_la (mc : Nat → Int32) (mn : Nat → Int32) (q1 : Nat) : Int32 := it (fun (i9 : Nat) (z9 : Int32) => f_X3_isDouble_sa mc mn q1 i9 z9) 0 q1
def f_X3_isDouble (mc : Nat → Int32) (mn : Nat → Int32) (q1 : Nat) : Int32 := (f_X3_isDouble_la mc mn q1)
theorem uin_X3_isDouble_X3 : ∀ w ∈ wsX30, w ∈ wsX3_isDouble := fun _ h => List.mem_cons_of_mem _ (List.mem_append_right _ h)
set_option maxHeartbeats 4000000 in
set_option maxRecDepth 100000 in
theorem k_X3_isDouble (l : Launch) (D : va_G) (cyI cyZ : ClassId) (ad : Nat → Nat) (mc : Nat → Int32) (mw : Nat → Int32) (mn : Nat → Int32) (me : Nat → Int32) (mu : Nat → Int32) (mr : Nat → Int32) (mz : Kr) (mf : Int32) (mt : Int32) (q1 : Nat) (hq : q1 < 8) : Met l yX3_isDouble wsX3_isDouble ({ frames := 1, cells := 0, slots := 0, locals := 22 } : Room) (pcP D cyI cyZ [.ref (ad 0), .int (nI q1)] (wN cyI cyZ ad mc mw mn me mu mr mz mf mt)) (qI (f_X3_isDouble mc mn q1)) 0 0 nA := by
  refine Met.ofW (cc := cX3_isDouble) (maxL := 4) (ret := (some .boolean)) (by decide) rfl ?_
  intro p e s m args below meth c s₁ B hml hv
  obtain ⟨rfl, hP, hG⟩ := hv
  have hx := B.exec
  have hb := B.bytes
  have hr := B.returns
  have hts := atoms_spec (ws := wsX3_isDouble) B.pre
  have hown : s.vm.findClass RX3 = some m.cls := findClass_of_methodNamed B.named
  have hlocks := B.notSynchronized
  have hS : va_S nA s.heap s.heap [] := va_S.rf
  have hl := lv_entry ([.ref (ad 0), .int (nI q1)]) (n := 4) (Nat.le_of_ble_eq_true rfl)
  rw [lg_entry_eq]
  generalize (lg_sl ([.ref (ad 0), .int (nI q1)]) ++ List.replicate (4 - (lg_sl ([.ref (ad 0), .int (nI q1)])).length) Slot.unset).toArray = ls at hl ⊢
  have hl : lv_has ls 4 [(0, .ref (ad 0)), (1, .int (nI q1))] := hl
  have hP : va_P D vwCl (wN cyI cyZ ad mc mw mn me mu mr mz mf mt) s.heap := hP
  refine lv_iconst (v := 0) hx hb dX3_isDouble_0 (by decide) ?_
  refine lv_istore_n (lv' := [(2, .int 0), (0, .ref (ad 0)), (1, .int (nI q1))]) hx hb dX3_isDouble_1 rfl hl (by decide) rfl (fun ls hl => ?_)
  refine lv_iconst (v := 0) hx hb dX3_isDouble_2 (by decide) ?_
  refine lv_istore_n (lv' := [(3, .int 0), (2, .int 0), (0, .ref (ad 0)), (1, .int (nI q1))]) hx hb dX3_isDouble_3 rfl hl (by decide) rfl (fun ls hl => ?_)
  have lp_a : ∀ (n ia : Nat), ia + n = q1 → ∀ (va_2 : Int32), va_2 = it (fun (i9 : Nat) (z9 : Int32) => f_X3_isDouble_sa mc mn q1 i9 z9) 0 ia → (va_2 = 0 ∨ va_2 = 1) → ∀ (H : Heap) (locs : List Loc), va_P D vwCl (wN cyI cyZ ad mc mw mn me mu mr mz mf mt) H → va_S nA s.heap H locs → ∀ (ls : Array Slot), lv_has ls 4 [(3, .int (nI ia)), (2, .int va_2), (0, .ref (ad 0)), (1, .int (nI q1))] → W p l e (headSpec wsX3_isDouble ({ frames := 1, cells := 0, slots := 0, locals := 22 } : Room)).room s m ([.ref (ad 0), .int (nI q1)] : List Value).toArray below meth c H locs 0 0 (MQ below (qI (f_X3_isDouble mc mn q1)) ([.ref (ad 0), .int (nI q1)] : List Value).toArray s 0 0 nA) (F0 m 4 ls []) := by
    intro n
    induction n with
    | zero =>
      intro ia hi_a va_2 hs_a hb_a H locs hP hS ls hl
      obtain rfl : q1 = ia := by omega
      obtain rfl : va_2 = (f_X3_isDouble_la mc mn q1) := hs_a
      refine lv_iload_n hx hb dX3_isDouble_4 rfl (lv_at hl 0 rfl) ?_
      refine lv_iload_n hx hb dX3_isDouble_5 rfl (lv_at hl 3 rfl) ?_
      refine lv_icmp_ge (tgt := 53) hx hb dX3_isDouble_6 (by decide) (fun c_6 => ?_) (fun c_6 => ?_)
      · refine lv_iload_n hx hb dX3_isDouble_53 rfl (lv_at hl 1 rfl) ?_
        have ef : f_X3_isDouble mc mn q1 = (f_X3_isDouble_la mc mn q1) := by rw [f_X3_isDouble]
        exact W.zret (v := (f_X3_isDouble_la mc mn q1)) (ty := .boolean) hx hb hr (nz_b hb_a) (fun t ht hW => ⟨⟨(f_X3_isDouble_la mc mn q1), (), rfl, ef.symm, trivial⟩, hS.F ht⟩) hS.2.2 dX3_isDouble_54
      · exact absurd (Int32.le_refl _) c_6
    | succ n ih_a =>
      intro ia hi_a va_2 hs_a hb_a H locs hP hS ls hl
      have hj_a : ia < q1 := by omega
      refine lv_iload_n hx hb dX3_isDouble_4 rfl (lv_at hl 0 rfl) ?_
      refine lv_iload_n hx hb dX3_isDouble_5 rfl (lv_at hl 3 rfl) ?_
      refine lv_icmp_ge (tgt := 53) hx hb dX3_isDouble_6 (by decide) (fun c_6 => ?_) (fun c_6 => ?_)
      · exact absurd c_6 (nI_ge hj_a (by omega))
      · refine lv_iload_n hx hb dX3_isDouble_9 rfl (lv_at hl 1 rfl) ?_
        refine lv_aload_n hx hb dX3_isDouble_10 rfl (lv_at hl 2 rfl) ?_
        refine lv_iconst (v := 3) hx hb dX3_isDouble_11 (by decide) ?_
        refine lv_iload_n hx hb dX3_isDouble_12 rfl (lv_at hl 0 rfl) ?_
        refine pr_i (va_runV (As := [.int 3, .int (nI ia)]) (rest := [.int va_2]) ⟨hx, hb, hml, hown, hts⟩ (k_X3_hasColumn l D cyI cyZ ad mc mw mn me mu mr mz mf mt 3 (nI ia) (vp_in_nI (n := 3) (N := 4) (by decide) (by decide))) (cwV 2 hts gX3_isDouble_X3_hasColumn rfl rfl rfl (by decide +kernel) ⟨Nat.le_of_ble_eq_true rfl, Nat.le_of_ble_eq_true rfl⟩) (prV hG hP (ci := 3) rfl rfl rfl) rfl rfl hl.1 rfl (lv_room (Nat.le_of_ble_eq_true rfl)) dX3_isDouble_13 ⟨Nat.zero_le _, Nat.zero_le _⟩) hS hP (fun H locs hP hS => ?_)
        refine lv_if_eq (tgt := 44) hx hb dX3_isDouble_16 (by decide) (fun c_16 => ?_) (fun c_16 => ?_)
        · refine lv_iconst (v := 0) hx hb dX3_isDouble_44 (by decide) ?_
          refine lv_ior hx hb dX3_isDouble_45 ?_
          refine lv_istore_n (lv' := [(2, .int (va_2 ||| 0)), (3, .int (nI ia)), (0, .ref (ad 0)), (1, .int (nI q1))]) hx hb dX3_isDouble_46 rfl hl (by decide) rfl (fun ls hl => ?_)
          refine lv_iinc (v := nI (ia + 1)) (lv' := [(3, .int (nI (ia + 1))), (2, .int (va_2 ||| 0)), (0, .ref (ad 0)), (1, .int (nI q1))]) hx hb dX3_isDouble_47 hl (k := 1) rfl (nI_1 _) (by decide) rfl (fun ls hl => ?_)
          refine lv_goto (tgt := 4) hx hb dX3_isDouble_50 (by decide) ?_
          exact ih_a (ia + 1) (by omega) (va_2 ||| 0) (it_s hs_a (by show f_X3_isDouble_sa mc mn q1 ia va_2 = _; rw [f_X3_isDouble_sa, if_pos c_16])) (by first | exact bz_or hb_a b01_0 | exact bz_or hb_a b01_1) _ _ hP hS ls (lv_sub hl [0, 1, 2, 3] rfl)
        · refine lv_aload_n hx hb dX3_isDouble_19 rfl (lv_at hl 2 rfl) ?_
          refine va_get (D := D) (ci := 3) (v := .ref (ad 3)) (C := RX3) (T := TX3) (N := 13) hx hb hts uin_X3_isDouble_X3 hown hG.1 hP 0 rfl rfl 2 (by decide) (hts (.fieldLink RX3 16 "TableSpliceModel" "name" "[I") (List.mem_of_getElem? (i := 1) rfl)) (fun _ h9 => h9) rfl dX3_isDouble_20 ?_
          refine lv_bipush (v := 24) hx hb dX3_isDouble_23 (by decide) ?_
          refine lv_iload_n hx hb dX3_isDouble_25 rfl (lv_at hl 0 rfl) ?_
          refine lv_iadd hx hb dX3_isDouble_26 ?_
          refine va_iald hx hb hG.1 hP 3 0 rfl rfl (vi_add (k := 32) (vp_in_nI (n := 24) (N := 25) (by decide) (by decide)) (vp_in_nI (n := ia) (N := 8) (by omega) (by omega)) (by decide) (by decide)) dX3_isDouble_27 ?_
          refine lv_aload_n hx hb dX3_isDouble_28 rfl (lv_at hl 2 rfl) ?_
          refine va_get (D := D) (ci := 3) (v := .ref (ad 3)) (C := RX3) (T := TX3) (N := 13) hx hb hts uin_X3_isDouble_X3 hown hG.1 hP 0 rfl rfl 2 (by decide) (hts (.fieldLink RX3 16 "TableSpliceModel" "name" "[I") (List.mem_of_getElem? (i := 1) rfl)) (fun _ h9 => h9) rfl dX3_isDouble_29 ?_
          refine lv_bipush (v := 24) hx hb dX3_isDouble_32 (by decide) ?_
          refine lv_iload_n hx hb dX3_isDouble_34 rfl (lv_at hl 3 rfl) ?_
          refine lv_iadd hx hb dX3_isDouble_35 ?_
          refine va_iald hx hb hG.1 hP 3 0 rfl rfl (vi_add (k := 32) (vp_in_nI (n := 24) (N := 25) (by decide) (by decide)) (vp_in_nI (n := q1) (N := 8) (by omega) (by omega)) (by decide) (by decide)) dX3_isDouble_36 ?_
          refine lv_icmp_ne (tgt := 44) hx hb dX3_isDouble_37 (by decide) (fun c_37 => ?_) (fun c_37 => ?_)
          · refine lv_iconst (v := 0) hx hb dX3_isDouble_44 (by decide) ?_
            refine lv_ior hx hb dX3_isDouble_45 ?_
            refine lv_istore_n (lv' := [(2, .int (va_2 ||| 0)), (3, .int (nI ia)), (0, .ref (ad 0)), (1, .int (nI q1))]) hx hb dX3_isDouble_46 rfl hl (by decide) rfl (fun ls hl => ?_)
            refine lv_iinc (v := nI (ia + 1)) (lv' := [(3, .int (nI (ia + 1))), (2, .int (va_2 ||| 0)), (0, .ref (ad 0)), (1, .int (nI q1))]) hx hb dX3_isDouble_47 hl (k := 1) rfl (nI_1 _) (by decide) rfl (fun ls hl => ?_)
            refine lv_goto (tgt := 4) hx hb dX3_isDouble_50 (by decide) ?_
            exact ih_a (ia + 1) (by omega) (va_2 ||| 0) (it_s hs_a (by show f_X3_isDouble_sa mc mn q1 ia va_2 = _; rw [f_X3_isDouble_sa, if_neg c_16, if_neg c_37])) (by first | exact bz_or hb_a b01_0 | exact bz_or hb_a b01_1) _ _ hP hS ls (lv_sub hl [0, 1, 2, 3] rfl)
          · refine lv_iconst (v := 1) hx hb dX3_isDouble_40 (by decide) ?_
            refine lv_goto (tgt := 45) hx hb dX3_isDouble_41 (by decide) ?_
            refine lv_ior hx hb dX3_isDouble_45 ?_
            refine lv_istore_n (lv' := [(2, .int (va_2 ||| 1)), (3, .int (nI ia)), (0, .ref (ad 0)), (1, .int (nI q1))]) hx hb dX3_isDouble_46 rfl hl (by decide) rfl (fun ls hl => ?_)
            refine lv_iinc (v := nI (ia + 1)) (lv' := [(3, .int (nI (ia + 1))), (2, .int (va_2 ||| 1)), (0, .ref (ad 0)), (1, .int (nI q1))]) hx hb dX3_isDouble_47 hl (k := 1) rfl (nI_1 _) (by decide) rfl (fun ls hl => ?_)
            refine lv_goto (tgt := 4) hx hb dX3_isDouble_50 (by decide) ?_
            exact ih_a (ia + 1) (by omega) (va_2 ||| 1) (it_s hs_a (by show f_X3_isDouble_sa mc mn q1 ia va_2 = _; rw [f_X3_isDouble_sa, if_neg c_16, if_pos c_37])) (by first | exact bz_or hb_a b01_0 | exact bz_or hb_a b01_1) _ _ hP hS ls (lv_sub hl [0, 1, 2, 3] rfl)
  exact lp_a q1 0 (by omega) 0 rfl b01_0 _ _ hP hS ls (lv_sub hl [0, 1, 2, 3] rfl)
def f_X3_isLost (mw : Nat → Int32) (me : Nat → Int32) (mr : Nat → Int32) (p1 : Int32) (p2 : Int32) : Int32 := if (mr (p2).toNatClampNeg) = 0 then 0 else (if (f_X3_at me 3 p1 p2) = (-1) then 0 else (if (f_X3_isIn (f_X3_at me 3 p1 p2) 0 23) = 0 then 1 else (if (f_X3_hasRow mw 3 (f_X3_at me 3 p1 p2)) = 0 then 1 else 0)))
theorem uin_X3_isLost_X3 : ∀ w ∈ wsX30, w ∈ wsX3_isLost := fun _ h => List.mem_cons_of_mem _ (List.mem_append_right _ h)
set_option maxHeartbeats 4000000 in
set_option maxRecDepth 100000 in
theorem k_X3_isLost (l : Launch) (D : va_G) (cyI cyZ : ClassId) (ad : Nat → Nat) (mc : Nat → Int32) (mw : Nat → Int32) (mn : Nat → Int32) (me : Nat → Int32) (mu : Nat → Int32) (mr : Nat → Int32) (mz : Kr) (mf : Int32) (mt : Int32) (p1 : Int32) (p2 : Int32) (hi1 : vp_in p1 24) (hi2 : vp_in p2 8) : Met l yX3_isLost wsX3_isLost ({ frames := 1, cells := 0, slots := 0, locals := 23 } : Room) (pcP D cyI cyZ [.ref (ad 0), .int p1, .int p2] (wN cyI cyZ ad mc mw mn me mu mr mz mf mt)) (qI (f_X3_isLost mw me mr p1 p2)) 0 0 nA := by
  refine Met.ofW (cc := cX3_isLost) (maxL := 4) (ret := (some .boolean)) (by decide) rfl ?_
  intro p e s m args below meth c s₁ B hml hv
  obtain ⟨rfl, hP, hG⟩ := hv
  have hx := B.exec
  have hb := B.bytes
  have hr := B.returns
  have hts := atoms_spec (ws := wsX3_isLost) B.pre
  have hown : s.vm.findClass RX3 = some m.cls := findClass_of_methodNamed B.named
  have hlocks := B.notSynchronized
  have hS : va_S nA s.heap s.heap [] := va_S.rf
  have hl := lv_entry ([.ref (ad 0), .int p1, .int p2]) (n := 4) (Nat.le_of_ble_eq_true rfl)
  rw [lg_entry_eq]
  generalize (lg_sl ([.ref (ad 0), .int p1, .int p2]) ++ List.replicate (4 - (lg_sl ([.ref (ad 0), .int p1, .int p2])).length) Slot.unset).toArray = ls at hl ⊢
  have hl : lv_has ls 4 [(0, .ref (ad 0)), (1, .int p1), (2, .int p2)] := hl
  have hP : va_P D vwCl (wN cyI cyZ ad mc mw mn me mu mr mz mf mt) s.heap := hP
  refine lv_aload_n hx hb dX3_isLost_0 rfl (lv_at hl 0 rfl) ?_
  refine lv_iconst (v := 3) hx hb dX3_isLost_1 (by decide) ?_
  refine lv_iload_n hx hb dX3_isLost_2 rfl (lv_at hl 1 rfl) ?_
  refine lv_iload_n hx hb dX3_isLost_3 rfl (lv_at hl 2 rfl) ?_
  refine pr_i (va_runV (As := [.int 3, .int p1, .int p2]) (rest := []) ⟨hx, hb, hml, hown, hts⟩ (k_X3_at l D cyI cyZ ad mc mw mn me mu mr mz mf mt 3 p1 p2 (vp_in_nI (n := 3) (N := 4) (by decide) (by decide)) hi1 hi2) (cwV 3 hts gX3_isLost_X3_at rfl rfl rfl (by decide +kernel) ⟨Nat.le_of_ble_eq_true rfl, Nat.le_of_ble_eq_true rfl⟩) (prV hG hP (ci := 3) rfl rfl rfl) rfl rfl hl.1 rfl (lv_room (Nat.le_of_ble_eq_true rfl)) dX3_isLost_4 ⟨Nat.zero_le _, Nat.zero_le _⟩) hS hP (fun H locs hP hS => ?_)
  refine lv_istore_n (lv' := [(3, .int (f_X3_at me 3 p1 p2)), (0, .ref (ad 0)), (1, .int p1), (2, .int p2)]) hx hb dX3_isLost_7 rfl hl (by decide) rfl (fun ls hl => ?_)
  refine lv_aload_n hx hb dX3_isLost_8 rfl (lv_at hl 1 rfl) ?_
  refine va_get (D := D) (ci := 3) (v := .ref (ad 6)) (C := RX3) (T := TX3) (N := 13) hx hb hts uin_X3_isLost_X3 hown hG.1 hP 0 rfl rfl 5 (by decide) (hts (.fieldLink RX3 25 "TableSpliceModel" "reference" "[Z") (List.mem_of_getElem? (i := 1) rfl)) (fun _ h9 => h9) rfl dX3_isLost_9 ?_
  refine lv_iload_n hx hb dX3_isLost_12 rfl (lv_at hl 3 rfl) ?_
  refine va_zald hx hb hG.1 hP 6 1 rfl rfl hi2 dX3_isLost_13 ?_
  refine lv_if_eq (tgt := 45) hx hb dX3_isLost_14 (by decide) (fun c_14 => ?_) (fun c_14 => ?_)
  · refine lv_iconst (v := 0) hx hb dX3_isLost_45 (by decide) ?_
    have ef : f_X3_isLost mw me mr p1 p2 = 0 := by rw [f_X3_isLost, if_pos c_14]
    exact W.zret (v := 0) (ty := .boolean) hx hb hr rfl (fun t ht hW => ⟨⟨0, (), rfl, ef.symm, trivial⟩, hS.F ht⟩) hS.2.2 dX3_isLost_46
  · refine lv_iload_n hx hb dX3_isLost_17 rfl (lv_at hl 0 rfl) ?_
    refine lv_iconst (v := (-1)) hx hb dX3_isLost_18 (by decide) ?_
    refine lv_icmp_eq (tgt := 45) hx hb dX3_isLost_19 (by decide) (fun c_19 => ?_) (fun c_19 => ?_)
    · refine lv_iconst (v := 0) hx hb dX3_isLost_45 (by decide) ?_
      have ef : f_X3_isLost mw me mr p1 p2 = 0 := by rw [f_X3_isLost, if_neg c_14, if_pos c_19]
      exact W.zret (v := 0) (ty := .boolean) hx hb hr rfl (fun t ht hW => ⟨⟨0, (), rfl, ef.symm, trivial⟩, hS.F ht⟩) hS.2.2 dX3_isLost_46
    · refine lv_iload_n hx hb dX3_isLost_22 rfl (lv_at hl 0 rfl) ?_
      refine lv_iconst (v := 0) hx hb dX3_isLost_23 (by decide) ?_
      refine lv_bipush (v := 23) hx hb dX3_isLost_24 (by decide) ?_
      refine pr_i (va_runS (As := [.int (f_X3_at me 3 p1 p2), .int 0, .int 23]) (rest := []) ⟨hx, hb, hml, hown, hts⟩ (k_X3_isIn l D cyI cyZ (f_X3_at me 3 p1 p2) 0 23) (va_cwS 3 hts gX3_isLost_X3_isIn rfl rfl rfl (by decide +kernel) ⟨Nat.le_of_ble_eq_true rfl, Nat.le_of_ble_eq_true rfl⟩) (prS hG (hP.sub (ws' := []) [] rfl)) rfl rfl hl.1 rfl (lv_room (Nat.le_of_ble_eq_true rfl)) dX3_isLost_26 ⟨Nat.zero_le _, Nat.zero_le _⟩) hS hP (fun H locs hP hS => ?_)
      refine lv_if_eq (tgt := 41) hx hb dX3_isLost_29 (by decide) (fun c_29 => ?_) (fun c_29 => ?_)
      · refine lv_iconst (v := 1) hx hb dX3_isLost_41 (by decide) ?_
        refine lv_goto (tgt := 46) hx hb dX3_isLost_42 (by decide) ?_
        have ef : f_X3_isLost mw me mr p1 p2 = 1 := by rw [f_X3_isLost, if_neg c_14, if_neg c_19, if_pos c_29]
        exact W.zret (v := 1) (ty := .boolean) hx hb hr rfl (fun t ht hW => ⟨⟨1, (), rfl, ef.symm, trivial⟩, hS.F ht⟩) hS.2.2 dX3_isLost_46
      · refine lv_aload_n hx hb dX3_isLost_32 rfl (lv_at hl 1 rfl) ?_
        refine lv_iconst (v := 3) hx hb dX3_isLost_33 (by decide) ?_
        refine lv_iload_n hx hb dX3_isLost_34 rfl (lv_at hl 0 rfl) ?_
        refine pr_i (va_runV (As := [.int 3, .int (f_X3_at me 3 p1 p2)]) (rest := []) ⟨hx, hb, hml, hown, hts⟩ (k_X3_hasRow l D cyI cyZ ad mc mw mn me mu mr mz mf mt 3 (f_X3_at me 3 p1 p2) (vp_in_nI (n := 3) (N := 4) (by decide) (by decide))) (cwV 2 hts gX3_isLost_X3_hasRow rfl rfl rfl (by decide +kernel) ⟨Nat.le_of_ble_eq_true rfl, Nat.le_of_ble_eq_true rfl⟩) (prV hG hP (ci := 3) rfl rfl rfl) rfl rfl hl.1 rfl (lv_room (Nat.le_of_ble_eq_true rfl)) dX3_isLost_35 ⟨Nat.zero_le _, Nat.zero_le _⟩) hS hP (fun H locs hP hS => ?_)
        refine lv_if_ne (tgt := 45) hx hb dX3_isLost_38 (by decide) (fun c_38 => ?_) (fun c_38 => ?_)
        · refine lv_iconst (v := 0) hx hb dX3_isLost_45 (by decide) ?_
          have ef : f_X3_isLost mw me mr p1 p2 = 0 := by rw [f_X3_isLost, if_neg c_14, if_neg c_19, if_neg c_29, if_neg c_38]
          exact W.zret (v := 0) (ty := .boolean) hx hb hr rfl (fun t ht hW => ⟨⟨0, (), rfl, ef.symm, trivial⟩, hS.F ht⟩) hS.2.2 dX3_isLost_46
        · refine lv_iconst (v := 1) hx hb dX3_isLost_41 (by decide) ?_
          refine lv_goto (tgt := 46) hx hb dX3_isLost_42 (by decide) ?_
          have ef : f_X3_isLost mw me mr p1 p2 = 1 := by rw [f_X3_isLost, if_neg c_14, if_neg c_19, if_neg c_29, if_pos c_38]
          exact W.zret (v := 1) (ty := .boolean) hx hb hr rfl (fun t ht hW => ⟨⟨1, (), rfl, ef.symm, trivial⟩, hS.F ht⟩) hS.2.2 dX3_isLost_46
