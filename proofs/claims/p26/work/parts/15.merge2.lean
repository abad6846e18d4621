theorem p_ite {α : Type} {P : α → Prop} {c : Prop} {_ : Decidable c} {a b : α} (ha : P a) (hb : P b) : P (if c then a else b) := by
  by_cases h : c
  · rw [if_pos h]; exact ha
  · rw [if_neg h]; exact hb
theorem it_P {σ : Type} {P : σ → Prop} {f : Nat → σ → σ} {s : σ} (h0 : P s) (hs : ∀ (i : Nat) (x : σ), P x → P (f i x)) : ∀ n : Nat, P (it f s n)
  | 0 => h0
  | n + 1 => hs n _ (it_P h0 hs n)
theorem n_append {z0 : Lr} {a b c : Int32} (h : ¬ z0.1 < 0) : ¬ (f_X0_append z0 a b c).1 < 0 := by
  rw [f_X0_append]
  by_cases h1 : z0.1 < 424
  · rw [if_pos h1]
    obtain ⟨j, hj, e⟩ := vp_in_of (n := 424) (vi_of (N := 424) (by decide) h (Int32.not_le.mpr h1)) (by decide)
    show ¬ z0.1 + 1 < 0
    rw [e, nI_1]
    exact nI_pos (by omega)
  · rw [if_neg h1]; exact h
theorem n_empty {z0 : Lr} : ¬ (f_X0_becomeEmpty z0).1 < 0 := by
  rw [f_X0_becomeEmpty]; show ¬ (0 : Int32) < 0; decide
def f_X2_mergeColumn (zb : Tr) (zo : Tr) (zt : Tr) (zm : Tr) (zl : Lr) (p1 : Int32) : Tr × Lr := if (f_X2_columnStays zb zo zt p1) = 0 then ((zm, zl)) else (if (f_X1_hasColumn zo p1) = 0 then (if (f_X1_hasColumn zb p1) = 0 then ((f_X1_putColumn zm p1 (f_X2_mergedName zb zo zt p1)), zl) else ((f_X1_putColumn zm p1 (f_X2_mergedName zb zo zt p1)), (f_X0_append zl 3 (-1) p1))) else (if (f_X1_hasColumn zt p1) = 0 then (if (f_X1_hasColumn zb p1) = 0 then ((f_X1_putColumn zm p1 (f_X2_mergedName zb zo zt p1)), zl) else ((f_X1_putColumn zm p1 (f_X2_mergedName zb zo zt p1)), (f_X0_append zl 3 (-1) p1))) else (if (f_X2_namesAreAtOdds zb zo zt p1) = 0 then ((f_X1_putColumn zm p1 (f_X2_mergedName zb zo zt p1)), zl) else ((f_X1_putColumn zm p1 (f_X2_mergedName zb zo zt p1)), (f_X0_append zl 4 (-1) p1)))))
theorem uin_X2_mergeColumn_X2 : ∀ w ∈ wsX20, w ∈ wsX2_mergeColumn := fun _ h => List.mem_cons_of_mem _ (List.mem_append_left _ (List.mem_append_left _ (List.mem_append_right _ h)))
theorem uin_X2_mergeColumn_X1 : ∀ w ∈ wsX10, w ∈ wsX2_mergeColumn := fun _ h => List.mem_cons_of_mem _ (List.mem_append_left _ (List.mem_append_right _ h))
theorem uin_X2_mergeColumn_X0 : ∀ w ∈ wsX00, w ∈ wsX2_mergeColumn := fun _ h => List.mem_cons_of_mem _ (List.mem_append_right _ h)
set_option maxHeartbeats 4000000 in
set_option maxRecDepth 100000 in
theorem k_X2_mergeColumn (l : Launch) (D : va_G) (cyI cyZ : ClassId) (ad : Nat → Nat) (zb : Tr) (zo : Tr) (zt : Tr) (zm : Tr) (zu : Nat → Int32) (zr : Nat → Int32) (zl : Lr) (zf : Int32) (p1 : Int32) (A : Nat → Prop) (sz : Nat) (hAe : A = va_A (wZ cyI cyZ ad zb zo zt zm zu zr zl zf) sz) (hn : ¬ zl.1 < 0) : Met l yX2_mergeColumn wsX2_mergeColumn ({ frames := 5, cells := 0, slots := 0, locals := 113 } : Room) (pcM D cyI cyZ sz [.ref (ad 0), .int p1] (wZ cyI cyZ ad zb zo zt zm zu zr zl zf)) (mV D A (wZ cyI cyZ ad zb zo zt (f_X2_mergeColumn zb zo zt zm zl p1).1 zu zr (f_X2_mergeColumn zb zo zt zm zl p1).2 zf)) 0 0 A := by
  refine Met.ofW (cc := cX2_mergeColumn) (maxL := 3) (ret := none) (by decide) rfl ?_
  intro p e s m args below meth c s₁ B hml hv
  obtain ⟨rfl, hsz, hP, hG, hD0⟩ := hv
  have hx := B.exec
  have hb := B.bytes
  have hr := B.returns
  have hts := atoms_spec (ws := wsX2_mergeColumn) B.pre
  have hown : s.vm.findClass RX2 = some m.cls := findClass_of_methodNamed B.named
  have hlocks := B.notSynchronized
  subst hsz
  have hD : va_D A (wZ cyI cyZ ad zb zo zt zm zu zr zl zf) := by rw [hAe]; exact hD0.self
  have hA : ∀ q : Nat, s.heap.size ≤ q → A q := fun q h => by rw [hAe]; exact Or.inr h
  clear hAe hD0
  have hS : va_S nA s.heap s.heap [] := va_S.rf
  have hl := lv_entry ([.ref (ad 0), .int p1]) (n := 3) (Nat.le_of_ble_eq_true rfl)
  rw [lg_entry_eq]
  generalize (lg_sl ([.ref (ad 0), .int p1]) ++ List.replicate (3 - (lg_sl ([.ref (ad 0), .int p1])).length) Slot.unset).toArray = ls at hl ⊢
  have hl : lv_has ls 3 [(0, .ref (ad 0)), (1, .int p1)] := hl
  have hP : va_P D vwCl (wZ cyI cyZ ad zb zo zt zm zu zr zl zf) s.heap := hP
  refine lv_aload_n hx hb dX2_mergeColumn_0 rfl (lv_at hl 0 rfl) ?_
  refine lv_iload_n hx hb dX2_mergeColumn_1 rfl (lv_at hl 1 rfl) ?_
  refine pr_i (va_runV (As := [.int p1]) (rest := []) ⟨hx, hb, hml, hown, hts⟩ (k_X2_columnStays l D cyI cyZ ad zb zo zt zm zu zr zl zf p1) (cwV 1 hts gX2_mergeColumn_X2_columnStays rfl rfl rfl (by decide +kernel) ⟨Nat.le_of_ble_eq_true rfl, Nat.le_of_ble_eq_true rfl⟩) (prV hG hP (ci := 2) rfl rfl rfl) rfl rfl hl.1 rfl (lv_room (Nat.le_of_ble_eq_true rfl)) dX2_mergeColumn_2 ⟨Nat.zero_le _, Nat.zero_le _⟩) hS hP (fun H locs hP hS => ?_)
  refine lv_if_ne (tgt := 9) hx hb dX2_mergeColumn_5 (by decide) (fun c_5 => ?_) (fun c_5 => ?_)
  · refine lv_aload_n hx hb dX2_mergeColumn_9 rfl (lv_at hl 0 rfl) ?_
    refine va_get (D := D) (ci := 2) (v := .ref (ad 10)) (C := RX2) (T := TX2) (N := 8) hx hb hts uin_X2_mergeColumn_X2 hown hG.1 hP 0 rfl rfl 3 (by decide) (hts (.fieldLink RX2 22 "TableSplice" "merged" "LTableSplice$Table;") (List.mem_of_getElem? (i := 1) rfl)) (fun _ h9 => h9) rfl dX2_mergeColumn_10 ?_
    refine lv_iload_n hx hb dX2_mergeColumn_13 rfl (lv_at hl 1 rfl) ?_
    refine lv_aload_n hx hb dX2_mergeColumn_14 rfl (lv_at hl 0 rfl) ?_
    refine lv_iload_n hx hb dX2_mergeColumn_15 rfl (lv_at hl 1 rfl) ?_
    refine pr_i (va_runV (As := [.int p1]) (rest := [.int p1, .ref (ad 10)]) ⟨hx, hb, hml, hown, hts⟩ (k_X2_mergedName l D cyI cyZ ad zb zo zt zm zu zr zl zf p1) (cwV 1 hts gX2_mergeColumn_X2_mergedName rfl rfl rfl (by decide +kernel) ⟨Nat.le_of_ble_eq_true rfl, Nat.le_of_ble_eq_true rfl⟩) (prV hG hP (ci := 2) rfl rfl rfl) rfl rfl hl.1 rfl (lv_room (Nat.le_of_ble_eq_true rfl)) dX2_mergeColumn_16 ⟨Nat.zero_le _, Nat.zero_le _⟩) hS hP (fun H locs hP hS => ?_)
    have hS := sw_n (B := A) hS
    refine mr_v (va_runVN (As := [.int p1, .int (f_X2_mergedName zb zo zt p1)]) (rest := []) ⟨hx, hb, hml, hown, hts⟩ (k_X1_putColumn l D cyI cyZ (ad 10) (ad 11) (ad 12) zm p1 (f_X2_mergedName zb zo zt p1) _ _ rfl) ⟨va_cnB 2 hts gX2_mergeColumn_X1_putColumn_n66 rfl rfl rfl (hG.2.1 (RX2, 66, yX1_putColumn, "TableSplice") (List.mem_of_getElem? (i := 10) rfl)) (hts (.initialized RX1) (List.mem_of_getElem? (i := 12) rfl)) (by decide +kernel) ⟨Nat.le_of_ble_eq_true rfl, Nat.le_of_ble_eq_true rfl⟩, hts (.instanceMethod yX1_putColumn) (List.mem_of_getElem? (i := 47) rfl), hts (.selects RX1 yX1_putColumn yX1_putColumn) (List.mem_of_getElem? (i := 48) rfl)⟩ (pmV hG (hP.sub (ws' := wT cyI (ad 10) (ad 11) (ad 12) zm) [10, 11, 12] rfl) (hD.sub (ws' := wT cyI (ad 10) (ad 11) (ad 12) zm) [10, 11, 12] (by decide) rfl) (ci := 1) rfl rfl rfl) rfl rfl hl.1 rfl (lv_room (Nat.le_of_ble_eq_true rfl)) dX2_mergeColumn_19 ⟨Nat.zero_le _, Nat.zero_le _⟩) hP hD hS hA [10, 11, 12] [0, 1, 2, 3, 4, 5, 6, 7, 8, 9, 13, 14, 15, 16, 17, 18, 19] [0, 1, 2, 3, 4, 5, 6, 7, 8, 9, 17, 18, 19, 10, 11, 12, 13, 14, 15, 16] rfl rfl (by decide) (by decide) (by decide) (w2 := wZ cyI cyZ ad zb zo zt (f_X1_putColumn zm p1 (f_X2_mergedName zb zo zt p1)) zu zr zl zf) rfl (fun H locs hP hD hS => ?_)
    have hP : va_P D vwCl (wZ cyI cyZ ad zb zo zt (f_X1_putColumn zm p1 (f_X2_mergedName zb zo zt p1)) zu zr zl zf) H := hP
    have hD : va_D A (wZ cyI cyZ ad zb zo zt (f_X1_putColumn zm p1 (f_X2_mergedName zb zo zt p1)) zu zr zl zf) := hD
    refine lv_aload_n hx hb dX2_mergeColumn_22 rfl (lv_at hl 0 rfl) ?_
    refine va_get (D := D) (ci := 2) (v := .ref (ad 4)) (C := RX2) (T := TX2) (N := 8) hx hb hts uin_X2_mergeColumn_X2 hown hG.1 hP 0 rfl rfl 1 (by decide) (hts (.fieldLink RX2 16 "TableSplice" "ours" "LTableSplice$Table;") (List.mem_of_getElem? (i := 2) rfl)) (fun _ h9 => h9) rfl dX2_mergeColumn_23 ?_
    refine lv_iload_n hx hb dX2_mergeColumn_26 rfl (lv_at hl 1 rfl) ?_
    refine pr_i (va_runVN (As := [.int p1]) (rest := []) ⟨hx, hb, hml, hown, hts⟩ (k_X1_hasColumn l D cyI cyZ (ad 4) (ad 5) (ad 6) zo p1) ⟨va_cnB 1 hts gX2_mergeColumn_X1_hasColumn_n55 rfl rfl rfl (hG.2.1 (RX2, 55, yX1_hasColumn, "TableSplice") (List.mem_of_getElem? (i := 6) rfl)) (hts (.initialized RX1) (List.mem_of_getElem? (i := 12) rfl)) (by decide +kernel) ⟨Nat.le_of_ble_eq_true rfl, Nat.le_of_ble_eq_true rfl⟩, hts (.instanceMethod yX1_hasColumn) (List.mem_of_getElem? (i := 11) rfl), hts (.selects RX1 yX1_hasColumn yX1_hasColumn) (List.mem_of_getElem? (i := 13) rfl)⟩ (prV hG (hP.sub (ws' := wT cyI (ad 4) (ad 5) (ad 6) zo) [4, 5, 6] rfl) (ci := 1) rfl rfl rfl) rfl rfl hl.1 rfl (lv_room (Nat.le_of_ble_eq_true rfl)) dX2_mergeColumn_27 ⟨Nat.zero_le _, Nat.zero_le _⟩) hS hP (fun H locs hP hS => ?_)
    refine lv_if_eq (tgt := 48) hx hb dX2_mergeColumn_30 (by decide) (fun c_30 => ?_) (fun c_30 => ?_)
    · refine lv_iconst (v := 0) hx hb dX2_mergeColumn_48 (by decide) ?_
      refine lv_istore_n (lv' := [(2, .int 0), (0, .ref (ad 0)), (1, .int p1)]) hx hb dX2_mergeColumn_49 rfl hl (by decide) rfl (fun ls hl => ?_)
      refine lv_iload_n hx hb dX2_mergeColumn_50 rfl (lv_at hl 0 rfl) ?_
      refine lv_if_ne (tgt := 75) hx hb dX2_mergeColumn_51 (by decide) (fun c_51 => ?_) (fun c_51 => ?_)
      · exact absurd (by decide) c_51
      · refine lv_aload_n hx hb dX2_mergeColumn_54 rfl (lv_at hl 1 rfl) ?_
        refine va_get (D := D) (ci := 2) (v := .ref (ad 1)) (C := RX2) (T := TX2) (N := 8) hx hb hts uin_X2_mergeColumn_X2 hown hG.1 hP 0 rfl rfl 0 (by decide) (hts (.fieldLink RX2 10 "TableSplice" "base" "LTableSplice$Table;") (List.mem_of_getElem? (i := 4) rfl)) (fun _ h9 => h9) rfl dX2_mergeColumn_55 ?_
        refine lv_iload_n hx hb dX2_mergeColumn_58 rfl (lv_at hl 2 rfl) ?_
        refine pr_i (va_runVN (As := [.int p1]) (rest := []) ⟨hx, hb, hml, hown, hts⟩ (k_X1_hasColumn l D cyI cyZ (ad 1) (ad 2) (ad 3) zb p1) ⟨va_cnB 1 hts gX2_mergeColumn_X1_hasColumn_n55 rfl rfl rfl (hG.2.1 (RX2, 55, yX1_hasColumn, "TableSplice") (List.mem_of_getElem? (i := 6) rfl)) (hts (.initialized RX1) (List.mem_of_getElem? (i := 12) rfl)) (by decide +kernel) ⟨Nat.le_of_ble_eq_true rfl, Nat.le_of_ble_eq_true rfl⟩, hts (.instanceMethod yX1_hasColumn) (List.mem_of_getElem? (i := 11) rfl), hts (.selects RX1 yX1_hasColumn yX1_hasColumn) (List.mem_of_getElem? (i := 13) rfl)⟩ (prV hG (hP.sub (ws' := wT cyI (ad 1) (ad 2) (ad 3) zb) [1, 2, 3] rfl) (ci := 1) rfl rfl rfl) rfl rfl hl.1 rfl (lv_room (Nat.le_of_ble_eq_true rfl)) dX2_mergeColumn_59 ⟨Nat.zero_le _, Nat.zero_le _⟩) hS hP (fun H locs hP hS => ?_)
        refine lv_if_eq (tgt := 75) hx hb dX2_mergeColumn_62 (by decide) (fun c_62 => ?_) (fun c_62 => ?_)
        · refine lv_iload_n hx hb dX2_mergeColumn_75 rfl (lv_at hl 0 rfl) ?_
          refine lv_if_eq (tgt := 97) hx hb dX2_mergeColumn_76 (by decide) (fun c_76 => ?_) (fun c_76 => ?_)
          · have ef : f_X2_mergeColumn zb zo zt zm zl p1 = ((f_X1_putColumn zm p1 (f_X2_mergedName zb zo zt p1)), zl) := by rw [f_X2_mergeColumn, if_neg c_5, if_pos c_30, if_pos c_62]
            exact W.vret hx hb hr (fun t ht hW => ⟨⟨(), rfl, trivial, by rw [ht, ef]; exact hP, by rw [ef]; exact hD⟩, hS.F ht⟩) hS.2.2 dX2_mergeColumn_97
          · exact absurd (by decide) c_76
        · refine lv_aload_n hx hb dX2_mergeColumn_65 rfl (lv_at hl 1 rfl) ?_
          refine va_get (D := D) (ci := 2) (v := .ref (ad 15)) (C := RX2) (T := TX2) (N := 8) hx hb hts uin_X2_mergeColumn_X2 hown hG.1 hP 0 rfl rfl 6 (by decide) (hts (.fieldLink RX2 36 "TableSplice" "list" "LTableSplice$ConflictList;") (List.mem_of_getElem? (i := 5) rfl)) (fun _ h9 => h9) rfl dX2_mergeColumn_66 ?_
          refine lv_iconst (v := 3) hx hb dX2_mergeColumn_69 (by decide) ?_
          refine lv_iconst (v := (-1)) hx hb dX2_mergeColumn_70 (by decide) ?_
          refine lv_iload_n hx hb dX2_mergeColumn_71 rfl (lv_at hl 2 rfl) ?_
          refine mr_v (va_runVN (As := [.int 3, .int (-1), .int p1]) (rest := []) ⟨hx, hb, hml, hown, hts⟩ (k_X0_append l D cyI cyZ (ad 15) (ad 16) (ad 17) (ad 18) (ad 19) zl 3 (-1) p1 _ _ rfl hn) ⟨va_cnB 3 hts gX2_mergeColumn_X0_append_n256 rfl rfl rfl (hG.2.1 (RX2, 256, yX0_append, "TableSplice") (List.mem_of_getElem? (i := 12) rfl)) (hts (.initialized RX0) (List.mem_of_getElem? (i := 53) rfl)) (by decide +kernel) ⟨Nat.le_of_ble_eq_true rfl, Nat.le_of_ble_eq_true rfl⟩, hts (.instanceMethod yX0_append) (List.mem_of_getElem? (i := 52) rfl), hts (.selects RX0 yX0_append yX0_append) (List.mem_of_getElem? (i := 54) rfl)⟩ (pmV hG (hP.sub (ws' := wL cyI cyZ (ad 15) (ad 16) (ad 17) (ad 18) (ad 19) zl) [15, 16, 17, 18, 19] rfl) (hD.sub (ws' := wL cyI cyZ (ad 15) (ad 16) (ad 17) (ad 18) (ad 19) zl) [15, 16, 17, 18, 19] (by decide) rfl) (ci := 0) rfl rfl rfl) rfl rfl hl.1 rfl (lv_room (Nat.le_of_ble_eq_true rfl)) dX2_mergeColumn_72 ⟨Nat.zero_le _, Nat.zero_le _⟩) hP hD hS hA [15, 16, 17, 18, 19] [0, 1, 2, 3, 4, 5, 6, 7, 8, 9, 10, 11, 12, 13, 14] [0, 1, 2, 3, 4, 5, 6, 7, 8, 9, 10, 11, 12, 13, 14, 15, 16, 17, 18, 19] rfl rfl (by decide) (by decide) (by decide) (w2 := wZ cyI cyZ ad zb zo zt (f_X1_putColumn zm p1 (f_X2_mergedName zb zo zt p1)) zu zr (f_X0_append zl 3 (-1) p1) zf) rfl (fun H locs hP hD hS => ?_)
          have hP : va_P D vwCl (wZ cyI cyZ ad zb zo zt (f_X1_putColumn zm p1 (f_X2_mergedName zb zo zt p1)) zu zr (f_X0_append zl 3 (-1) p1) zf) H := hP
          have hD : va_D A (wZ cyI cyZ ad zb zo zt (f_X1_putColumn zm p1 (f_X2_mergedName zb zo zt p1)) zu zr (f_X0_append zl 3 (-1) p1) zf) := hD
          refine lv_iload_n hx hb dX2_mergeColumn_75 rfl (lv_at hl 0 rfl) ?_
          refine lv_if_eq (tgt := 97) hx hb dX2_mergeColumn_76 (by decide) (fun c_76 => ?_) (fun c_76 => ?_)
          · have ef : f_X2_mergeColumn zb zo zt zm zl p1 = ((f_X1_putColumn zm p1 (f_X2_mergedName zb zo zt p1)), (f_X0_append zl 3 (-1) p1)) := by rw [f_X2_mergeColumn, if_neg c_5, if_pos c_30, if_neg c_62]
            exact W.vret hx hb hr (fun t ht hW => ⟨⟨(), rfl, trivial, by rw [ht, ef]; exact hP, by rw [ef]; exact hD⟩, hS.F ht⟩) hS.2.2 dX2_mergeColumn_97
          · exact absurd (by decide) c_76
    · refine lv_aload_n hx hb dX2_mergeColumn_33 rfl (lv_at hl 0 rfl) ?_
      refine va_get (D := D) (ci := 2) (v := .ref (ad 7)) (C := RX2) (T := TX2) (N := 8) hx hb hts uin_X2_mergeColumn_X2 hown hG.1 hP 0 rfl rfl 2 (by decide) (hts (.fieldLink RX2 19 "TableSplice" "theirs" "LTableSplice$Table;") (List.mem_of_getElem? (i := 3) rfl)) (fun _ h9 => h9) rfl dX2_mergeColumn_34 ?_
      refine lv_iload_n hx hb dX2_mergeColumn_37 rfl (lv_at hl 1 rfl) ?_
      refine pr_i (va_runVN (As := [.int p1]) (rest := []) ⟨hx, hb, hml, hown, hts⟩ (k_X1_hasColumn l D cyI cyZ (ad 7) (ad 8) (ad 9) zt p1) ⟨va_cnB 1 hts gX2_mergeColumn_X1_hasColumn_n55 rfl rfl rfl (hG.2.1 (RX2, 55, yX1_hasColumn, "TableSplice") (List.mem_of_getElem? (i := 6) rfl)) (hts (.initialized RX1) (List.mem_of_getElem? (i := 12) rfl)) (by decide +kernel) ⟨Nat.le_of_ble_eq_true rfl, Nat.le_of_ble_eq_true rfl⟩, hts (.instanceMethod yX1_hasColumn) (List.mem_of_getElem? (i := 11) rfl), hts (.selects RX1 yX1_hasColumn yX1_hasColumn) (List.mem_of_getElem? (i := 13) rfl)⟩ (prV hG (hP.sub (ws' := wT cyI (ad 7) (ad 8) (ad 9) zt) [7, 8, 9] rfl) (ci := 1) rfl rfl rfl) rfl rfl hl.1 rfl (lv_room (Nat.le_of_ble_eq_true rfl)) dX2_mergeColumn_38 ⟨Nat.zero_le _, Nat.zero_le _⟩) hS hP (fun H locs hP hS => ?_)
      refine lv_if_eq (tgt := 48) hx hb dX2_mergeColumn_41 (by decide) (fun c_41 => ?_) (fun c_41 => ?_)
      · refine lv_iconst (v := 0) hx hb dX2_mergeColumn_48 (by decide) ?_
        refine lv_istore_n (lv' := [(2, .int 0), (0, .ref (ad 0)), (1, .int p1)]) hx hb dX2_mergeColumn_49 rfl hl (by decide) rfl (fun ls hl => ?_)
        refine lv_iload_n hx hb dX2_mergeColumn_50 rfl (lv_at hl 0 rfl) ?_
        refine lv_if_ne (tgt := 75) hx hb dX2_mergeColumn_51 (by decide) (fun c_51 => ?_) (fun c_51 => ?_)
        · exact absurd (by decide) c_51
        · refine lv_aload_n hx hb dX2_mergeColumn_54 rfl (lv_at hl 1 rfl) ?_
          refine va_get (D := D) (ci := 2) (v := .ref (ad 1)) (C := RX2) (T := TX2) (N := 8) hx hb hts uin_X2_mergeColumn_X2 hown hG.1 hP 0 rfl rfl 0 (by decide) (hts (.fieldLink RX2 10 "TableSplice" "base" "LTableSplice$Table;") (List.mem_of_getElem? (i := 4) rfl)) (fun _ h9 => h9) rfl dX2_mergeColumn_55 ?_
          refine lv_iload_n hx hb dX2_mergeColumn_58 rfl (lv_at hl 2 rfl) ?_
          refine pr_i (va_runVN (As := [.int p1]) (rest := []) ⟨hx, hb, hml, hown, hts⟩ (k_X1_hasColumn l D cyI cyZ (ad 1) (ad 2) (ad 3) zb p1) ⟨va_cnB 1 hts gX2_mergeColumn_X1_hasColumn_n55 rfl rfl rfl (hG.2.1 (RX2, 55, yX1_hasColumn, "TableSplice") (List.mem_of_getElem? (i := 6) rfl)) (hts (.initialized RX1) (List.mem_of_getElem? (i := 12) rfl)) (by decide +kernel) ⟨Nat.le_of_ble_eq_true rfl, Nat.le_of_ble_eq_true rfl⟩, hts (.instanceMethod yX1_hasColumn) (List.mem_of_getElem? (i := 11) rfl), hts (.selects RX1 yX1_hasColumn yX1_hasColumn) (List.mem_of_getElem? (i := 13) rfl)⟩ (prV hG (hP.sub (ws' := wT cyI (ad 1) (ad 2) (ad 3) zb) [1, 2, 3] rfl) (ci := 1) rfl rfl rfl) rfl rfl hl.1 rfl (lv_room (Nat.le_of_ble_eq_true rfl)) dX2_mergeColumn_59 ⟨Nat.zero_le _, Nat.zero_le _⟩) hS hP (fun H locs hP hS => ?_)
          refine lv_if_eq (tgt := 75) hx hb dX2_mergeColumn_62 (by decide) (fun c_62 => ?_) (fun c_62 => ?_)
          · refine lv_iload_n hx hb dX2_mergeColumn_75 rfl (lv_at hl 0 rfl) ?_
            refine lv_if_eq (tgt := 97) hx hb dX2_mergeColumn_76 (by decide) (fun c_76 => ?_) (fun c_76 => ?_)
            · have ef : f_X2_mergeColumn zb zo zt zm zl p1 = ((f_X1_putColumn zm p1 (f_X2_mergedName zb zo zt p1)), zl) := by rw [f_X2_mergeColumn, if_neg c_5, if_neg c_30, if_pos c_41, if_pos c_62]
              exact W.vret hx hb hr (fun t ht hW => ⟨⟨(), rfl, trivial, by rw [ht, ef]; exact hP, by rw [ef]; exact hD⟩, hS.F ht⟩) hS.2.2 dX2_mergeColumn_97
            · exact absurd (by decide) c_76
          · refine lv_aload_n hx hb dX2_mergeColumn_65 rfl (lv_at hl 1 rfl) ?_
            refine va_get (D := D) (ci := 2) (v := .ref (ad 15)) (C := RX2) (T := TX2) (N := 8) hx hb hts uin_X2_mergeColumn_X2 hown hG.1 hP 0 rfl rfl 6 (by decide) (hts (.fieldLink RX2 36 "TableSplice" "list" "LTableSplice$ConflictList;") (List.mem_of_getElem? (i := 5) rfl)) (fun _ h9 => h9) rfl dX2_mergeColumn_66 ?_
            refine lv_iconst (v := 3) hx hb dX2_mergeColumn_69 (by decide) ?_
            refine lv_iconst (v := (-1)) hx hb dX2_mergeColumn_70 (by decide) ?_
            refine lv_iload_n hx hb dX2_mergeColumn_71 rfl (lv_at hl 2 rfl) ?_
            refine mr_v (va_runVN (As := [.int 3, .int (-1), .int p1]) (rest := []) ⟨hx, hb, hml, hown, hts⟩ (k_X0_append l D cyI cyZ (ad 15) (ad 16) (ad 17) (ad 18) (ad 19) zl 3 (-1) p1 _ _ rfl hn) ⟨va_cnB 3 hts gX2_mergeColumn_X0_append_n256 rfl rfl rfl (hG.2.1 (RX2, 256, yX0_append, "TableSplice") (List.mem_of_getElem? (i := 12) rfl)) (hts (.initialized RX0) (List.mem_of_getElem? (i := 53) rfl)) (by decide +kernel) ⟨Nat.le_of_ble_eq_true rfl, Nat.le_of_ble_eq_true rfl⟩, hts (.instanceMethod yX0_append) (List.mem_of_getElem? (i := 52) rfl), hts (.selects RX0 yX0_append yX0_append) (List.mem_of_getElem? (i := 54) rfl)⟩ (pmV hG (hP.sub (ws' := wL cyI cyZ (ad 15) (ad 16) (ad 17) (ad 18) (ad 19) zl) [15, 16, 17, 18, 19] rfl) (hD.sub (ws' := wL cyI cyZ (ad 15) (ad 16) (ad 17) (ad 18) (ad 19) zl) [15, 16, 17, 18, 19] (by decide) rfl) (ci := 0) rfl rfl rfl) rfl rfl hl.1 rfl (lv_room (Nat.le_of_ble_eq_true rfl)) dX2_mergeColumn_72 ⟨Nat.zero_le _, Nat.zero_le _⟩) hP hD hS hA [15, 16, 17, 18, 19] [0, 1, 2, 3, 4, 5, 6, 7, 8, 9, 10, 11, 12, 13, 14] [0, 1, 2, 3, 4, 5, 6, 7, 8, 9, 10, 11, 12, 13, 14, 15, 16, 17, 18, 19] rfl rfl (by decide) (by decide) (by decide) (w2 := wZ cyI cyZ ad zb zo zt (f_X1_putColumn zm p1 (f_X2_mergedName zb zo zt p1)) zu zr (f_X0_append zl 3 (-1) p1) zf) rfl (fun H locs hP hD hS => ?_)
            have hP : va_P D vwCl (wZ cyI cyZ ad zb zo zt (f_X1_putColumn zm p1 (f_X2_mergedName zb zo zt p1)) zu zr (f_X0_append zl 3 (-1) p1) zf) H := hP
            have hD : va_D A (wZ cyI cyZ ad zb zo zt (f_X1_putColumn zm p1 (f_X2_mergedName zb zo zt p1)) zu zr (f_X0_append zl 3 (-1) p1) zf) := hD
            refine lv_iload_n hx hb dX2_mergeColumn_75 rfl (lv_at hl 0 rfl) ?_
            refine lv_if_eq (tgt := 97) hx hb dX2_mergeColumn_76 (by decide) (fun c_76 => ?_) (fun c_76 => ?_)
            · have ef : f_X2_mergeColumn zb zo zt zm zl p1 = ((f_X1_putColumn zm p1 (f_X2_mergedName zb zo zt p1)), (f_X0_append zl 3 (-1) p1)) := by rw [f_X2_mergeColumn, if_neg c_5, if_neg c_30, if_pos c_41, if_neg c_62]
              exact W.vret hx hb hr (fun t ht hW => ⟨⟨(), rfl, trivial, by rw [ht, ef]; exact hP, by rw [ef]; exact hD⟩, hS.F ht⟩) hS.2.2 dX2_mergeColumn_97
            · exact absurd (by decide) c_76
      · refine lv_iconst (v := 1) hx hb dX2_mergeColumn_44 (by decide) ?_
        refine lv_goto (tgt := 49) hx hb dX2_mergeColumn_45 (by decide) ?_
        refine lv_istore_n (lv' := [(2, .int 1), (0, .ref (ad 0)), (1, .int p1)]) hx hb dX2_mergeColumn_49 rfl hl (by decide) rfl (fun ls hl => ?_)
        refine lv_iload_n hx hb dX2_mergeColumn_50 rfl (lv_at hl 0 rfl) ?_
        refine lv_if_ne (tgt := 75) hx hb dX2_mergeColumn_51 (by decide) (fun c_51 => ?_) (fun c_51 => ?_)
        · refine lv_iload_n hx hb dX2_mergeColumn_75 rfl (lv_at hl 0 rfl) ?_
          refine lv_if_eq (tgt := 97) hx hb dX2_mergeColumn_76 (by decide) (fun c_76 => ?_) (fun c_76 => ?_)
          · exact absurd c_76 (by decide)
          · refine lv_aload_n hx hb dX2_mergeColumn_79 rfl (lv_at hl 1 rfl) ?_
            refine lv_iload_n hx hb dX2_mergeColumn_80 rfl (lv_at hl 2 rfl) ?_
            refine pr_i (va_runV (As := [.int p1]) (rest := []) ⟨hx, hb, hml, hown, hts⟩ (k_X2_namesAreAtOdds l D cyI cyZ ad zb zo zt (f_X1_putColumn zm p1 (f_X2_mergedName zb zo zt p1)) zu zr zl zf p1) (cwV 1 hts gX2_mergeColumn_X2_namesAreAtOdds rfl rfl rfl (by decide +kernel) ⟨Nat.le_of_ble_eq_true rfl, Nat.le_of_ble_eq_true rfl⟩) (prV hG hP (ci := 2) rfl rfl rfl) rfl rfl hl.1 rfl (lv_room (Nat.le_of_ble_eq_true rfl)) dX2_mergeColumn_81 ⟨Nat.zero_le _, Nat.zero_le _⟩) hS hP (fun H locs hP hS => ?_)
            refine lv_if_eq (tgt := 97) hx hb dX2_mergeColumn_84 (by decide) (fun c_84 => ?_) (fun c_84 => ?_)
            · have ef : f_X2_mergeColumn zb zo zt zm zl p1 = ((f_X1_putColumn zm p1 (f_X2_mergedName zb zo zt p1)), zl) := by rw [f_X2_mergeColumn, if_neg c_5, if_neg c_30, if_neg c_41, if_pos c_84]
              exact W.vret hx hb hr (fun t ht hW => ⟨⟨(), rfl, trivial, by rw [ht, ef]; exact hP, by rw [ef]; exact hD⟩, hS.F ht⟩) hS.2.2 dX2_mergeColumn_97
            · refine lv_aload_n hx hb dX2_mergeColumn_87 rfl (lv_at hl 1 rfl) ?_
              refine va_get (D := D) (ci := 2) (v := .ref (ad 15)) (C := RX2) (T := TX2) (N := 8) hx hb hts uin_X2_mergeColumn_X2 hown hG.1 hP 0 rfl rfl 6 (by decide) (hts (.fieldLink RX2 36 "TableSplice" "list" "LTableSplice$ConflictList;") (List.mem_of_getElem? (i := 5) rfl)) (fun _ h9 => h9) rfl dX2_mergeColumn_88 ?_
              refine lv_iconst (v := 4) hx hb dX2_mergeColumn_91 (by decide) ?_
              refine lv_iconst (v := (-1)) hx hb dX2_mergeColumn_92 (by decide) ?_
              refine lv_iload_n hx hb dX2_mergeColumn_93 rfl (lv_at hl 2 rfl) ?_
              refine mr_v (va_runVN (As := [.int 4, .int (-1), .int p1]) (rest := []) ⟨hx, hb, hml, hown, hts⟩ (k_X0_append l D cyI cyZ (ad 15) (ad 16) (ad 17) (ad 18) (ad 19) zl 4 (-1) p1 _ _ rfl hn) ⟨va_cnB 3 hts gX2_mergeColumn_X0_append_n256 rfl rfl rfl (hG.2.1 (RX2, 256, yX0_append, "TableSplice") (List.mem_of_getElem? (i := 12) rfl)) (hts (.initialized RX0) (List.mem_of_getElem? (i := 53) rfl)) (by decide +kernel) ⟨Nat.le_of_ble_eq_true rfl, Nat.le_of_ble_eq_true rfl⟩, hts (.instanceMethod yX0_append) (List.mem_of_getElem? (i := 52) rfl), hts (.selects RX0 yX0_append yX0_append) (List.mem_of_getElem? (i := 54) rfl)⟩ (pmV hG (hP.sub (ws' := wL cyI cyZ (ad 15) (ad 16) (ad 17) (ad 18) (ad 19) zl) [15, 16, 17, 18, 19] rfl) (hD.sub (ws' := wL cyI cyZ (ad 15) (ad 16) (ad 17) (ad 18) (ad 19) zl) [15, 16, 17, 18, 19] (by decide) rfl) (ci := 0) rfl rfl rfl) rfl rfl hl.1 rfl (lv_room (Nat.le_of_ble_eq_true rfl)) dX2_mergeColumn_94 ⟨Nat.zero_le _, Nat.zero_le _⟩) hP hD hS hA [15, 16, 17, 18, 19] [0, 1, 2, 3, 4, 5, 6, 7, 8, 9, 10, 11, 12, 13, 14] [0, 1, 2, 3, 4, 5, 6, 7, 8, 9, 10, 11, 12, 13, 14, 15, 16, 17, 18, 19] rfl rfl (by decide) (by decide) (by decide) (w2 := wZ cyI cyZ ad zb zo zt (f_X1_putColumn zm p1 (f_X2_mergedName zb zo zt p1)) zu zr (f_X0_append zl 4 (-1) p1) zf) rfl (fun H locs hP hD hS => ?_)
              have hP : va_P D vwCl (wZ cyI cyZ ad zb zo zt (f_X1_putColumn zm p1 (f_X2_mergedName zb zo zt p1)) zu zr (f_X0_append zl 4 (-1) p1) zf) H := hP
              have hD : va_D A (wZ cyI cyZ ad zb zo zt (f_X1_putColumn zm p1 (f_X2_mergedName zb zo zt p1)) zu zr (f_X0_append zl 4 (-1) p1) zf) := hD
              have ef : f_X2_mergeColumn zb zo zt zm zl p1 = ((f_X1_putColumn zm p1 (f_X2_mergedName zb zo zt p1)), (f_X0_append zl 4 (-1) p1)) := by rw [f_X2_mergeColumn, if_neg c_5, if_neg c_30, if_neg c_41, if_neg c_84]
              exact W.vret hx hb hr (fun t ht hW => ⟨⟨(), rfl, trivial, by rw [ht, ef]; exact hP, by rw [ef]; exact hD⟩, hS.F ht⟩) hS.2.2 dX2_mergeColumn_97
        · exact absurd c_51 (by decide)
  · have hS := sw_n (B := A) hS
    have ef : f_X2_mergeColumn zb zo zt zm zl p1 = (zm, zl) := by rw [f_X2_mergeColumn, if_pos c_5]
    exact W.vret hx hb hr (fun t ht hW => ⟨⟨(), rfl, trivial, by rw [ht, ef]; exact hP, by rw [ef]; exact hD⟩, hS.F ht⟩) hS.2.2 dX2_mergeColumn_8
theorem n_X2_mergeColumn {zb : Tr} {zo : Tr} {zt : Tr} {zm : Tr} {zl : Lr} {p1 : Int32} (hn : ¬ zl.1 < 0) : ¬ (f_X2_mergeColumn zb zo zt zm zl p1).2.1 < 0 := by
  show (fun z : Tr × Lr => ¬ z.2.1 < 0) (f_X2_mergeColumn zb zo zt zm zl p1)
  rw [f_X2_mergeColumn]
  exact (p_ite (P := fun z : Tr × Lr => ¬ z.2.1 < 0) hn (p_ite (P := fun z : Tr × Lr => ¬ z.2.1 < 0) (p_ite (P := fun z : Tr × Lr => ¬ z.2.1 < 0) hn (n_append hn)) (p_ite (P := fun z : Tr × Lr => ¬ z.2.1 < 0) (p_ite (P := fun z : Tr × Lr => ¬ z.2.1 < 0) hn (n_append hn)) (p_ite (P := fun z : Tr × Lr => ¬ z.2.1 < 0) hn (n_append hn)))))
def f_X2_mergeRow (zb : Tr) (zo : Tr) (zt : Tr) (zm : Tr) (zl : Lr) (p1 : Int32) : Tr × Lr := if (f_X2_rowStays zb zo zt p1) = 0 then ((zm, zl)) else (if (f_X1_hasRow zo p1) = 0 then (if (f_X1_hasRow zb p1) = 0 then ((f_X1_putRow zm p1), zl) else ((f_X1_putRow zm p1), (f_X0_append zl 2 p1 (-1)))) else (if (f_X1_hasRow zt p1) = 0 then (if (f_X1_hasRow zb p1) = 0 then ((f_X1_putRow zm p1), zl) else ((f_X1_putRow zm p1), (f_X0_append zl 2 p1 (-1)))) else ((f_X1_putRow zm p1), zl)))
theorem uin_X2_mergeRow_X2 : ∀ w ∈ wsX20, w ∈ wsX2_mergeRow := fun _ h => List.mem_cons_of_mem _ (List.mem_append_left _ (List.mem_append_left _ (List.mem_append_right _ h)))
theorem uin_X2_mergeRow_X1 : ∀ w ∈ wsX10, w ∈ wsX2_mergeRow := fun _ h => List.mem_cons_of_mem _ (List.mem_append_left _ (List.mem_append_right _ h))
theorem uin_X2_mergeRow_X0 : ∀ w ∈ wsX00, w ∈ wsX2_mergeRow := fun _ h => List.mem_cons_of_mem _ (List.mem_append_right _ h)
set_option maxHeartbeats 4000000 in
set_option maxRecDepth 100000 in
theorem k_X2_mergeRow (l : Launch) (D : va_G) (cyI cyZ : ClassId) (ad : Nat → Nat) (zb : Tr) (zo : Tr) (zt : Tr) (zm : Tr) (zu : Nat → Int32) (zr : Nat → Int32) (zl : Lr) (zf : Int32) (p1 : Int32) (A : Nat → Prop) (sz : Nat) (hAe : A = va_A (wZ cyI cyZ ad zb zo zt zm zu zr zl zf) sz) (hn : ¬ zl.1 < 0) : Met l yX2_mergeRow wsX2_mergeRow ({ frames := 5, cells := 0, slots := 0, locals := 114 } : Room) (pcM D cyI cyZ sz [.ref (ad 0), .int p1] (wZ cyI cyZ ad zb zo zt zm zu zr zl zf)) (mV D A (wZ cyI cyZ ad zb zo zt (f_X2_mergeRow zb zo zt zm zl p1).1 zu zr (f_X2_mergeRow zb zo zt zm zl p1).2 zf)) 0 0 A := by
  refine Met.ofW (cc := cX2_mergeRow) (maxL := 3) (ret := none) (by decide) rfl ?_
  intro p e s m args below meth c s₁ B hml hv
  obtain ⟨rfl, hsz, hP, hG, hD0⟩ := hv
  have hx := B.exec
  have hb := B.bytes
  have hr := B.returns
  have hts := atoms_spec (ws := wsX2_mergeRow) B.pre
  have hown : s.vm.findClass RX2 = some m.cls := findClass_of_methodNamed B.named
  have hlocks := B.notSynchronized
  subst hsz
  have hD : va_D A (wZ cyI cyZ ad zb zo zt zm zu zr zl zf) := by rw [hAe]; exact hD0.self
  have hA : ∀ q : Nat, s.heap.size ≤ q → A q := fun q h => by rw [hAe]; exact Or.inr h
  clear hAe hD0
  have hS : va_S nA s.heap s.heap [] := va_S.rf
  have hl := lv_entry ([.ref (ad 0), .int p1]) (n := 3) (Nat.le_of_ble_eq_true rfl)
  rw [lg_entry_eq]
  generalize (lg_sl ([.ref (ad 0), .int p1]) ++ List.replicate (3 - (lg_sl ([.ref (ad 0), .int p1])).length) Slot.unset).toArray = ls at hl ⊢
  have hl : lv_has ls 3 [(0, .ref (ad 0)), (1, .int p1)] := hl
  have hP : va_P D vwCl (wZ cyI cyZ ad zb zo zt zm zu zr zl zf) s.heap := hP
  refine lv_aload_n hx hb dX2_mergeRow_0 rfl (lv_at hl 0 rfl) ?_
  refine lv_iload_n hx hb dX2_mergeRow_1 rfl (lv_at hl 1 rfl) ?_
  refine pr_i (va_runV (As := [.int p1]) (rest := []) ⟨hx, hb, hml, hown, hts⟩ (k_X2_rowStays l D cyI cyZ ad zb zo zt zm zu zr zl zf p1) (cwV 1 hts gX2_mergeRow_X2_rowStays rfl rfl rfl (by decide +kernel) ⟨Nat.le_of_ble_eq_true rfl, Nat.le_of_ble_eq_true rfl⟩) (prV hG hP (ci := 2) rfl rfl rfl) rfl rfl hl.1 rfl (lv_room (Nat.le_of_ble_eq_true rfl)) dX2_mergeRow_2 ⟨Nat.zero_le _, Nat.zero_le _⟩) hS hP (fun H locs hP hS => ?_)
  refine lv_if_ne (tgt := 9) hx hb dX2_mergeRow_5 (by decide) (fun c_5 => ?_) (fun c_5 => ?_)
  · refine lv_aload_n hx hb dX2_mergeRow_9 rfl (lv_at hl 0 rfl) ?_
    refine va_get (D := D) (ci := 2) (v := .ref (ad 10)) (C := RX2) (T := TX2) (N := 8) hx hb hts uin_X2_mergeRow_X2 hown hG.1 hP 0 rfl rfl 3 (by decide) (hts (.fieldLink RX2 22 "TableSplice" "merged" "LTableSplice$Table;") (List.mem_of_getElem? (i := 1) rfl)) (fun _ h9 => h9) rfl dX2_mergeRow_10 ?_
    refine lv_iload_n hx hb dX2_mergeRow_13 rfl (lv_at hl 1 rfl) ?_
    have hS := sw_n (B := A) hS
    refine mr_v (va_runVN (As := [.int p1]) (rest := []) ⟨hx, hb, hml, hown, hts⟩ (k_X1_putRow l D cyI cyZ (ad 10) (ad 11) (ad 12) zm p1 _ _ rfl) ⟨va_cnB 1 hts gX2_mergeRow_X1_putRow_n96 rfl rfl rfl (hG.2.1 (RX2, 96, yX1_putRow, "TableSplice") (List.mem_of_getElem? (i := 15) rfl)) (hts (.initialized RX1) (List.mem_of_getElem? (i := 12) rfl)) (by decide +kernel) ⟨Nat.le_of_ble_eq_true rfl, Nat.le_of_ble_eq_true rfl⟩, hts (.instanceMethod yX1_putRow) (List.mem_of_getElem? (i := 34) rfl), hts (.selects RX1 yX1_putRow yX1_putRow) (List.mem_of_getElem? (i := 35) rfl)⟩ (pmV hG (hP.sub (ws' := wT cyI (ad 10) (ad 11) (ad 12) zm) [10, 11, 12] rfl) (hD.sub (ws' := wT cyI (ad 10) (ad 11) (ad 12) zm) [10, 11, 12] (by decide) rfl) (ci := 1) rfl rfl rfl) rfl rfl hl.1 rfl (lv_room (Nat.le_of_ble_eq_true rfl)) dX2_mergeRow_14 ⟨Nat.zero_le _, Nat.zero_le _⟩) hP hD hS hA [10, 11, 12] [0, 1, 2, 3, 4, 5, 6, 7, 8, 9, 13, 14, 15, 16, 17, 18, 19] [0, 1, 2, 3, 4, 5, 6, 7, 8, 9, 17, 18, 19, 10, 11, 12, 13, 14, 15, 16] rfl rfl (by decide) (by decide) (by decide) (w2 := wZ cyI cyZ ad zb zo zt (f_X1_putRow zm p1) zu zr zl zf) rfl (fun H locs hP hD hS => ?_)
    have hP : va_P D vwCl (wZ cyI cyZ ad zb zo zt (f_X1_putRow zm p1) zu zr zl zf) H := hP
    have hD : va_D A (wZ cyI cyZ ad zb zo zt (f_X1_putRow zm p1) zu zr zl zf) := hD
    refine lv_aload_n hx hb dX2_mergeRow_17 rfl (lv_at hl 0 rfl) ?_
    refine va_get (D := D) (ci := 2) (v := .ref (ad 4)) (C := RX2) (T := TX2) (N := 8) hx hb hts uin_X2_mergeRow_X2 hown hG.1 hP 0 rfl rfl 1 (by decide) (hts (.fieldLink RX2 16 "TableSplice" "ours" "LTableSplice$Table;") (List.mem_of_getElem? (i := 2) rfl)) (fun _ h9 => h9) rfl dX2_mergeRow_18 ?_
    refine lv_iload_n hx hb dX2_mergeRow_21 rfl (lv_at hl 1 rfl) ?_
    refine pr_i (va_runVN (As := [.int p1]) (rest := []) ⟨hx, hb, hml, hown, hts⟩ (k_X1_hasRow l D cyI cyZ (ad 4) (ad 5) (ad 6) zo p1) ⟨va_cnB 1 hts gX2_mergeRow_X1_hasRow_n91 rfl rfl rfl (hG.2.1 (RX2, 91, yX1_hasRow, "TableSplice") (List.mem_of_getElem? (i := 13) rfl)) (hts (.initialized RX1) (List.mem_of_getElem? (i := 12) rfl)) (by decide +kernel) ⟨Nat.le_of_ble_eq_true rfl, Nat.le_of_ble_eq_true rfl⟩, hts (.instanceMethod yX1_hasRow) (List.mem_of_getElem? (i := 11) rfl), hts (.selects RX1 yX1_hasRow yX1_hasRow) (List.mem_of_getElem? (i := 13) rfl)⟩ (prV hG (hP.sub (ws' := wT cyI (ad 4) (ad 5) (ad 6) zo) [4, 5, 6] rfl) (ci := 1) rfl rfl rfl) rfl rfl hl.1 rfl (lv_room (Nat.le_of_ble_eq_true rfl)) dX2_mergeRow_22 ⟨Nat.zero_le _, Nat.zero_le _⟩) hS hP (fun H locs hP hS => ?_)
    refine lv_if_eq (tgt := 43) hx hb dX2_mergeRow_25 (by decide) (fun c_25 => ?_) (fun c_25 => ?_)
    · refine lv_iconst (v := 0) hx hb dX2_mergeRow_43 (by decide) ?_
      refine lv_istore_n (lv' := [(2, .int 0), (0, .ref (ad 0)), (1, .int p1)]) hx hb dX2_mergeRow_44 rfl hl (by decide) rfl (fun ls hl => ?_)
      refine lv_iload_n hx hb dX2_mergeRow_45 rfl (lv_at hl 0 rfl) ?_
      refine lv_if_ne (tgt := 70) hx hb dX2_mergeRow_46 (by decide) (fun c_46 => ?_) (fun c_46 => ?_)
      · exact absurd (by decide) c_46
      · refine lv_aload_n hx hb dX2_mergeRow_49 rfl (lv_at hl 1 rfl) ?_
        refine va_get (D := D) (ci := 2) (v := .ref (ad 1)) (C := RX2) (T := TX2) (N := 8) hx hb hts uin_X2_mergeRow_X2 hown hG.1 hP 0 rfl rfl 0 (by decide) (hts (.fieldLink RX2 10 "TableSplice" "base" "LTableSplice$Table;") (List.mem_of_getElem? (i := 4) rfl)) (fun _ h9 => h9) rfl dX2_mergeRow_50 ?_
        refine lv_iload_n hx hb dX2_mergeRow_53 rfl (lv_at hl 2 rfl) ?_
        refine pr_i (va_runVN (As := [.int p1]) (rest := []) ⟨hx, hb, hml, hown, hts⟩ (k_X1_hasRow l D cyI cyZ (ad 1) (ad 2) (ad 3) zb p1) ⟨va_cnB 1 hts gX2_mergeRow_X1_hasRow_n91 rfl rfl rfl (hG.2.1 (RX2, 91, yX1_hasRow, "TableSplice") (List.mem_of_getElem? (i := 13) rfl)) (hts (.initialized RX1) (List.mem_of_getElem? (i := 12) rfl)) (by decide +kernel) ⟨Nat.le_of_ble_eq_true rfl, Nat.le_of_ble_eq_true rfl⟩, hts (.instanceMethod yX1_hasRow) (List.mem_of_getElem? (i := 11) rfl), hts (.selects RX1 yX1_hasRow yX1_hasRow) (List.mem_of_getElem? (i := 13) rfl)⟩ (prV hG (hP.sub (ws' := wT cyI (ad 1) (ad 2) (ad 3) zb) [1, 2, 3] rfl) (ci := 1) rfl rfl rfl) rfl rfl hl.1 rfl (lv_room (Nat.le_of_ble_eq_true rfl)) dX2_mergeRow_54 ⟨Nat.zero_le _, Nat.zero_le _⟩) hS hP (fun H locs hP hS => ?_)
        refine lv_if_eq (tgt := 70) hx hb dX2_mergeRow_57 (by decide) (fun c_57 => ?_) (fun c_57 => ?_)
        · have ef : f_X2_mergeRow zb zo zt zm zl p1 = ((f_X1_putRow zm p1), zl) := by rw [f_X2_mergeRow, if_neg c_5, if_pos c_25, if_pos c_57]
          exact W.vret hx hb hr (fun t ht hW => ⟨⟨(), rfl, trivial, by rw [ht, ef]; exact hP, by rw [ef]; exact hD⟩, hS.F ht⟩) hS.2.2 dX2_mergeRow_70
        · refine lv_aload_n hx hb dX2_mergeRow_60 rfl (lv_at hl 1 rfl) ?_
          refine va_get (D := D) (ci := 2) (v := .ref (ad 15)) (C := RX2) (T := TX2) (N := 8) hx hb hts uin_X2_mergeRow_X2 hown hG.1 hP 0 rfl rfl 6 (by decide) (hts (.fieldLink RX2 36 "TableSplice" "list" "LTableSplice$ConflictList;") (List.mem_of_getElem? (i := 5) rfl)) (fun _ h9 => h9) rfl dX2_mergeRow_61 ?_
          refine lv_iconst (v := 2) hx hb dX2_mergeRow_64 (by decide) ?_
          refine lv_iload_n hx hb dX2_mergeRow_65 rfl (lv_at hl 2 rfl) ?_
          refine lv_iconst (v := (-1)) hx hb dX2_mergeRow_66 (by decide) ?_
          refine mr_v (va_runVN (As := [.int 2, .int p1, .int (-1)]) (rest := []) ⟨hx, hb, hml, hown, hts⟩ (k_X0_append l D cyI cyZ (ad 15) (ad 16) (ad 17) (ad 18) (ad 19) zl 2 p1 (-1) _ _ rfl hn) ⟨va_cnB 3 hts gX2_mergeRow_X0_append_n256 rfl rfl rfl (hG.2.1 (RX2, 256, yX0_append, "TableSplice") (List.mem_of_getElem? (i := 12) rfl)) (hts (.initialized RX0) (List.mem_of_getElem? (i := 40) rfl)) (by decide +kernel) ⟨Nat.le_of_ble_eq_true rfl, Nat.le_of_ble_eq_true rfl⟩, hts (.instanceMethod yX0_append) (List.mem_of_getElem? (i := 39) rfl), hts (.selects RX0 yX0_append yX0_append) (List.mem_of_getElem? (i := 41) rfl)⟩ (pmV hG (hP.sub (ws' := wL cyI cyZ (ad 15) (ad 16) (ad 17) (ad 18) (ad 19) zl) [15, 16, 17, 18, 19] rfl) (hD.sub (ws' := wL cyI cyZ (ad 15) (ad 16) (ad 17) (ad 18) (ad 19) zl) [15, 16, 17, 18, 19] (by decide) rfl) (ci := 0) rfl rfl rfl) rfl rfl hl.1 rfl (lv_room (Nat.le_of_ble_eq_true rfl)) dX2_mergeRow_67 ⟨Nat.zero_le _, Nat.zero_le _⟩) hP hD hS hA [15, 16, 17, 18, 19] [0, 1, 2, 3, 4, 5, 6, 7, 8, 9, 10, 11, 12, 13, 14] [0, 1, 2, 3, 4, 5, 6, 7, 8, 9, 10, 11, 12, 13, 14, 15, 16, 17, 18, 19] rfl rfl (by decide) (by decide) (by decide) (w2 := wZ cyI cyZ ad zb zo zt (f_X1_putRow zm p1) zu zr (f_X0_append zl 2 p1 (-1)) zf) rfl (fun H locs hP hD hS => ?_)
          have hP : va_P D vwCl (wZ cyI cyZ ad zb zo zt (f_X1_putRow zm p1) zu zr (f_X0_append zl 2 p1 (-1)) zf) H := hP
          have hD : va_D A (wZ cyI cyZ ad zb zo zt (f_X1_putRow zm p1) zu zr (f_X0_append zl 2 p1 (-1)) zf) := hD
          have ef : f_X2_mergeRow zb zo zt zm zl p1 = ((f_X1_putRow zm p1), (f_X0_append zl 2 p1 (-1))) := by rw [f_X2_mergeRow, if_neg c_5, if_pos c_25, if_neg c_57]
          exact W.vret hx hb hr (fun t ht hW => ⟨⟨(), rfl, trivial, by rw [ht, ef]; exact hP, by rw [ef]; exact hD⟩, hS.F ht⟩) hS.2.2 dX2_mergeRow_70
    · refine lv_aload_n hx hb dX2_mergeRow_28 rfl (lv_at hl 0 rfl) ?_
      refine va_get (D := D) (ci := 2) (v := .ref (ad 7)) (C := RX2) (T := TX2) (N := 8) hx hb hts uin_X2_mergeRow_X2 hown hG.1 hP 0 rfl rfl 2 (by decide) (hts (.fieldLink RX2 19 "TableSplice" "theirs" "LTableSplice$Table;") (List.mem_of_getElem? (i := 3) rfl)) (fun _ h9 => h9) rfl dX2_mergeRow_29 ?_
      refine lv_iload_n hx hb dX2_mergeRow_32 rfl (lv_at hl 1 rfl) ?_
      refine pr_i (va_runVN (As := [.int p1]) (rest := []) ⟨hx, hb, hml, hown, hts⟩ (k_X1_hasRow l D cyI cyZ (ad 7) (ad 8) (ad 9) zt p1) ⟨va_cnB 1 hts gX2_mergeRow_X1_hasRow_n91 rfl rfl rfl (hG.2.1 (RX2, 91, yX1_hasRow, "TableSplice") (List.mem_of_getElem? (i := 13) rfl)) (hts (.initialized RX1) (List.mem_of_getElem? (i := 12) rfl)) (by decide +kernel) ⟨Nat.le_of_ble_eq_true rfl, Nat.le_of_ble_eq_true rfl⟩, hts (.instanceMethod yX1_hasRow) (List.mem_of_getElem? (i := 11) rfl), hts (.selects RX1 yX1_hasRow yX1_hasRow) (List.mem_of_getElem? (i := 13) rfl)⟩ (prV hG (hP.sub (ws' := wT cyI (ad 7) (ad 8) (ad 9) zt) [7, 8, 9] rfl) (ci := 1) rfl rfl rfl) rfl rfl hl.1 rfl (lv_room (Nat.le_of_ble_eq_true rfl)) dX2_mergeRow_33 ⟨Nat.zero_le _, Nat.zero_le _⟩) hS hP (fun H locs hP hS => ?_)
      refine lv_if_eq (tgt := 43) hx hb dX2_mergeRow_36 (by decide) (fun c_36 => ?_) (fun c_36 => ?_)
      · refine lv_iconst (v := 0) hx hb dX2_mergeRow_43 (by decide) ?_
        refine lv_istore_n (lv' := [(2, .int 0), (0, .ref (ad 0)), (1, .int p1)]) hx hb dX2_mergeRow_44 rfl hl (by decide) rfl (fun ls hl => ?_)
        refine lv_iload_n hx hb dX2_mergeRow_45 rfl (lv_at hl 0 rfl) ?_
        refine lv_if_ne (tgt := 70) hx hb dX2_mergeRow_46 (by decide) (fun c_46 => ?_) (fun c_46 => ?_)
        · exact absurd (by decide) c_46
        · refine lv_aload_n hx hb dX2_mergeRow_49 rfl (lv_at hl 1 rfl) ?_
          refine va_get (D := D) (ci := 2) (v := .ref (ad 1)) (C := RX2) (T := TX2) (N := 8) hx hb hts uin_X2_mergeRow_X2 hown hG.1 hP 0 rfl rfl 0 (by decide) (hts (.fieldLink RX2 10 "TableSplice" "base" "LTableSplice$Table;") (List.mem_of_getElem? (i := 4) rfl)) (fun _ h9 => h9) rfl dX2_mergeRow_50 ?_
          refine lv_iload_n hx hb dX2_mergeRow_53 rfl (lv_at hl 2 rfl) ?_
          refine pr_i (va_runVN (As := [.int p1]) (rest := []) ⟨hx, hb, hml, hown, hts⟩ (k_X1_hasRow l D cyI cyZ (ad 1) (ad 2) (ad 3) zb p1) ⟨va_cnB 1 hts gX2_mergeRow_X1_hasRow_n91 rfl rfl rfl (hG.2.1 (RX2, 91, yX1_hasRow, "TableSplice") (List.mem_of_getElem? (i := 13) rfl)) (hts (.initialized RX1) (List.mem_of_getElem? (i := 12) rfl)) (by decide +kernel) ⟨Nat.le_of_ble_eq_true rfl, Nat.le_of_ble_eq_true rfl⟩, hts (.instanceMethod yX1_hasRow) (List.mem_of_getElem? (i := 11) rfl), hts (.selects RX1 yX1_hasRow yX1_hasRow) (List.mem_of_getElem? (i := 13) rfl)⟩ (prV hG (hP.sub (ws' := wT cyI (ad 1) (ad 2) (ad 3) zb) [1, 2, 3] rfl) (ci := 1) rfl rfl rfl) rfl rfl hl.1 rfl (lv_room (Nat.le_of_ble_eq_true rfl)) dX2_mergeRow_54 ⟨Nat.zero_le _, Nat.zero_le _⟩) hS hP (fun H locs hP hS => ?_)
          refine lv_if_eq (tgt := 70) hx hb dX2_mergeRow_57 (by decide) (fun c_57 => ?_) (fun c_57 => ?_)
          · have ef : f_X2_mergeRow zb zo zt zm zl p1 = ((f_X1_putRow zm p1), zl) := by rw [f_X2_mergeRow, if_neg c_5, if_neg c_25, if_pos c_36, if_pos c_57]
            exact W.vret hx hb hr (fun t ht hW => ⟨⟨(), rfl, trivial, by rw [ht, ef]; exact hP, by rw [ef]; exact hD⟩, hS.F ht⟩) hS.2.2 dX2_mergeRow_70
          · refine lv_aload_n hx hb dX2_mergeRow_60 rfl (lv_at hl 1 rfl) ?_
            refine va_get (D := D) (ci := 2) (v := .ref (ad 15)) (C := RX2) (T := TX2) (N := 8) hx hb hts uin_X2_mergeRow_X2 hown hG.1 hP 0 rfl rfl 6 (by decide) (hts (.fieldLink RX2 36 "TableSplice" "list" "LTableSplice$ConflictList;") (List.mem_of_getElem? (i := 5) rfl)) (fun _ h9 => h9) rfl dX2_mergeRow_61 ?_
            refine lv_iconst (v := 2) hx hb dX2_mergeRow_64 (by decide) ?_
            refine lv_iload_n hx hb dX2_mergeRow_65 rfl (lv_at hl 2 rfl) ?_
            refine lv_iconst (v := (-1)) hx hb dX2_mergeRow_66 (by decide) ?_
            refine mr_v (va_runVN (As := [.int 2, .int p1, .int (-1)]) (rest := []) ⟨hx, hb, hml, hown, hts⟩ (k_X0_append l D cyI cyZ (ad 15) (ad 16) (ad 17) (ad 18) (ad 19) zl 2 p1 (-1) _ _ rfl hn) ⟨va_cnB 3 hts gX2_mergeRow_X0_append_n256 rfl rfl rfl (hG.2.1 (RX2, 256, yX0_append, "TableSplice") (List.mem_of_getElem? (i := 12) rfl)) (hts (.initialized RX0) (List.mem_of_getElem? (i := 40) rfl)) (by decide +kernel) ⟨Nat.le_of_ble_eq_true rfl, Nat.le_of_ble_eq_true rfl⟩, hts (.instanceMethod yX0_append) (List.mem_of_getElem? (i := 39) rfl), hts (.selects RX0 yX0_append yX0_append) (List.mem_of_getElem? (i := 41) rfl)⟩ (pmV hG (hP.sub (ws' := wL cyI cyZ (ad 15) (ad 16) (ad 17) (ad 18) (ad 19) zl) [15, 16, 17, 18, 19] rfl) (hD.sub (ws' := wL cyI cyZ (ad 15) (ad 16) (ad 17) (ad 18) (ad 19) zl) [15, 16, 17, 18, 19] (by decide) rfl) (ci := 0) rfl rfl rfl) rfl rfl hl.1 rfl (lv_room (Nat.le_of_ble_eq_true rfl)) dX2_mergeRow_67 ⟨Nat.zero_le _, Nat.zero_le _⟩) hP hD hS hA [15, 16, 17, 18, 19] [0, 1, 2, 3, 4, 5, 6, 7, 8, 9, 10, 11, 12, 13, 14] [0, 1, 2, 3, 4, 5, 6, 7, 8, 9, 10, 11, 12, 13, 14, 15, 16, 17, 18, 19] rfl rfl (by decide) (by decide) (by decide) (w2 := wZ cyI cyZ ad zb zo zt (f_X1_putRow zm p1) zu zr (f_X0_append zl 2 p1 (-1)) zf) rfl (fun H locs hP hD hS => ?_)
            have hP : va_P D vwCl (wZ cyI cyZ ad zb zo zt (f_X1_putRow zm p1) zu zr (f_X0_append zl 2 p1 (-1)) zf) H := hP
            have hD : va_D A (wZ cyI cyZ ad zb zo zt (f_X1_putRow zm p1) zu zr (f_X0_append zl 2 p1 (-1)) zf) := hD
            have ef : f_X2_mergeRow zb zo zt zm zl p1 = ((f_X1_putRow zm p1), (f_X0_append zl 2 p1 (-1))) := by rw [f_X2_mergeRow, if_neg c_5, if_neg c_25, if_pos c_36, if_neg c_57]
            exact W.vret hx hb hr (fun t ht hW => ⟨⟨(), rfl, trivial, by rw [ht, ef]; exact hP, by rw [ef]; exact hD⟩, hS.F ht⟩) hS.2.2 dX2_mergeRow_70
      · refine lv_iconst (v := 1) hx hb dX2_mergeRow_39 (by decide) ?_
        refine lv_goto (tgt := 44) hx hb dX2_mergeRow_40 (by decide) ?_
        refine lv_istore_n (lv' := [(2, .int 1), (0, .ref (ad 0)), (1, .int p1)]) hx hb dX2_mergeRow_44 rfl hl (by decide) rfl (fun ls hl => ?_)
        refine lv_iload_n hx hb dX2_mergeRow_45 rfl (lv_at hl 0 rfl) ?_
        refine lv_if_ne (tgt := 70) hx hb dX2_mergeRow_46 (by decide) (fun c_46 => ?_) (fun c_46 => ?_)
        · have ef : f_X2_mergeRow zb zo zt zm zl p1 = ((f_X1_putRow zm p1), zl) := by rw [f_X2_mergeRow, if_neg c_5, if_neg c_25, if_neg c_36]
          exact W.vret hx hb hr (fun t ht hW => ⟨⟨(), rfl, trivial, by rw [ht, ef]; exact hP, by rw [ef]; exact hD⟩, hS.F ht⟩) hS.2.2 dX2_mergeRow_70
        · exact absurd c_46 (by decide)
  · have hS := sw_n (B := A) hS
    have ef : f_X2_mergeRow zb zo zt zm zl p1 = (zm, zl) := by rw [f_X2_mergeRow, if_pos c_5]
    exact W.vret hx hb hr (fun t ht hW => ⟨⟨(), rfl, trivial, by rw [ht, ef]; exact hP, by rw [ef]; exact hD⟩, hS.F ht⟩) hS.2.2 dX2_mergeRow_8
theorem n_X2_mergeRow {zb : Tr} {zo : Tr} {zt : Tr} {zm : Tr} {zl : Lr} {p1 : Int32} (hn : ¬ zl.1 < 0) : ¬ (f_X2_mergeRow zb zo zt zm zl p1).2.1 < 0 := by
  show (fun z : Tr × Lr => ¬ z.2.1 < 0) (f_X2_mergeRow zb zo zt zm zl p1)
  rw [f_X2_mergeRow]
  exact (p_ite (P := fun z : Tr × Lr => ¬ z.2.1 < 0) hn (p_ite (P := fun z : Tr × Lr => ¬ z.2.1 < 0) (p_ite (P := fun z : Tr × Lr => ¬ z.2.1 < 0) hn (n_append hn)) (p_ite (P := fun z : Tr × Lr => ¬ z.2.1 < 0) (p_ite (P := fun z : Tr × Lr => ¬ z.2.1 < 0) hn (n_append hn)) hn)))
def f_X2_mergeCell (zb : Tr) (zo : Tr) (zt : Tr) (zm : Tr) (zu : Nat → Int32) (zl : Lr) (p1 : Int32) (p2 : Int32) : Tr × Lr := if (f_X2_isColumnNumber p2) = 0 then ((zm, zl)) else (if (f_X1_hasCell zm p1 p2) = 0 then ((zm, zl)) else (if (f_X2_cellsAreUnlike zb zo zt p1 p2) = 0 then ((f_X1_putCell zm p1 p2 (f_X2_mergedCell zb zo zt p1 p2 (zu (p2).toNatClampNeg) (f_X2_cellsAreUnlike zb zo zt p1 p2))), zl) else (if (zu (p2).toNatClampNeg) = 0 then ((f_X1_putCell zm p1 p2 (f_X2_mergedCell zb zo zt p1 p2 (zu (p2).toNatClampNeg) (f_X2_cellsAreUnlike zb zo zt p1 p2))), (f_X0_append zl 1 p1 p2)) else ((f_X1_putCell zm p1 p2 (f_X2_mergedCell zb zo zt p1 p2 (zu (p2).toNatClampNeg) (f_X2_cellsAreUnlike zb zo zt p1 p2))), zl))))
theorem uin_X2_mergeCell_X2 : ∀ w ∈ wsX20, w ∈ wsX2_mergeCell := fun _ h => List.mem_cons_of_mem _ (List.mem_append_left _ (List.mem_append_left _ (List.mem_append_right _ h)))
theorem uin_X2_mergeCell_X1 : ∀ w ∈ wsX10, w ∈ wsX2_mergeCell := fun _ h => List.mem_cons_of_mem _ (List.mem_append_left _ (List.mem_append_right _ h))
theorem uin_X2_mergeCell_X0 : ∀ w ∈ wsX00, w ∈ wsX2_mergeCell := fun _ h => List.mem_cons_of_mem _ (List.mem_append_right _ h)
set_option maxHeartbeats 4000000 in
set_option maxRecDepth 100000 in
theorem k_X2_mergeCell (l : Launch) (D : va_G) (cyI cyZ : ClassId) (ad : Nat → Nat) (zb : Tr) (zo : Tr) (zt : Tr) (zm : Tr) (zu : Nat → Int32) (zr : Nat → Int32) (zl : Lr) (zf : Int32) (p1 : Int32) (p2 : Int32) (A : Nat → Prop) (sz : Nat) (hAe : A = va_A (wZ cyI cyZ ad zb zo zt zm zu zr zl zf) sz) (hn : ¬ zl.1 < 0) : Met l yX2_mergeCell wsX2_mergeCell ({ frames := 4, cells := 0, slots := 0, locals := 92 } : Room) (pcM D cyI cyZ sz [.ref (ad 0), .int p1, .int p2] (wZ cyI cyZ ad zb zo zt zm zu zr zl zf)) (mV D A (wZ cyI cyZ ad zb zo zt (f_X2_mergeCell zb zo zt zm zu zl p1 p2).1 zu zr (f_X2_mergeCell zb zo zt zm zu zl p1 p2).2 zf)) 0 0 A := by
  refine Met.ofW (cc := cX2_mergeCell) (maxL := 4) (ret := none) (by decide) rfl ?_
  intro p e s m args below meth c s₁ B hml hv
  obtain ⟨rfl, hsz, hP, hG, hD0⟩ := hv
  have hx := B.exec
  have hb := B.bytes
  have hr := B.returns
  have hts := atoms_spec (ws := wsX2_mergeCell) B.pre
  have hown : s.vm.findClass RX2 = some m.cls := findClass_of_methodNamed B.named
  have hlocks := B.notSynchronized
  subst hsz
  have hD : va_D A (wZ cyI cyZ ad zb zo zt zm zu zr zl zf) := by rw [hAe]; exact hD0.self
  have hA : ∀ q : Nat, s.heap.size ≤ q → A q := fun q h => by rw [hAe]; exact Or.inr h
  clear hAe hD0
  have hS : va_S nA s.heap s.heap [] := va_S.rf
  have hl := lv_entry ([.ref (ad 0), .int p1, .int p2]) (n := 4) (Nat.le_of_ble_eq_true rfl)
  rw [lg_entry_eq]
  generalize (lg_sl ([.ref (ad 0), .int p1, .int p2]) ++ List.replicate (4 - (lg_sl ([.ref (ad 0), .int p1, .int p2])).length) Slot.unset).toArray = ls at hl ⊢
  have hl : lv_has ls 4 [(0, .ref (ad 0)), (1, .int p1), (2, .int p2)] := hl
  have hP : va_P D vwCl (wZ cyI cyZ ad zb zo zt zm zu zr zl zf) s.heap := hP
  refine lv_iload_n hx hb dX2_mergeCell_0 rfl (lv_at hl 2 rfl) ?_
  refine pr_i (va_runS (As := [.int p2]) (rest := []) ⟨hx, hb, hml, hown, hts⟩ (k_X2_isColumnNumber l D cyI cyZ p2) (va_cwS 1 hts gX2_mergeCell_X2_isColumnNumber rfl rfl rfl (by decide +kernel) ⟨Nat.le_of_ble_eq_true rfl, Nat.le_of_ble_eq_true rfl⟩) (prS hG (hP.sub (ws' := []) [] rfl)) rfl rfl hl.1 rfl (lv_room (Nat.le_of_ble_eq_true rfl)) dX2_mergeCell_1 ⟨Nat.zero_le _, Nat.zero_le _⟩) hS hP (fun H locs hP hS => ?_)
  refine lv_if_eq (tgt := 19) hx hb dX2_mergeCell_4 (by decide) (fun c_4 => ?_) (fun c_4 => ?_)
  · have hS := sw_n (B := A) hS
    have ef : f_X2_mergeCell zb zo zt zm zu zl p1 p2 = (zm, zl) := by rw [f_X2_mergeCell, if_pos c_4]
    exact W.vret hx hb hr (fun t ht hW => ⟨⟨(), rfl, trivial, by rw [ht, ef]; exact hP, by rw [ef]; exact hD⟩, hS.F ht⟩) hS.2.2 dX2_mergeCell_19
  · refine lv_aload_n hx hb dX2_mergeCell_7 rfl (lv_at hl 0 rfl) ?_
    refine va_get (D := D) (ci := 2) (v := .ref (ad 10)) (C := RX2) (T := TX2) (N := 8) hx hb hts uin_X2_mergeCell_X2 hown hG.1 hP 0 rfl rfl 3 (by decide) (hts (.fieldLink RX2 22 "TableSplice" "merged" "LTableSplice$Table;") (List.mem_of_getElem? (i := 1) rfl)) (fun _ h9 => h9) rfl dX2_mergeCell_8 ?_
    refine lv_iload_n hx hb dX2_mergeCell_11 rfl (lv_at hl 1 rfl) ?_
    refine lv_iload_n hx hb dX2_mergeCell_12 rfl (lv_at hl 2 rfl) ?_
    refine pr_i (va_runVN (As := [.int p1, .int p2]) (rest := []) ⟨hx, hb, hml, hown, hts⟩ (k_X1_hasCell l D cyI cyZ (ad 10) (ad 11) (ad 12) zm p1 p2) ⟨va_cnB 2 hts gX2_mergeCell_X1_hasCell_n185 rfl rfl rfl (hG.2.1 (RX2, 185, yX1_hasCell, "TableSplice") (List.mem_of_getElem? (i := 17) rfl)) (hts (.initialized RX1) (List.mem_of_getElem? (i := 9) rfl)) (by decide +kernel) ⟨Nat.le_of_ble_eq_true rfl, Nat.le_of_ble_eq_true rfl⟩, hts (.instanceMethod yX1_hasCell) (List.mem_of_getElem? (i := 8) rfl), hts (.selects RX1 yX1_hasCell yX1_hasCell) (List.mem_of_getElem? (i := 10) rfl)⟩ (prV hG (hP.sub (ws' := wT cyI (ad 10) (ad 11) (ad 12) zm) [10, 11, 12] rfl) (ci := 1) rfl rfl rfl) rfl rfl hl.1 rfl (lv_room (Nat.le_of_ble_eq_true rfl)) dX2_mergeCell_13 ⟨Nat.zero_le _, Nat.zero_le _⟩) hS hP (fun H locs hP hS => ?_)
    refine lv_if_ne (tgt := 20) hx hb dX2_mergeCell_16 (by decide) (fun c_16 => ?_) (fun c_16 => ?_)
    · refine lv_aload_n hx hb dX2_mergeCell_20 rfl (lv_at hl 0 rfl) ?_
      refine lv_iload_n hx hb dX2_mergeCell_21 rfl (lv_at hl 1 rfl) ?_
      refine lv_iload_n hx hb dX2_mergeCell_22 rfl (lv_at hl 2 rfl) ?_
      refine pr_i (va_runV (As := [.int p1, .int p2]) (rest := []) ⟨hx, hb, hml, hown, hts⟩ (k_X2_cellsAreUnlike l D cyI cyZ ad zb zo zt zm zu zr zl zf p1 p2) (cwV 2 hts gX2_mergeCell_X2_cellsAreUnlike rfl rfl rfl (by decide +kernel) ⟨Nat.le_of_ble_eq_true rfl, Nat.le_of_ble_eq_true rfl⟩) (prV hG hP (ci := 2) rfl rfl rfl) rfl rfl hl.1 rfl (lv_room (Nat.le_of_ble_eq_true rfl)) dX2_mergeCell_23 ⟨Nat.zero_le _, Nat.zero_le _⟩) hS hP (fun H locs hP hS => ?_)
      refine lv_istore_n (lv' := [(3, .int (f_X2_cellsAreUnlike zb zo zt p1 p2)), (0, .ref (ad 0)), (1, .int p1), (2, .int p2)]) hx hb dX2_mergeCell_26 rfl hl (by decide) rfl (fun ls hl => ?_)
      refine lv_aload_n hx hb dX2_mergeCell_27 rfl (lv_at hl 1 rfl) ?_
      refine va_get (D := D) (ci := 2) (v := .ref (ad 10)) (C := RX2) (T := TX2) (N := 8) hx hb hts uin_X2_mergeCell_X2 hown hG.1 hP 0 rfl rfl 3 (by decide) (hts (.fieldLink RX2 22 "TableSplice" "merged" "LTableSplice$Table;") (List.mem_of_getElem? (i := 1) rfl)) (fun _ h9 => h9) rfl dX2_mergeCell_28 ?_
      refine lv_iload_n hx hb dX2_mergeCell_31 rfl (lv_at hl 2 rfl) ?_
      refine lv_iload_n hx hb dX2_mergeCell_32 rfl (lv_at hl 3 rfl) ?_
      refine lv_aload_n hx hb dX2_mergeCell_33 rfl (lv_at hl 1 rfl) ?_
      refine lv_iload_n hx hb dX2_mergeCell_34 rfl (lv_at hl 2 rfl) ?_
      refine lv_iload_n hx hb dX2_mergeCell_35 rfl (lv_at hl 3 rfl) ?_
      refine lv_aload_n hx hb dX2_mergeCell_36 rfl (lv_at hl 1 rfl) ?_
      refine va_get (D := D) (ci := 2) (v := .ref (ad 13)) (C := RX2) (T := TX2) (N := 8) hx hb hts uin_X2_mergeCell_X2 hown hG.1 hP 0 rfl rfl 4 (by decide) (hts (.fieldLink RX2 25 "TableSplice" "rules" "[I") (List.mem_of_getElem? (i := 2) rfl)) (fun _ h9 => h9) rfl dX2_mergeCell_37 ?_
      refine lv_iload_n hx hb dX2_mergeCell_40 rfl (lv_at hl 3 rfl) ?_
      refine va_iald hx hb hG.1 hP 13 0 rfl rfl (in_colnum c_4) dX2_mergeCell_41 ?_
      refine lv_iload_n hx hb dX2_mergeCell_42 rfl (lv_at hl 0 rfl) ?_
      refine pr_i (va_runV (As := [.int p1, .int p2, .int (zu (p2).toNatClampNeg), .int (f_X2_cellsAreUnlike zb zo zt p1 p2)]) (rest := [.int p2, .int p1, .ref (ad 10)]) ⟨hx, hb, hml, hown, hts⟩ (k_X2_mergedCell l D cyI cyZ ad zb zo zt zm zu zr zl zf p1 p2 (zu (p2).toNatClampNeg) (f_X2_cellsAreUnlike zb zo zt p1 p2)) (cwV 4 hts gX2_mergeCell_X2_mergedCell rfl rfl rfl (by decide +kernel) ⟨Nat.le_of_ble_eq_true rfl, Nat.le_of_ble_eq_true rfl⟩) (prV hG hP (ci := 2) rfl rfl rfl) rfl rfl hl.1 rfl (lv_room (Nat.le_of_ble_eq_true rfl)) dX2_mergeCell_43 ⟨Nat.zero_le _, Nat.zero_le _⟩) hS hP (fun H locs hP hS => ?_)
      have hS := sw_n (B := A) hS
      refine mr_v (va_runVN (As := [.int p1, .int p2, .int (f_X2_mergedCell zb zo zt p1 p2 (zu (p2).toNatClampNeg) (f_X2_cellsAreUnlike zb zo zt p1 p2))]) (rest := []) ⟨hx, hb, hml, hown, hts⟩ (k_X1_putCell l D cyI cyZ (ad 10) (ad 11) (ad 12) zm p1 p2 (f_X2_mergedCell zb zo zt p1 p2 (zu (p2).toNatClampNeg) (f_X2_cellsAreUnlike zb zo zt p1 p2)) _ _ rfl) ⟨va_cnB 3 hts gX2_mergeCell_X1_putCell_n117 rfl rfl rfl (hG.2.1 (RX2, 117, yX1_putCell, "TableSplice") (List.mem_of_getElem? (i := 19) rfl)) (hts (.initialized RX1) (List.mem_of_getElem? (i := 9) rfl)) (by decide +kernel) ⟨Nat.le_of_ble_eq_true rfl, Nat.le_of_ble_eq_true rfl⟩, hts (.instanceMethod yX1_putCell) (List.mem_of_getElem? (i := 42) rfl), hts (.selects RX1 yX1_putCell yX1_putCell) (List.mem_of_getElem? (i := 43) rfl)⟩ (pmV hG (hP.sub (ws' := wT cyI (ad 10) (ad 11) (ad 12) zm) [10, 11, 12] rfl) (hD.sub (ws' := wT cyI (ad 10) (ad 11) (ad 12) zm) [10, 11, 12] (by decide) rfl) (ci := 1) rfl rfl rfl) rfl rfl hl.1 rfl (lv_room (Nat.le_of_ble_eq_true rfl)) dX2_mergeCell_46 ⟨Nat.zero_le _, Nat.zero_le _⟩) hP hD hS hA [10, 11, 12] [0, 1, 2, 3, 4, 5, 6, 7, 8, 9, 13, 14, 15, 16, 17, 18, 19] [0, 1, 2, 3, 4, 5, 6, 7, 8, 9, 17, 18, 19, 10, 11, 12, 13, 14, 15, 16] rfl rfl (by decide) (by decide) (by decide) (w2 := wZ cyI cyZ ad zb zo zt (f_X1_putCell zm p1 p2 (f_X2_mergedCell zb zo zt p1 p2 (zu (p2).toNatClampNeg) (f_X2_cellsAreUnlike zb zo zt p1 p2))) zu zr zl zf) rfl (fun H locs hP hD hS => ?_)
      have hP : va_P D vwCl (wZ cyI cyZ ad zb zo zt (f_X1_putCell zm p1 p2 (f_X2_mergedCell zb zo zt p1 p2 (zu (p2).toNatClampNeg) (f_X2_cellsAreUnlike zb zo zt p1 p2))) zu zr zl zf) H := hP
      have hD : va_D A (wZ cyI cyZ ad zb zo zt (f_X1_putCell zm p1 p2 (f_X2_mergedCell zb zo zt p1 p2 (zu (p2).toNatClampNeg) (f_X2_cellsAreUnlike zb zo zt p1 p2))) zu zr zl zf) := hD
      refine lv_iload_n hx hb dX2_mergeCell_49 rfl (lv_at hl 0 rfl) ?_
      refine lv_if_eq (tgt := 72) hx hb dX2_mergeCell_50 (by decide) (fun c_50 => ?_) (fun c_50 => ?_)
      · have ef : f_X2_mergeCell zb zo zt zm zu zl p1 p2 = ((f_X1_putCell zm p1 p2 (f_X2_mergedCell zb zo zt p1 p2 (zu (p2).toNatClampNeg) (f_X2_cellsAreUnlike zb zo zt p1 p2))), zl) := by rw [f_X2_mergeCell, if_neg c_4, if_neg c_16, if_pos c_50]
        exact W.vret hx hb hr (fun t ht hW => ⟨⟨(), rfl, trivial, by rw [ht, ef]; exact hP, by rw [ef]; exact hD⟩, hS.F ht⟩) hS.2.2 dX2_mergeCell_72
      · refine lv_aload_n hx hb dX2_mergeCell_53 rfl (lv_at hl 1 rfl) ?_
        refine va_get (D := D) (ci := 2) (v := .ref (ad 13)) (C := RX2) (T := TX2) (N := 8) hx hb hts uin_X2_mergeCell_X2 hown hG.1 hP 0 rfl rfl 4 (by decide) (hts (.fieldLink RX2 25 "TableSplice" "rules" "[I") (List.mem_of_getElem? (i := 2) rfl)) (fun _ h9 => h9) rfl dX2_mergeCell_54 ?_
        refine lv_iload_n hx hb dX2_mergeCell_57 rfl (lv_at hl 3 rfl) ?_
        refine va_iald hx hb hG.1 hP 13 0 rfl rfl (in_colnum c_4) dX2_mergeCell_58 ?_
        refine lv_if_ne (tgt := 72) hx hb dX2_mergeCell_59 (by decide) (fun c_59 => ?_) (fun c_59 => ?_)
        · have ef : f_X2_mergeCell zb zo zt zm zu zl p1 p2 = ((f_X1_putCell zm p1 p2 (f_X2_mergedCell zb zo zt p1 p2 (zu (p2).toNatClampNeg) (f_X2_cellsAreUnlike zb zo zt p1 p2))), zl) := by rw [f_X2_mergeCell, if_neg c_4, if_neg c_16, if_neg c_50, if_neg c_59]
          exact W.vret hx hb hr (fun t ht hW => ⟨⟨(), rfl, trivial, by rw [ht, ef]; exact hP, by rw [ef]; exact hD⟩, hS.F ht⟩) hS.2.2 dX2_mergeCell_72
        · refine lv_aload_n hx hb dX2_mergeCell_62 rfl (lv_at hl 1 rfl) ?_
          refine va_get (D := D) (ci := 2) (v := .ref (ad 15)) (C := RX2) (T := TX2) (N := 8) hx hb hts uin_X2_mergeCell_X2 hown hG.1 hP 0 rfl rfl 6 (by decide) (hts (.fieldLink RX2 36 "TableSplice" "list" "LTableSplice$ConflictList;") (List.mem_of_getElem? (i := 3) rfl)) (fun _ h9 => h9) rfl dX2_mergeCell_63 ?_
          refine lv_iconst (v := 1) hx hb dX2_mergeCell_66 (by decide) ?_
          refine lv_iload_n hx hb dX2_mergeCell_67 rfl (lv_at hl 2 rfl) ?_
          refine lv_iload_n hx hb dX2_mergeCell_68 rfl (lv_at hl 3 rfl) ?_
          refine mr_v (va_runVN (As := [.int 1, .int p1, .int p2]) (rest := []) ⟨hx, hb, hml, hown, hts⟩ (k_X0_append l D cyI cyZ (ad 15) (ad 16) (ad 17) (ad 18) (ad 19) zl 1 p1 p2 _ _ rfl hn) ⟨va_cnB 3 hts gX2_mergeCell_X0_append_n256 rfl rfl rfl (hG.2.1 (RX2, 256, yX0_append, "TableSplice") (List.mem_of_getElem? (i := 12) rfl)) (hts (.initialized RX0) (List.mem_of_getElem? (i := 46) rfl)) (by decide +kernel) ⟨Nat.le_of_ble_eq_true rfl, Nat.le_of_ble_eq_true rfl⟩, hts (.instanceMethod yX0_append) (List.mem_of_getElem? (i := 45) rfl), hts (.selects RX0 yX0_append yX0_append) (List.mem_of_getElem? (i := 47) rfl)⟩ (pmV hG (hP.sub (ws' := wL cyI cyZ (ad 15) (ad 16) (ad 17) (ad 18) (ad 19) zl) [15, 16, 17, 18, 19] rfl) (hD.sub (ws' := wL cyI cyZ (ad 15) (ad 16) (ad 17) (ad 18) (ad 19) zl) [15, 16, 17, 18, 19] (by decide) rfl) (ci := 0) rfl rfl rfl) rfl rfl hl.1 rfl (lv_room (Nat.le_of_ble_eq_true rfl)) dX2_mergeCell_69 ⟨Nat.zero_le _, Nat.zero_le _⟩) hP hD hS hA [15, 16, 17, 18, 19] [0, 1, 2, 3, 4, 5, 6, 7, 8, 9, 10, 11, 12, 13, 14] [0, 1, 2, 3, 4, 5, 6, 7, 8, 9, 10, 11, 12, 13, 14, 15, 16, 17, 18, 19] rfl rfl (by decide) (by decide) (by decide) (w2 := wZ cyI cyZ ad zb zo zt (f_X1_putCell zm p1 p2 (f_X2_mergedCell zb zo zt p1 p2 (zu (p2).toNatClampNeg) (f_X2_cellsAreUnlike zb zo zt p1 p2))) zu zr (f_X0_append zl 1 p1 p2) zf) rfl (fun H locs hP hD hS => ?_)
          have hP : va_P D vwCl (wZ cyI cyZ ad zb zo zt (f_X1_putCell zm p1 p2 (f_X2_mergedCell zb zo zt p1 p2 (zu (p2).toNatClampNeg) (f_X2_cellsAreUnlike zb zo zt p1 p2))) zu zr (f_X0_append zl 1 p1 p2) zf) H := hP
          have hD : va_D A (wZ cyI cyZ ad zb zo zt (f_X1_putCell zm p1 p2 (f_X2_mergedCell zb zo zt p1 p2 (zu (p2).toNatClampNeg) (f_X2_cellsAreUnlike zb zo zt p1 p2))) zu zr (f_X0_append zl 1 p1 p2) zf) := hD
          have ef : f_X2_mergeCell zb zo zt zm zu zl p1 p2 = ((f_X1_putCell zm p1 p2 (f_X2_mergedCell zb zo zt p1 p2 (zu (p2).toNatClampNeg) (f_X2_cellsAreUnlike zb zo zt p1 p2))), (f_X0_append zl 1 p1 p2)) := by rw [f_X2_mergeCell, if_neg c_4, if_neg c_16, if_neg c_50, if_pos c_59]
          exact W.vret hx hb hr (fun t ht hW => ⟨⟨(), rfl, trivial, by rw [ht, ef]; exact hP, by rw [ef]; exact hD⟩, hS.F ht⟩) hS.2.2 dX2_mergeCell_72
    · have hS := sw_n (B := A) hS
      have ef : f_X2_mergeCell zb zo zt zm zu zl p1 p2 = (zm, zl) := by rw [f_X2_mergeCell, if_neg c_4, if_pos c_16]
      exact W.vret hx hb hr (fun t ht hW => ⟨⟨(), rfl, trivial, by rw [ht, ef]; exact hP, by rw [ef]; exact hD⟩, hS.F ht⟩) hS.2.2 dX2_mergeCell_19
theorem n_X2_mergeCell {zb : Tr} {zo : Tr} {zt : Tr} {zm : Tr} {zu : Nat → Int32} {zl : Lr} {p1 : Int32} {p2 : Int32} (hn : ¬ zl.1 < 0) : ¬ (f_X2_mergeCell zb zo zt zm zu zl p1 p2).2.1 < 0 := by
  show (fun z : Tr × Lr => ¬ z.2.1 < 0) (f_X2_mergeCell zb zo zt zm zu zl p1 p2)
  rw [f_X2_mergeCell]
  exact (p_ite (P := fun z : Tr × Lr => ¬ z.2.1 < 0) hn (p_ite (P := fun z : Tr × Lr => ¬ z.2.1 < 0) hn (p_ite (P := fun z : Tr × Lr => ¬ z.2.1 < 0) hn (p_ite (P := fun z : Tr × Lr => ¬ z.2.1 < 0) (n_append hn) hn))))
