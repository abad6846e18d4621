def f_X2_listNamesTwice_sa (zm : Tr) (ia : Nat) (zl_a : Lr) : Lr := if (f_X2_hasNameOfLowerColumn zm ia) = 0 then zl_a else (f_X0_append zl_a 5 (-1) (nI ia))
def f_X2_listNamesTwice (zm : Tr) (zl : Lr) : Lr := (it (fun (i9 : Nat) (z9 : Lr) => f_X2_listNamesTwice_sa zm i9 z9) zl 8)
theorem uin_X2_listNamesTwice_X2 : ∀ w ∈ wsX20, w ∈ wsX2_listNamesTwice := fun _ h => List.mem_cons_of_mem _ (List.mem_append_left _ (List.mem_append_left _ (List.mem_append_right _ h)))
theorem uin_X2_listNamesTwice_X1 : ∀ w ∈ wsX10, w ∈ wsX2_listNamesTwice := fun _ h => List.mem_cons_of_mem _ (List.mem_append_left _ (List.mem_append_right _ h))
theorem uin_X2_listNamesTwice_X0 : ∀ w ∈ wsX00, w ∈ wsX2_listNamesTwice := fun _ h => List.mem_cons_of_mem _ (List.mem_append_right _ h)
set_option maxHeartbeats 4000000 in
set_option maxRecDepth 100000 in
theorem k_X2_listNamesTwice (l : Launch) (D : va_G) (cyI cyZ : ClassId) (ad : Nat → Nat) (zb : Tr) (zo : Tr) (zt : Tr) (zm : Tr) (zu : Nat → Int32) (zr : Nat → Int32) (zl : Lr) (zf : Int32) (A : Nat → Prop) (sz : Nat) (hAe : A = va_A (wZ cyI cyZ ad zb zo zt zm zu zr zl zf) sz) (hn : ¬ zl.1 < 0) : Met l yX2_listNamesTwice wsX2_listNamesTwice ({ frames := 3, cells := 0, slots := 0, locals := 64 } : Room) (pcM D cyI cyZ sz [.ref (ad 0)] (wZ cyI cyZ ad zb zo zt zm zu zr zl zf)) (mV D A (wZ cyI cyZ ad zb zo zt zm zu zr (f_X2_listNamesTwice zm zl) zf)) 0 0 A := by
  refine Met.ofW (cc := cX2_listNamesTwice) (maxL := 2) (ret := none) (by decide) rfl ?_
  intro p e s m args below meth c s₁ B hml hv
  obtain ⟨rfl, hsz, hP, hG, hD0⟩ := hv
  have hx := B.exec
  have hb := B.bytes
  have hr := B.returns
  have hts := atoms_spec (ws := wsX2_listNamesTwice) B.pre
  have hown : s.vm.findClass RX2 = some m.cls := findClass_of_methodNamed B.named
  have hlocks := B.notSynchronized
  subst hsz
  have hD : va_D A (wZ cyI cyZ ad zb zo zt zm zu zr zl zf) := by rw [hAe]; exact hD0.self
  have hA : ∀ q : Nat, s.heap.size ≤ q → A q := fun q h => by rw [hAe]; exact Or.inr h
  clear hAe hD0
  have hS : va_S nA s.heap s.heap [] := va_S.rf
  have hl := lv_entry ([.ref (ad 0)]) (n := 2) (Nat.le_of_ble_eq_true rfl)
  rw [lg_entry_eq]
  generalize (lg_sl ([.ref (ad 0)]) ++ List.replicate (2 - (lg_sl ([.ref (ad 0)])).length) Slot.unset).toArray = ls at hl ⊢
  have hl : lv_has ls 2 [(0, .ref (ad 0))] := hl
  have hP : va_P D vwCl (wZ cyI cyZ ad zb zo zt zm zu zr zl zf) s.heap := hP
  refine lv_iconst (v := 0) hx hb dX2_listNamesTwice_0 (by decide) ?_
  refine lv_istore_n (lv' := [(1, .int 0), (0, .ref (ad 0))]) hx hb dX2_listNamesTwice_1 rfl hl (by decide) rfl (fun ls hl => ?_)
  have hS := sw_n (B := A) hS
  have lp_a : ∀ (n ia : Nat), ia + n = 8 → ∀ (zl_a : Lr), zl_a = it (fun (i9 : Nat) (z9 : Lr) => f_X2_listNamesTwice_sa zm i9 z9) zl ia → (¬ zl_a.1 < 0) → ∀ (H : Heap) (locs : List Loc), va_P D vwCl (wZ cyI cyZ ad zb zo zt zm zu zr zl_a zf) H → va_D A (wZ cyI cyZ ad zb zo zt zm zu zr zl_a zf) → va_S A s.heap H locs → ∀ (ls : Array Slot), lv_has ls 2 [(1, .int (nI ia)), (0, .ref (ad 0))] → W p l e (headSpec wsX2_listNamesTwice ({ frames := 3, cells := 0, slots := 0, locals := 64 } : Room)).room s m ([.ref (ad 0)] : List Value).toArray below meth c H locs 0 0 (MQ below (mV D A (wZ cyI cyZ ad zb zo zt zm zu zr (f_X2_listNamesTwice zm zl) zf)) ([.ref (ad 0)] : List Value).toArray s 0 0 A) (F0 m 2 ls []) := by
    intro n
    induction n with
    | zero =>
      intro ia hi_a zl_a hs_a hn_a H locs hP hD hS ls hl
      obtain rfl : 8 = ia := by omega
      obtain rfl : zl_a = it (fun (i9 : Nat) (z9 : Lr) => f_X2_listNamesTwice_sa zm i9 z9) zl 8 := hs_a
      refine lv_iload_n hx hb dX2_listNamesTwice_2 rfl (lv_at hl 0 rfl) ?_
      refine lv_bipush (v := 8) hx hb dX2_listNamesTwice_3 (by decide) ?_
      refine lv_icmp_ge (tgt := 32) hx hb dX2_listNamesTwice_5 (by decide) (fun c_5 => ?_) (fun c_5 => ?_)
      · have ef : f_X2_listNamesTwice zm zl = (it (fun (i9 : Nat) (z9 : Lr) => f_X2_listNamesTwice_sa zm i9 z9) zl 8) := by rw [f_X2_listNamesTwice]
        exact W.vret hx hb hr (fun t ht hW => ⟨⟨(), rfl, trivial, by rw [ht, ef]; exact hP, by rw [ef]; exact hD⟩, hS.F ht⟩) hS.2.2 dX2_listNamesTwice_32
      · exact absurd (by decide) c_5
    | succ n ih_a =>
      intro ia hi_a zl_a hs_a hn_a H locs hP hD hS ls hl
      have hj_a : ia < 8 := by omega
      refine lv_iload_n hx hb dX2_listNamesTwice_2 rfl (lv_at hl 0 rfl) ?_
      refine lv_bipush (v := 8) hx hb dX2_listNamesTwice_3 (by decide) ?_
      refine lv_icmp_ge (tgt := 32) hx hb dX2_listNamesTwice_5 (by decide) (fun c_5 => ?_) (fun c_5 => ?_)
      · exact absurd c_5 (nI_ge hj_a (by decide))
      · refine lv_aload_n hx hb dX2_listNamesTwice_8 rfl (lv_at hl 1 rfl) ?_
        refine lv_iload_n hx hb dX2_listNamesTwice_9 rfl (lv_at hl 0 rfl) ?_
        refine pr_i (va_runV (As := [.int (nI ia)]) (rest := []) ⟨hx, hb, hml, hown, hts⟩ (k_X2_hasNameOfLowerColumn l D cyI cyZ ad zb zo zt zm zu zr zl_a zf ia (by omega)) (cwV 1 hts gX2_listNamesTwice_X2_hasNameOfLowerColumn rfl rfl rfl (by decide +kernel) ⟨Nat.le_of_ble_eq_true rfl, Nat.le_of_ble_eq_true rfl⟩) (prV hG hP (ci := 2) rfl rfl rfl) rfl rfl hl.1 rfl (lv_room (Nat.le_of_ble_eq_true rfl)) dX2_listNamesTwice_10 ⟨Nat.zero_le _, Nat.zero_le _⟩) hS hP (fun H locs hP hS => ?_)
        refine lv_if_eq (tgt := 26) hx hb dX2_listNamesTwice_13 (by decide) (fun c_13 => ?_) (fun c_13 => ?_)
        · refine lv_iinc (v := nI (ia + 1)) (lv' := [(1, .int (nI (ia + 1))), (0, .ref (ad 0))]) hx hb dX2_listNamesTwice_26 hl (k := 0) rfl (nI_1 _) (by decide) rfl (fun ls hl => ?_)
          refine lv_goto (tgt := 2) hx hb dX2_listNamesTwice_29 (by decide) ?_
          exact ih_a (ia + 1) (by omega) zl_a (it_s hs_a (by show f_X2_listNamesTwice_sa zm ia zl_a = _; rw [f_X2_listNamesTwice_sa, if_pos c_13])) hn_a _ _ hP hD hS ls (lv_sub hl [0, 1] rfl)
        · refine lv_aload_n hx hb dX2_listNamesTwice_16 rfl (lv_at hl 1 rfl) ?_
          refine va_get (D := D) (ci := 2) (v := .ref (ad 15)) (C := RX2) (T := TX2) (N := 8) hx hb hts uin_X2_listNamesTwice_X2 hown hG.1 hP 0 rfl rfl 6 (by decide) (hts (.fieldLink RX2 36 "TableSplice" "list" "LTableSplice$ConflictList;") (List.mem_of_getElem? (i := 1) rfl)) (fun _ h9 => h9) rfl dX2_listNamesTwice_17 ?_
          refine lv_iconst (v := 5) hx hb dX2_listNamesTwice_20 (by decide) ?_
          refine lv_iconst (v := (-1)) hx hb dX2_listNamesTwice_21 (by decide) ?_
          refine lv_iload_n hx hb dX2_listNamesTwice_22 rfl (lv_at hl 0 rfl) ?_
          refine mr_v (va_runVN (As := [.int 5, .int (-1), .int (nI ia)]) (rest := []) ⟨hx, hb, hml, hown, hts⟩ (k_X0_append l D cyI cyZ (ad 15) (ad 16) (ad 17) (ad 18) (ad 19) zl_a 5 (-1) (nI ia) _ _ rfl hn_a) ⟨va_cnB 3 hts gX2_listNamesTwice_X0_append_n256 rfl rfl rfl (hG.2.1 (RX2, 256, yX0_append, "TableSplice") (List.mem_of_getElem? (i := 12) rfl)) (hts (.initialized RX0) (List.mem_of_getElem? (i := 19) rfl)) (by decide +kernel) ⟨Nat.le_of_ble_eq_true rfl, Nat.le_of_ble_eq_true rfl⟩, hts (.instanceMethod yX0_append) (List.mem_of_getElem? (i := 18) rfl), hts (.selects RX0 yX0_append yX0_append) (List.mem_of_getElem? (i := 20) rfl)⟩ (pmV hG (hP.sub (ws' := wL cyI cyZ (ad 15) (ad 16) (ad 17) (ad 18) (ad 19) zl_a) [15, 16, 17, 18, 19] rfl) (hD.sub (ws' := wL cyI cyZ (ad 15) (ad 16) (ad 17) (ad 18) (ad 19) zl_a) [15, 16, 17, 18, 19] (by decide) rfl) (ci := 0) rfl rfl rfl) rfl rfl hl.1 rfl (lv_room (Nat.le_of_ble_eq_true rfl)) dX2_listNamesTwice_23 ⟨Nat.zero_le _, Nat.zero_le _⟩) hP hD hS hA [15, 16, 17, 18, 19] [0, 1, 2, 3, 4, 5, 6, 7, 8, 9, 10, 11, 12, 13, 14] [0, 1, 2, 3, 4, 5, 6, 7, 8, 9, 10, 11, 12, 13, 14, 15, 16, 17, 18, 19] rfl rfl (by decide) (by decide) (by decide) (w2 := wZ cyI cyZ ad zb zo zt zm zu zr (f_X0_append zl_a 5 (-1) (nI ia)) zf) rfl (fun H locs hP hD hS => ?_)
          have hP : va_P D vwCl (wZ cyI cyZ ad zb zo zt zm zu zr (f_X0_append zl_a 5 (-1) (nI ia)) zf) H := hP
          have hD : va_D A (wZ cyI cyZ ad zb zo zt zm zu zr (f_X0_append zl_a 5 (-1) (nI ia)) zf) := hD
          refine lv_iinc (v := nI (ia + 1)) (lv' := [(1, .int (nI (ia + 1))), (0, .ref (ad 0))]) hx hb dX2_listNamesTwice_26 hl (k := 0) rfl (nI_1 _) (by decide) rfl (fun ls hl => ?_)
          refine lv_goto (tgt := 2) hx hb dX2_listNamesTwice_29 (by decide) ?_
          exact ih_a (ia + 1) (by omega) (f_X0_append zl_a 5 (-1) (nI ia)) (it_s hs_a (by show f_X2_listNamesTwice_sa zm ia zl_a = _; rw [f_X2_listNamesTwice_sa, if_neg c_13])) (n_append hn_a) _ _ hP hD hS ls (lv_sub hl [0, 1] rfl)
  exact lp_a 8 0 (by omega) zl rfl hn _ _ hP hD hS ls (lv_sub hl [0, 1] rfl)
theorem n_X2_listNamesTwice {zm : Tr} {zl : Lr} (hn : ¬ zl.1 < 0) : ¬ (f_X2_listNamesTwice zm zl).1 < 0 := by
  rw [f_X2_listNamesTwice]
  have h2 := it_P (P := fun z : Lr => ¬ z.1 < 0) (f := fun (i9 : Nat) (z9 : Lr) => f_X2_listNamesTwice_sa zm i9 z9) (s := zl) hn (fun i x h => by show (fun z : Lr => ¬ z.1 < 0) (f_X2_listNamesTwice_sa zm i x); rw [f_X2_listNamesTwice_sa]; first | exact p_ite (P := fun z : Lr => ¬ z.1 < 0) h (n_append h) | exact p_ite (P := fun z : Lr => ¬ z.1 < 0) (n_append h) h) 8
  exact h2
def f_X2_mergeCells_sb (zb : Tr) (zo : Tr) (zt : Tr) (zu : Nat → Int32) (ia : Nat) (ib : Nat) (zm_b : Tr) (zl_b : Lr) : Tr × Lr := (((f_X2_mergeCell zb zo zt zm_b zu zl_b (nI ia) (nI ib)).1), ((f_X2_mergeCell zb zo zt zm_b zu zl_b (nI ia) (nI ib)).2))
def f_X2_mergeCells_sa (zb : Tr) (zo : Tr) (zt : Tr) (zu : Nat → Int32) (ia : Nat) (zm_a : Tr) (zl_a : Lr) : Tr × Lr := (((it (fun (i9 : Nat) (z9 : Tr × Lr) => f_X2_mergeCells_sb zb zo zt zu ia i9 z9.1 z9.2) (zm_a, zl_a) 8).1), ((it (fun (i9 : Nat) (z9 : Tr × Lr) => f_X2_mergeCells_sb zb zo zt zu ia i9 z9.1 z9.2) (zm_a, zl_a) 8).2))
def f_X2_mergeCells (zb : Tr) (zo : Tr) (zt : Tr) (zm : Tr) (zu : Nat → Int32) (zl : Lr) : Tr × Lr := (((it (fun (i9 : Nat) (z9 : Tr × Lr) => f_X2_mergeCells_sa zb zo zt zu i9 z9.1 z9.2) (zm, zl) 24).1), ((it (fun (i9 : Nat) (z9 : Tr × Lr) => f_X2_mergeCells_sa zb zo zt zu i9 z9.1 z9.2) (zm, zl) 24).2))
theorem uin_X2_mergeCells_X2 : ∀ w ∈ wsX20, w ∈ wsX2_mergeCells := fun _ h => List.mem_cons_of_mem _ (List.mem_append_left _ (List.mem_append_left _ (List.mem_append_right _ h)))
theorem uin_X2_mergeCells_X1 : ∀ w ∈ wsX10, w ∈ wsX2_mergeCells := fun _ h => List.mem_cons_of_mem _ (List.mem_append_left _ (List.mem_append_right _ h))
theorem uin_X2_mergeCells_X0 : ∀ w ∈ wsX00, w ∈ wsX2_mergeCells := fun _ h => List.mem_cons_of_mem _ (List.mem_append_right _ h)
set_option maxHeartbeats 4000000 in
set_option maxRecDepth 100000 in
theorem k_X2_mergeCells (l : Launch) (D : va_G) (cyI cyZ : ClassId) (ad : Nat → Nat) (zb : Tr) (zo : Tr) (zt : Tr) (zm : Tr) (zu : Nat → Int32) (zr : Nat → Int32) (zl : Lr) (zf : Int32) (A : Nat → Prop) (sz : Nat) (hAe : A = va_A (wZ cyI cyZ ad zb zo zt zm zu zr zl zf) sz) (hn : ¬ zl.1 < 0) : Met l yX2_mergeCells wsX2_mergeCells ({ frames := 5, cells := 0, slots := 0, locals := 115 } : Room) (pcM D cyI cyZ sz [.ref (ad 0)] (wZ cyI cyZ ad zb zo zt zm zu zr zl zf)) (mV D A (wZ cyI cyZ ad zb zo zt (f_X2_mergeCells zb zo zt zm zu zl).1 zu zr (f_X2_mergeCells zb zo zt zm zu zl).2 zf)) 0 0 A := by
  refine Met.ofW (cc := cX2_mergeCells) (maxL := 3) (ret := none) (by decide) rfl ?_
  intro p e s m args below meth c s₁ B hml hv
  obtain ⟨rfl, hsz, hP, hG, hD0⟩ := hv
  have hx := B.exec
  have hb := B.bytes
  have hr := B.returns
  have hts := atoms_spec (ws := wsX2_mergeCells) B.pre
  have hown : s.vm.findClass RX2 = some m.cls := findClass_of_methodNamed B.named
  have hlocks := B.notSynchronized
  subst hsz
  have hD : va_D A (wZ cyI cyZ ad zb zo zt zm zu zr zl zf) := by rw [hAe]; exact hD0.self
  have hA : ∀ q : Nat, s.heap.size ≤ q → A q := fun q h => by rw [hAe]; exact Or.inr h
  clear hAe hD0
  have hS : va_S nA s.heap s.heap [] := va_S.rf
  have hl := lv_entry ([.ref (ad 0)]) (n := 3) (Nat.le_of_ble_eq_true rfl)
  rw [lg_entry_eq]
  generalize (lg_sl ([.ref (ad 0)]) ++ List.replicate (3 - (lg_sl ([.ref (ad 0)])).length) Slot.unset).toArray = ls at hl ⊢
  have hl : lv_has ls 3 [(0, .ref (ad 0))] := hl
  have hP : va_P D vwCl (wZ cyI cyZ ad zb zo zt zm zu zr zl zf) s.heap := hP
  refine lv_iconst (v := 0) hx hb dX2_mergeCells_0 (by decide) ?_
  refine lv_istore_n (lv' := [(1, .int 0), (0, .ref (ad 0))]) hx hb dX2_mergeCells_1 rfl hl (by decide) rfl (fun ls hl => ?_)
  have hS := sw_n (B := A) hS
  have lp_a : ∀ (n ia : Nat), ia + n = 24 → ∀ (zm_a : Tr) (zl_a : Lr), (zm_a, zl_a) = it (fun (i9 : Nat) (z9 : Tr × Lr) => f_X2_mergeCells_sa zb zo zt zu i9 z9.1 z9.2) (zm, zl) ia → (¬ zl_a.1 < 0) → ∀ (H : Heap) (locs : List Loc), va_P D vwCl (wZ cyI cyZ ad zb zo zt zm_a zu zr zl_a zf) H → va_D A (wZ cyI cyZ ad zb zo zt zm_a zu zr zl_a zf) → va_S A s.heap H locs → ∀ (ls : Array Slot), lv_has ls 3 [(1, .int (nI ia)), (0, .ref (ad 0))] → W p l e (headSpec wsX2_mergeCells ({ frames := 5, cells := 0, slots := 0, locals := 115 } : Room)).room s m ([.ref (ad 0)] : List Value).toArray below meth c H locs 0 0 (MQ below (mV D A (wZ cyI cyZ ad zb zo zt (f_X2_mergeCells zb zo zt zm zu zl).1 zu zr (f_X2_mergeCells zb zo zt zm zu zl).2 zf)) ([.ref (ad 0)] : List Value).toArray s 0 0 A) (F0 m 2 ls []) := by
    intro n
    induction n with
    | zero =>
      intro ia hi_a zm_a zl_a hs_a hn_a H locs hP hD hS ls hl
      obtain rfl : 24 = ia := by omega
      obtain rfl : zm_a = (it (fun (i9 : Nat) (z9 : Tr × Lr) => f_X2_mergeCells_sa zb zo zt zu i9 z9.1 z9.2) (zm, zl) 24).1 := congrArg (fun z => z.1) hs_a
      obtain rfl : zl_a = (it (fun (i9 : Nat) (z9 : Tr × Lr) => f_X2_mergeCells_sa zb zo zt zu i9 z9.1 z9.2) (zm, zl) 24).2 := congrArg (fun z => z.2) hs_a
      refine lv_iload_n hx hb dX2_mergeCells_2 rfl (lv_at hl 0 rfl) ?_
      refine lv_bipush (v := 24) hx hb dX2_mergeCells_3 (by decide) ?_
      refine lv_icmp_ge (tgt := 34) hx hb dX2_mergeCells_5 (by decide) (fun c_5 => ?_) (fun c_5 => ?_)
      · have ef : f_X2_mergeCells zb zo zt zm zu zl = (((it (fun (i9 : Nat) (z9 : Tr × Lr) => f_X2_mergeCells_sa zb zo zt zu i9 z9.1 z9.2) (zm, zl) 24).1), ((it (fun (i9 : Nat) (z9 : Tr × Lr) => f_X2_mergeCells_sa zb zo zt zu i9 z9.1 z9.2) (zm, zl) 24).2)) := by rw [f_X2_mergeCells]
        exact W.vret hx hb hr (fun t ht hW => ⟨⟨(), rfl, trivial, by rw [ht, ef]; exact hP, by rw [ef]; exact hD⟩, hS.F ht⟩) hS.2.2 dX2_mergeCells_34
      · exact absurd (by decide) c_5
    | succ n ih_a =>
      intro ia hi_a zm_a zl_a hs_a hn_a H locs hP hD hS ls hl
      have hj_a : ia < 24 := by omega
      refine lv_iload_n hx hb dX2_mergeCells_2 rfl (lv_at hl 0 rfl) ?_
      refine lv_bipush (v := 24) hx hb dX2_mergeCells_3 (by decide) ?_
      refine lv_icmp_ge (tgt := 34) hx hb dX2_mergeCells_5 (by decide) (fun c_5 => ?_) (fun c_5 => ?_)
      · exact absurd c_5 (nI_ge hj_a (by decide))
      · refine lv_iconst (v := 0) hx hb dX2_mergeCells_8 (by decide) ?_
        refine lv_istore_n (lv' := [(2, .int 0), (1, .int (nI ia)), (0, .ref (ad 0))]) hx hb dX2_mergeCells_9 rfl hl (by decide) rfl (fun ls hl => ?_)
        have lp_b : ∀ (n ib : Nat), ib + n = 8 → ∀ (zm_b : Tr) (zl_b : Lr), (zm_b, zl_b) = it (fun (i9 : Nat) (z9 : Tr × Lr) => f_X2_mergeCells_sb zb zo zt zu ia i9 z9.1 z9.2) (zm_a, zl_a) ib → (¬ zl_b.1 < 0) → ∀ (H : Heap) (locs : List Loc), va_P D vwCl (wZ cyI cyZ ad zb zo zt zm_b zu zr zl_b zf) H → va_D A (wZ cyI cyZ ad zb zo zt zm_b zu zr zl_b zf) → va_S A s.heap H locs → ∀ (ls : Array Slot), lv_has ls 3 [(2, .int (nI ib)), (1, .int (nI ia)), (0, .ref (ad 0))] → W p l e (headSpec wsX2_mergeCells ({ frames := 5, cells := 0, slots := 0, locals := 115 } : Room)).room s m ([.ref (ad 0)] : List Value).toArray below meth c H locs 0 0 (MQ below (mV D A (wZ cyI cyZ ad zb zo zt (f_X2_mergeCells zb zo zt zm zu zl).1 zu zr (f_X2_mergeCells zb zo zt zm zu zl).2 zf)) ([.ref (ad 0)] : List Value).toArray s 0 0 A) (F0 m 10 ls []) := by
          intro n
          induction n with
          | zero =>
            intro ib hi_b zm_b zl_b hs_b hn_b H locs hP hD hS ls hl
            obtain rfl : 8 = ib := by omega
            obtain rfl : zm_b = (it (fun (i9 : Nat) (z9 : Tr × Lr) => f_X2_mergeCells_sb zb zo zt zu ia i9 z9.1 z9.2) (zm_a, zl_a) 8).1 := congrArg (fun z => z.1) hs_b
            obtain rfl : zl_b = (it (fun (i9 : Nat) (z9 : Tr × Lr) => f_X2_mergeCells_sb zb zo zt zu ia i9 z9.1 z9.2) (zm_a, zl_a) 8).2 := congrArg (fun z => z.2) hs_b
            refine lv_iload_n hx hb dX2_mergeCells_10 rfl (lv_at hl 0 rfl) ?_
            refine lv_bipush (v := 8) hx hb dX2_mergeCells_11 (by decide) ?_
            refine lv_icmp_ge (tgt := 28) hx hb dX2_mergeCells_13 (by decide) (fun c_13 => ?_) (fun c_13 => ?_)
            · refine lv_iinc (v := nI (ia + 1)) (lv' := [(1, .int (nI (ia + 1))), (2, .int (nI 8)), (0, .ref (ad 0))]) hx hb dX2_mergeCells_28 hl (k := 1) rfl (nI_1 _) (by decide) rfl (fun ls hl => ?_)
              refine lv_goto (tgt := 2) hx hb dX2_mergeCells_31 (by decide) ?_
              exact ih_a (ia + 1) (by omega) ((it (fun (i9 : Nat) (z9 : Tr × Lr) => f_X2_mergeCells_sb zb zo zt zu ia i9 z9.1 z9.2) (zm_a, zl_a) 8).1) ((it (fun (i9 : Nat) (z9 : Tr × Lr) => f_X2_mergeCells_sb zb zo zt zu ia i9 z9.1 z9.2) (zm_a, zl_a) 8).2) (it_s hs_a (by show f_X2_mergeCells_sa zb zo zt zu ia zm_a zl_a = _; rw [f_X2_mergeCells_sa])) hn_b _ _ hP hD hS ls (lv_sub hl [0, 2] rfl)
            · exact absurd (by decide) c_13
          | succ n ih_b =>
            intro ib hi_b zm_b zl_b hs_b hn_b H locs hP hD hS ls hl
            have hj_b : ib < 8 := by omega
            refine lv_iload_n hx hb dX2_mergeCells_10 rfl (lv_at hl 0 rfl) ?_
            refine lv_bipush (v := 8) hx hb dX2_mergeCells_11 (by decide) ?_
            refine lv_icmp_ge (tgt := 28) hx hb dX2_mergeCells_13 (by decide) (fun c_13 => ?_) (fun c_13 => ?_)
            · exact absurd c_13 (nI_ge hj_b (by decide))
            · refine lv_aload_n hx hb dX2_mergeCells_16 rfl (lv_at hl 2 rfl) ?_
              refine lv_iload_n hx hb dX2_mergeCells_17 rfl (lv_at hl 1 rfl) ?_
              refine lv_iload_n hx hb dX2_mergeCells_18 rfl (lv_at hl 0 rfl) ?_
              refine mr_v0 (va_runV (As := [.int (nI ia), .int (nI ib)]) (rest := []) ⟨hx, hb, hml, hown, hts⟩ (k_X2_mergeCell l D cyI cyZ ad zb zo zt zm_b zu zr zl_b zf (nI ia) (nI ib) _ _ rfl hn_b) (cwV 2 hts gX2_mergeCells_X2_mergeCell rfl rfl rfl (by decide +kernel) ⟨Nat.le_of_ble_eq_true rfl, Nat.le_of_ble_eq_true rfl⟩) (pmV hG hP hD (ci := 2) rfl rfl rfl) rfl rfl hl.1 rfl (lv_room (Nat.le_of_ble_eq_true rfl)) dX2_mergeCells_19 ⟨Nat.zero_le _, Nat.zero_le _⟩) hD hS hA (fun H locs hP hD hS => ?_)
              have hP : va_P D vwCl (wZ cyI cyZ ad zb zo zt ((f_X2_mergeCell zb zo zt zm_b zu zl_b (nI ia) (nI ib)).1) zu zr ((f_X2_mergeCell zb zo zt zm_b zu zl_b (nI ia) (nI ib)).2) zf) H := hP
              have hD : va_D A (wZ cyI cyZ ad zb zo zt ((f_X2_mergeCell zb zo zt zm_b zu zl_b (nI ia) (nI ib)).1) zu zr ((f_X2_mergeCell zb zo zt zm_b zu zl_b (nI ia) (nI ib)).2) zf) := hD
              refine lv_iinc (v := nI (ib + 1)) (lv' := [(2, .int (nI (ib + 1))), (1, .int (nI ia)), (0, .ref (ad 0))]) hx hb dX2_mergeCells_22 hl (k := 0) rfl (nI_1 _) (by decide) rfl (fun ls hl => ?_)
              refine lv_goto (tgt := 10) hx hb dX2_mergeCells_25 (by decide) ?_
              exact ih_b (ib + 1) (by omega) ((f_X2_mergeCell zb zo zt zm_b zu zl_b (nI ia) (nI ib)).1) ((f_X2_mergeCell zb zo zt zm_b zu zl_b (nI ia) (nI ib)).2) (it_s hs_b (by show f_X2_mergeCells_sb zb zo zt zu ia ib zm_b zl_b = _; rw [f_X2_mergeCells_sb])) (n_X2_mergeCell hn_b) _ _ hP hD hS ls (lv_sub hl [0, 1, 2] rfl)
        exact lp_b 8 0 (by omega) zm_a zl_a rfl hn_a _ _ hP hD hS ls (lv_sub hl [0, 1, 2] rfl)
  exact lp_a 24 0 (by omega) zm zl rfl hn _ _ hP hD hS ls (lv_sub hl [0, 1] rfl)
theorem n_X2_mergeCells {zb : Tr} {zo : Tr} {zt : Tr} {zm : Tr} {zu : Nat → Int32} {zl : Lr} (hn : ¬ zl.1 < 0) : ¬ (f_X2_mergeCells zb zo zt zm zu zl).2.1 < 0 := by
  rw [f_X2_mergeCells]
  have h1 : ∀ (i : Nat) (x : Tr × Lr), ¬ x.2.1 < 0 → ¬ (f_X2_mergeCells_sa zb zo zt zu i x.1 x.2).2.1 < 0 := fun i x h => by
    rw [f_X2_mergeCells_sa]
    have h2 := it_P (P := fun z : Tr × Lr => ¬ z.2.1 < 0) (f := fun (i9 : Nat) (z9 : Tr × Lr) => f_X2_mergeCells_sb zb zo zt zu i i9 z9.1 z9.2) (s := (x.1, x.2)) h (fun j y h3 => by
      show ¬ (f_X2_mergeCells_sb zb zo zt zu i j y.1 y.2).2.1 < 0
      rw [f_X2_mergeCells_sb]
      exact n_X2_mergeCell h3) 8
    exact h2
  have h2 := it_P (P := fun z : Tr × Lr => ¬ z.2.1 < 0) (f := fun (i9 : Nat) (z9 : Tr × Lr) => f_X2_mergeCells_sa zb zo zt zu i9 z9.1 z9.2) (s := (zm, zl)) hn (fun i x h => h1 i x h) 24
  exact h2
def f_X2_listReferencesToNoRow_sb (zm : Tr) (zr : Nat → Int32) (ia : Nat) (ib : Nat) (zl_b : Lr) : Lr := if (f_X2_refersToNoRow zm zr (nI ia) (nI ib)) = 0 then zl_b else (f_X0_append zl_b 6 (nI ia) (nI ib))
def f_X2_listReferencesToNoRow_sa (zm : Tr) (zr : Nat → Int32) (ia : Nat) (zl_a : Lr) : Lr := (it (fun (i9 : Nat) (z9 : Lr) => f_X2_listReferencesToNoRow_sb zm zr ia i9 z9) zl_a 8)
def f_X2_listReferencesToNoRow (zm : Tr) (zr : Nat → Int32) (zl : Lr) : Lr := (it (fun (i9 : Nat) (z9 : Lr) => f_X2_listReferencesToNoRow_sa zm zr i9 z9) zl 24)
theorem uin_X2_listReferencesToNoRow_X2 : ∀ w ∈ wsX20, w ∈ wsX2_listReferencesToNoRow := fun _ h => List.mem_cons_of_mem _ (List.mem_append_left _ (List.mem_append_left _ (List.mem_append_right _ h)))
theorem uin_X2_listReferencesToNoRow_X1 : ∀ w ∈ wsX10, w ∈ wsX2_listReferencesToNoRow := fun _ h => List.mem_cons_of_mem _ (List.mem_append_left _ (List.mem_append_right _ h))
theorem uin_X2_listReferencesToNoRow_X0 : ∀ w ∈ wsX00, w ∈ wsX2_listReferencesToNoRow := fun _ h => List.mem_cons_of_mem _ (List.mem_append_right _ h)
set_option maxHeartbeats 4000000 in
set_option maxRecDepth 100000 in
theorem k_X2_listReferencesToNoRow (l : Launch) (D : va_G) (cyI cyZ : ClassId) (ad : Nat → Nat) (zb : Tr) (zo : Tr) (zt : Tr) (zm : Tr) (zu : Nat → Int32) (zr : Nat → Int32) (zl : Lr) (zf : Int32) (A : Nat → Prop) (sz : Nat) (hAe : A = va_A (wZ cyI cyZ ad zb zo zt zm zu zr zl zf) sz) (hn : ¬ zl.1 < 0) : Met l yX2_listReferencesToNoRow wsX2_listReferencesToNoRow ({ frames := 4, cells := 0, slots := 0, locals := 88 } : Room) (pcM D cyI cyZ sz [.ref (ad 0)] (wZ cyI cyZ ad zb zo zt zm zu zr zl zf)) (mV D A (wZ cyI cyZ ad zb zo zt zm zu zr (f_X2_listReferencesToNoRow zm zr zl) zf)) 0 0 A := by
  refine Met.ofW (cc := cX2_listReferencesToNoRow) (maxL := 3) (ret := none) (by decide) rfl ?_
  intro p e s m args below meth c s₁ B hml hv
  obtain ⟨rfl, hsz, hP, hG, hD0⟩ := hv
  have hx := B.exec
  have hb := B.bytes
  have hr := B.returns
  have hts := atoms_spec (ws := wsX2_listReferencesToNoRow) B.pre
  have hown : s.vm.findClass RX2 = some m.cls := findClass_of_methodNamed B.named
  have hlocks := B.notSynchronized
  subst hsz
  have hD : va_D A (wZ cyI cyZ ad zb zo zt zm zu zr zl zf) := by rw [hAe]; exact hD0.self
  have hA : ∀ q : Nat, s.heap.size ≤ q → A q := fun q h => by rw [hAe]; exact Or.inr h
  clear hAe hD0
  have hS : va_S nA s.heap s.heap [] := va_S.rf
  have hl := lv_entry ([.ref (ad 0)]) (n := 3) (Nat.le_of_ble_eq_true rfl)
  rw [lg_entry_eq]
  generalize (lg_sl ([.ref (ad 0)]) ++ List.replicate (3 - (lg_sl ([.ref (ad 0)])).length) Slot.unset).toArray = ls at hl ⊢
  have hl : lv_has ls 3 [(0, .ref (ad 0))] := hl
  have hP : va_P D vwCl (wZ cyI cyZ ad zb zo zt zm zu zr zl zf) s.heap := hP
  refine lv_iconst (v := 0) hx hb dX2_listReferencesToNoRow_0 (by decide) ?_
  refine lv_istore_n (lv' := [(1, .int 0), (0, .ref (ad 0))]) hx hb dX2_listReferencesToNoRow_1 rfl hl (by decide) rfl (fun ls hl => ?_)
  have hS := sw_n (B := A) hS
  have lp_a : ∀ (n ia : Nat), ia + n = 24 → ∀ (zl_a : Lr), zl_a = it (fun (i9 : Nat) (z9 : Lr) => f_X2_listReferencesToNoRow_sa zm zr i9 z9) zl ia → (¬ zl_a.1 < 0) → ∀ (H : Heap) (locs : List Loc), va_P D vwCl (wZ cyI cyZ ad zb zo zt zm zu zr zl_a zf) H → va_D A (wZ cyI cyZ ad zb zo zt zm zu zr zl_a zf) → va_S A s.heap H locs → ∀ (ls : Array Slot), lv_has ls 3 [(1, .int (nI ia)), (0, .ref (ad 0))] → W p l e (headSpec wsX2_listReferencesToNoRow ({ frames := 4, cells := 0, slots := 0, locals := 88 } : Room)).room s m ([.ref (ad 0)] : List Value).toArray below meth c H locs 0 0 (MQ below (mV D A (wZ cyI cyZ ad zb zo zt zm zu zr (f_X2_listReferencesToNoRow zm zr zl) zf)) ([.ref (ad 0)] : List Value).toArray s 0 0 A) (F0 m 2 ls []) := by
    intro n
    induction n with
    | zero =>
      intro ia hi_a zl_a hs_a hn_a H locs hP hD hS ls hl
      obtain rfl : 24 = ia := by omega
      obtain rfl : zl_a = it (fun (i9 : Nat) (z9 : Lr) => f_X2_listReferencesToNoRow_sa zm zr i9 z9) zl 24 := hs_a
      refine lv_iload_n hx hb dX2_listReferencesToNoRow_2 rfl (lv_at hl 0 rfl) ?_
      refine lv_bipush (v := 24) hx hb dX2_listReferencesToNoRow_3 (by decide) ?_
      refine lv_icmp_ge (tgt := 48) hx hb dX2_listReferencesToNoRow_5 (by decide) (fun c_5 => ?_) (fun c_5 => ?_)
      · have ef : f_X2_listReferencesToNoRow zm zr zl = (it (fun (i9 : Nat) (z9 : Lr) => f_X2_listReferencesToNoRow_sa zm zr i9 z9) zl 24) := by rw [f_X2_listReferencesToNoRow]
        exact W.vret hx hb hr (fun t ht hW => ⟨⟨(), rfl, trivial, by rw [ht, ef]; exact hP, by rw [ef]; exact hD⟩, hS.F ht⟩) hS.2.2 dX2_listReferencesToNoRow_48
      · exact absurd (by decide) c_5
    | succ n ih_a =>
      intro ia hi_a zl_a hs_a hn_a H locs hP hD hS ls hl
      have hj_a : ia < 24 := by omega
      refine lv_iload_n hx hb dX2_listReferencesToNoRow_2 rfl (lv_at hl 0 rfl) ?_
      refine lv_bipush (v := 24) hx hb dX2_listReferencesToNoRow_3 (by decide) ?_
      refine lv_icmp_ge (tgt := 48) hx hb dX2_listReferencesToNoRow_5 (by decide) (fun c_5 => ?_) (fun c_5 => ?_)
      · exact absurd c_5 (nI_ge hj_a (by decide))
      · refine lv_iconst (v := 0) hx hb dX2_listReferencesToNoRow_8 (by decide) ?_
        refine lv_istore_n (lv' := [(2, .int 0), (1, .int (nI ia)), (0, .ref (ad 0))]) hx hb dX2_listReferencesToNoRow_9 rfl hl (by decide) rfl (fun ls hl => ?_)
        have lp_b : ∀ (n ib : Nat), ib + n = 8 → ∀ (zl_b : Lr), zl_b = it (fun (i9 : Nat) (z9 : Lr) => f_X2_listReferencesToNoRow_sb zm zr ia i9 z9) zl_a ib → (¬ zl_b.1 < 0) → ∀ (H : Heap) (locs : List Loc), va_P D vwCl (wZ cyI cyZ ad zb zo zt zm zu zr zl_b zf) H → va_D A (wZ cyI cyZ ad zb zo zt zm zu zr zl_b zf) → va_S A s.heap H locs → ∀ (ls : Array Slot), lv_has ls 3 [(2, .int (nI ib)), (1, .int (nI ia)), (0, .ref (ad 0))] → W p l e (headSpec wsX2_listReferencesToNoRow ({ frames := 4, cells := 0, slots := 0, locals := 88 } : Room)).room s m ([.ref (ad 0)] : List Value).toArray below meth c H locs 0 0 (MQ below (mV D A (wZ cyI cyZ ad zb zo zt zm zu zr (f_X2_listReferencesToNoRow zm zr zl) zf)) ([.ref (ad 0)] : List Value).toArray s 0 0 A) (F0 m 10 ls []) := by
          intro n
          induction n with
          | zero =>
            intro ib hi_b zl_b hs_b hn_b H locs hP hD hS ls hl
            obtain rfl : 8 = ib := by omega
            obtain rfl : zl_b = it (fun (i9 : Nat) (z9 : Lr) => f_X2_listReferencesToNoRow_sb zm zr ia i9 z9) zl_a 8 := hs_b
            refine lv_iload_n hx hb dX2_listReferencesToNoRow_10 rfl (lv_at hl 0 rfl) ?_
            refine lv_bipush (v := 8) hx hb dX2_listReferencesToNoRow_11 (by decide) ?_
            refine lv_icmp_ge (tgt := 42) hx hb dX2_listReferencesToNoRow_13 (by decide) (fun c_13 => ?_) (fun c_13 => ?_)
            · refine lv_iinc (v := nI (ia + 1)) (lv' := [(1, .int (nI (ia + 1))), (2, .int (nI 8)), (0, .ref (ad 0))]) hx hb dX2_listReferencesToNoRow_42 hl (k := 1) rfl (nI_1 _) (by decide) rfl (fun ls hl => ?_)
              refine lv_goto (tgt := 2) hx hb dX2_listReferencesToNoRow_45 (by decide) ?_
              exact ih_a (ia + 1) (by omega) (it (fun (i9 : Nat) (z9 : Lr) => f_X2_listReferencesToNoRow_sb zm zr ia i9 z9) zl_a 8) (it_s hs_a (by show f_X2_listReferencesToNoRow_sa zm zr ia zl_a = _; rw [f_X2_listReferencesToNoRow_sa])) hn_b _ _ hP hD hS ls (lv_sub hl [0, 2] rfl)
            · exact absurd (by decide) c_13
          | succ n ih_b =>
            intro ib hi_b zl_b hs_b hn_b H locs hP hD hS ls hl
            have hj_b : ib < 8 := by omega
            refine lv_iload_n hx hb dX2_listReferencesToNoRow_10 rfl (lv_at hl 0 rfl) ?_
            refine lv_bipush (v := 8) hx hb dX2_listReferencesToNoRow_11 (by decide) ?_
            refine lv_icmp_ge (tgt := 42) hx hb dX2_listReferencesToNoRow_13 (by decide) (fun c_13 => ?_) (fun c_13 => ?_)
            · exact absurd c_13 (nI_ge hj_b (by decide))
            · refine lv_aload_n hx hb dX2_listReferencesToNoRow_16 rfl (lv_at hl 2 rfl) ?_
              refine lv_iload_n hx hb dX2_listReferencesToNoRow_17 rfl (lv_at hl 1 rfl) ?_
              refine lv_iload_n hx hb dX2_listReferencesToNoRow_18 rfl (lv_at hl 0 rfl) ?_
              refine pr_i (va_runV (As := [.int (nI ia), .int (nI ib)]) (rest := []) ⟨hx, hb, hml, hown, hts⟩ (k_X2_refersToNoRow l D cyI cyZ ad zb zo zt zm zu zr zl_b zf (nI ia) (nI ib)) (cwV 2 hts gX2_listReferencesToNoRow_X2_refersToNoRow rfl rfl rfl (by decide +kernel) ⟨Nat.le_of_ble_eq_true rfl, Nat.le_of_ble_eq_true rfl⟩) (prV hG hP (ci := 2) rfl rfl rfl) rfl rfl hl.1 rfl (lv_room (Nat.le_of_ble_eq_true rfl)) dX2_listReferencesToNoRow_19 ⟨Nat.zero_le _, Nat.zero_le _⟩) hS hP (fun H locs hP hS => ?_)
              refine lv_if_eq (tgt := 36) hx hb dX2_listReferencesToNoRow_22 (by decide) (fun c_22 => ?_) (fun c_22 => ?_)
              · refine lv_iinc (v := nI (ib + 1)) (lv' := [(2, .int (nI (ib + 1))), (1, .int (nI ia)), (0, .ref (ad 0))]) hx hb dX2_listReferencesToNoRow_36 hl (k := 0) rfl (nI_1 _) (by decide) rfl (fun ls hl => ?_)
                refine lv_goto (tgt := 10) hx hb dX2_listReferencesToNoRow_39 (by decide) ?_
                exact ih_b (ib + 1) (by omega) zl_b (it_s hs_b (by show f_X2_listReferencesToNoRow_sb zm zr ia ib zl_b = _; rw [f_X2_listReferencesToNoRow_sb, if_pos c_22])) hn_b _ _ hP hD hS ls (lv_sub hl [0, 1, 2] rfl)
              · refine lv_aload_n hx hb dX2_listReferencesToNoRow_25 rfl (lv_at hl 2 rfl) ?_
                refine va_get (D := D) (ci := 2) (v := .ref (ad 15)) (C := RX2) (T := TX2) (N := 8) hx hb hts uin_X2_listReferencesToNoRow_X2 hown hG.1 hP 0 rfl rfl 6 (by decide) (hts (.fieldLink RX2 36 "TableSplice" "list" "LTableSplice$ConflictList;") (List.mem_of_getElem? (i := 1) rfl)) (fun _ h9 => h9) rfl dX2_listReferencesToNoRow_26 ?_
                refine lv_bipush (v := 6) hx hb dX2_listReferencesToNoRow_29 (by decide) ?_
                refine lv_iload_n hx hb dX2_listReferencesToNoRow_31 rfl (lv_at hl 1 rfl) ?_
                refine lv_iload_n hx hb dX2_listReferencesToNoRow_32 rfl (lv_at hl 0 rfl) ?_
                refine mr_v (va_runVN (As := [.int 6, .int (nI ia), .int (nI ib)]) (rest := []) ⟨hx, hb, hml, hown, hts⟩ (k_X0_append l D cyI cyZ (ad 15) (ad 16) (ad 17) (ad 18) (ad 19) zl_b 6 (nI ia) (nI ib) _ _ rfl hn_b) ⟨va_cnB 3 hts gX2_listReferencesToNoRow_X0_append_n256 rfl rfl rfl (hG.2.1 (RX2, 256, yX0_append, "TableSplice") (List.mem_of_getElem? (i := 12) rfl)) (hts (.initialized RX0) (List.mem_of_getElem? (i := 32) rfl)) (by decide +kernel) ⟨Nat.le_of_ble_eq_true rfl, Nat.le_of_ble_eq_true rfl⟩, hts (.instanceMethod yX0_append) (List.mem_of_getElem? (i := 31) rfl), hts (.selects RX0 yX0_append yX0_append) (List.mem_of_getElem? (i := 33) rfl)⟩ (pmV hG (hP.sub (ws' := wL cyI cyZ (ad 15) (ad 16) (ad 17) (ad 18) (ad 19) zl_b) [15, 16, 17, 18, 19] rfl) (hD.sub (ws' := wL cyI cyZ (ad 15) (ad 16) (ad 17) (ad 18) (ad 19) zl_b) [15, 16, 17, 18, 19] (by decide) rfl) (ci := 0) rfl rfl rfl) rfl rfl hl.1 rfl (lv_room (Nat.le_of_ble_eq_true rfl)) dX2_listReferencesToNoRow_33 ⟨Nat.zero_le _, Nat.zero_le _⟩) hP hD hS hA [15, 16, 17, 18, 19] [0, 1, 2, 3, 4, 5, 6, 7, 8, 9, 10, 11, 12, 13, 14] [0, 1, 2, 3, 4, 5, 6, 7, 8, 9, 10, 11, 12, 13, 14, 15, 16, 17, 18, 19] rfl rfl (by decide) (by decide) (by decide) (w2 := wZ cyI cyZ ad zb zo zt zm zu zr (f_X0_append zl_b 6 (nI ia) (nI ib)) zf) rfl (fun H locs hP hD hS => ?_)
                have hP : va_P D vwCl (wZ cyI cyZ ad zb zo zt zm zu zr (f_X0_append zl_b 6 (nI ia) (nI ib)) zf) H := hP
                have hD : va_D A (wZ cyI cyZ ad zb zo zt zm zu zr (f_X0_append zl_b 6 (nI ia) (nI ib)) zf) := hD
                refine lv_iinc (v := nI (ib + 1)) (lv' := [(2, .int (nI (ib + 1))), (1, .int (nI ia)), (0, .ref (ad 0))]) hx hb dX2_listReferencesToNoRow_36 hl (k := 0) rfl (nI_1 _) (by decide) rfl (fun ls hl => ?_)
                refine lv_goto (tgt := 10) hx hb dX2_listReferencesToNoRow_39 (by decide) ?_
                exact ih_b (ib + 1) (by omega) (f_X0_append zl_b 6 (nI ia) (nI ib)) (it_s hs_b (by show f_X2_listReferencesToNoRow_sb zm zr ia ib zl_b = _; rw [f_X2_listReferencesToNoRow_sb, if_neg c_22])) (n_append hn_b) _ _ hP hD hS ls (lv_sub hl [0, 1, 2] rfl)
        exact lp_b 8 0 (by omega) zl_a rfl hn_a _ _ hP hD hS ls (lv_sub hl [0, 1, 2] rfl)
  exact lp_a 24 0 (by omega) zl rfl hn _ _ hP hD hS ls (lv_sub hl [0, 1] rfl)
