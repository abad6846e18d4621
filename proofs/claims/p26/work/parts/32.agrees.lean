/-! ===== a conflict of the list ===== -/
theorem x_kOf {zl : Lr} {p1 : Int32} (hq : f_X2_requireConflict_x zl p1 = 0) : f_X2_kindOf_x zl p1 = 0 := by rw [f_X2_kindOf_x, if_pos hq]
theorem x_yOf {zl : Lr} {p1 : Int32} (hq : f_X2_requireConflict_x zl p1 = 0) : f_X2_keyOf_x zl p1 = 0 := by rw [f_X2_keyOf_x, if_pos hq]
theorem x_cOf {zl : Lr} {p1 : Int32} (hq : f_X2_requireConflict_x zl p1 = 0) : f_X2_columnOf_x zl p1 = 0 := by rw [f_X2_columnOf_x, if_pos hq]
set_option maxHeartbeats 4000000 in
set_option maxRecDepth 100000 in
theorem k_L_is (l : Launch) (D : va_G) (cyI cyZ : ClassId) (ad : Nat → Nat) (zb : Tr) (zo : Tr) (zt : Tr) (zm : Tr) (zu : Nat → Int32) (zr : Nat → Int32) (zl : Lr) (zf : Int32) (p1 p2 p3 p4 : Int32) (hq : f_X2_requireConflict_x zl p1 = 0) (hk : f_X2_kindOf zl p1 = p2) (hy : f_X2_keyOf zl p1 = p3) (hc : f_X2_columnOf zl p1 = p4) : Met l yL_is wsL_is ({ frames := 3, cells := 0, slots := 0, locals := 63 } : Room) (pcP D cyI cyZ [.ref (ad 0), .int p1, .int p2, .int p3, .int p4] (wZ cyI cyZ ad zb zo zt zm zu zr zl zf)) (qI 1) 0 0 nA := by
  refine Met.ofW (cc := cL_is) (maxL := 5) (ret := some .boolean) (by decide) rfl ?_
  intro p e s m args below meth c s₁ B hml hv
  obtain ⟨rfl, hP, hG⟩ := hv
  have hx := B.exec
  have hb := B.bytes
  have hr := B.returns
  have hts := atoms_spec (ws := wsL_is) B.pre
  have hown : s.vm.findClass RL = some m.cls := findClass_of_methodNamed B.named
  have hS : va_S nA s.heap s.heap [] := va_S.rf
  have hl := lv_entry ([.ref (ad 0), .int p1, .int p2, .int p3, .int p4]) (n := 5) (Nat.le_of_ble_eq_true rfl)
  rw [lg_entry_eq]
  generalize (lg_sl ([.ref (ad 0), .int p1, .int p2, .int p3, .int p4]) ++ List.replicate (5 - (lg_sl ([.ref (ad 0), .int p1, .int p2, .int p3, .int p4])).length) Slot.unset).toArray = ls at hl ⊢
  have hl : lv_has ls 5 [(0, .ref (ad 0)), (1, .int p1), (2, .int p2), (3, .int p3), (4, .int p4)] := hl
  have hP : va_P D vwCl (wZ cyI cyZ ad zb zo zt zm zu zr zl zf) s.heap := hP
  refine lv_aload_n hx hb dL_is_0 rfl (lv_at hl 0 rfl) ?_
  refine lv_iload_n hx hb dL_is_1 rfl (lv_at hl 1 rfl) ?_
  refine po_i (va_runV (As := [.int p1]) (rest := []) ⟨hx, hb, hml, hown, hts⟩ (k_X2_kindOf l D cyI cyZ ad zb zo zt zm zu zr zl zf p1 (x_kOf hq)) (cwV 1 hts gL_is_X2_kindOf rfl rfl rfl (by decide +kernel) ⟨Nat.le_of_ble_eq_true rfl, Nat.le_of_ble_eq_true rfl⟩) (prV hG hP (ci := 2) rfl rfl rfl) rfl rfl hl.1 rfl (lv_room (Nat.le_of_ble_eq_true rfl)) dL_is_2 ⟨Nat.le_of_ble_eq_true rfl, Nat.le_of_ble_eq_true rfl⟩) hS hP (hk) (fun H locs hP hS => ?_)
  refine lv_iload_n hx hb dL_is_5 rfl (lv_at hl 2 rfl) ?_
  refine lv_icmp_ne (tgt := 32) hx hb dL_is_6 (by decide) (fun c9 => absurd rfl c9) (fun _ => ?_)
  refine lv_aload_n hx hb dL_is_9 rfl (lv_at hl 0 rfl) ?_
  refine lv_iload_n hx hb dL_is_10 rfl (lv_at hl 1 rfl) ?_
  refine po_i (va_runV (As := [.int p1]) (rest := []) ⟨hx, hb, hml, hown, hts⟩ (k_X2_keyOf l D cyI cyZ ad zb zo zt zm zu zr zl zf p1 (x_yOf hq)) (cwV 1 hts gL_is_X2_keyOf rfl rfl rfl (by decide +kernel) ⟨Nat.le_of_ble_eq_true rfl, Nat.le_of_ble_eq_true rfl⟩) (prV hG hP (ci := 2) rfl rfl rfl) rfl rfl hl.1 rfl (lv_room (Nat.le_of_ble_eq_true rfl)) dL_is_11 ⟨Nat.le_of_ble_eq_true rfl, Nat.le_of_ble_eq_true rfl⟩) hS hP (hy) (fun H locs hP hS => ?_)
  refine lv_iload_n hx hb dL_is_14 rfl (lv_at hl 3 rfl) ?_
  refine lv_icmp_ne (tgt := 32) hx hb dL_is_15 (by decide) (fun c9 => absurd rfl c9) (fun _ => ?_)
  refine lv_aload_n hx hb dL_is_18 rfl (lv_at hl 0 rfl) ?_
  refine lv_iload_n hx hb dL_is_19 rfl (lv_at hl 1 rfl) ?_
  refine po_i (va_runV (As := [.int p1]) (rest := []) ⟨hx, hb, hml, hown, hts⟩ (k_X2_columnOf l D cyI cyZ ad zb zo zt zm zu zr zl zf p1 (x_cOf hq)) (cwV 1 hts gL_is_X2_columnOf rfl rfl rfl (by decide +kernel) ⟨Nat.le_of_ble_eq_true rfl, Nat.le_of_ble_eq_true rfl⟩) (prV hG hP (ci := 2) rfl rfl rfl) rfl rfl hl.1 rfl (lv_room (Nat.le_of_ble_eq_true rfl)) dL_is_20 ⟨Nat.le_of_ble_eq_true rfl, Nat.le_of_ble_eq_true rfl⟩) hS hP (hc) (fun H locs hP hS => ?_)
  refine lv_iload hx hb dL_is_23 (lv_at hl 4 rfl) ?_
  refine lv_icmp_ne (tgt := 32) hx hb dL_is_25 (by decide) (fun c9 => absurd rfl c9) (fun _ => ?_)
  refine lv_iconst (v := 1) hx hb dL_is_28 (by decide) ?_
  refine lv_goto (tgt := 33) hx hb dL_is_29 (by decide) ?_
  exact W.zret (v := 1) (ty := .boolean) hx hb hr rfl (fun t ht hW => ⟨⟨1, (), rfl, rfl, trivial⟩, hS.F ht⟩) hS.2.2 dL_is_33
/-! ===== all cells are those that are found by changes ===== -/
theorem x_get3 {zb zo zt zm : Tr} {r c : Nat} (hr : r < 24) (hc : c < 8) (h : cel zm r c = true) : f_X2_get_x zb zo zt zm 3 (nI r) (nI c) = 0 := by
  rw [cel, Bool.and_eq_true] at h
  rw [f_X2_get_x, if_neg (by decide), if_neg (by decide), if_neg (by decide), if_pos rfl, f_X2_requireRowOf_x, f_X2_requireColumnOf_x, c_hasRow hr, c_hasColumn hc, h.1, h.2]
  rfl
theorem x_get3n {zb zo zt zm : Tr} {r c : Nat} (hr : r < 24) (hc : c < 8) (h : ¬ cel zm r c = true) : f_X2_get_x zb zo zt zm 3 (nI r) (nI c) = 1 := by
  rw [cel, Bool.and_eq_true] at h
  rw [f_X2_get_x, if_neg (by decide), if_neg (by decide), if_neg (by decide), if_pos rfl, f_X2_requireRowOf_x, f_X2_requireColumnOf_x, c_hasRow hr, c_hasColumn hc]
  cases e1 : bt zm.2.1 r
  · rfl
  · cases e2 : bt zm.1 c
    · rfl
    · exact absurd ⟨e1, e2⟩ h
theorem v_get3 {zb zo zt zm : Tr} (im : tI zm) {r c : Nat} (hr : r < 24) (hc : c < 8) (h : cel zm r c = true) : f_X2_get zb zo zt zm 3 (nI r) (nI c) = zm.2.2.2 (r * 8 + c) := by
  have k := h
  rw [cel, Bool.and_eq_true] at h
  rw [f_X2_get, if_neg (by decide), if_neg (by decide), if_neg (by decide), if_pos rfl, f_X2_requireRowOf_x, f_X2_requireColumnOf_x, c_hasRow hr, c_hasColumn hc, h.1, h.2]
  exact c_cellAt im hr hc
theorem x_byCh {zb zo zt : Tr} {zu : Nat → Int32} {r c : Nat} (hr : r < 24) (hc : c < 8) : f_X2_cellByChanges_x zb zo zt zu (nI r) (nI c) = 0 := by
  rw [f_X2_cellByChanges_x, rqKey_t (vp_in_nI hr (by decide)), rqCol_t (vp_in_nI hc (by decide)), if_pos rfl, if_pos rfl]
  repeat' split
  all_goals rfl
theorem e_mul (i : Nat) : i / 8 * 8 + i % 8 = i := by omega
set_option maxHeartbeats 4000000 in
set_option maxRecDepth 100000 in
theorem k_L_agrees (l : Launch) (hlt : l.stackTraces = false) (D : va_G) (cyI cyZ : ClassId) (ad : Nat → Nat) (zb : Tr) (zo : Tr) (zt : Tr) (zm : Tr) (zu : Nat → Int32) (zr : Nat → Int32) (zl : Lr) (zf : Int32) (A : Nat → Prop) (sz : Nat) (hAe : A = va_A (wZ cyI cyZ ad zb zo zt zm zu zr zl zf) sz) (i0 : tI zb) (i1 : tI zo) (i2 : tI zt) (hM : MW zb zo zt zu zm) (hV : ∀ r c, r < 24 → c < 8 → cel zm r c = true → ¬ zm.2.2.2 (r * 8 + c) = -20001) : Met l yL_agrees wsL_agrees ({ frames := 9, cells := 192, slots := 1152, locals := 171 } : Room) (pcO D cyI cyZ sz [.ref (ad 0)] (wZ cyI cyZ ad zb zo zt zm zu zr zl zf)) (mI D A (wZ cyI cyZ ad zb zo zt zm zu zr zl zf) 1) 192 1152 A := by
  refine Met.ofW (cc := cL_agrees) (maxL := 3) (ret := some .boolean) (by decide) rfl ?_
  intro p e s m args below meth c s₁ B hml hv
  obtain ⟨rfl, hsz, hP, hG, ⟨hz, hn⟩, hD0⟩ := hv
  have hx := B.exec
  have hb := B.bytes
  have hr := B.returns
  have hts := atoms_spec (ws := wsL_agrees) B.pre
  have hown : s.vm.findClass RL = some m.cls := findClass_of_methodNamed B.named
  subst hsz
  have hD : va_D A (wZ cyI cyZ ad zb zo zt zm zu zr zl zf) := by rw [hAe]; exact hD0.self
  have hA : ∀ q : Nat, s.heap.size ≤ q → A q := fun q h => by rw [hAe]; exact Or.inr h
  rw [← hAe] at hz
  clear hAe hD0
  have hS : va_S A s.heap s.heap [] := va_S.rf
  have hl := lv_entry ([.ref (ad 0)]) (n := 3) (Nat.le_of_ble_eq_true rfl)
  rw [lg_entry_eq]
  generalize (lg_sl ([.ref (ad 0)]) ++ List.replicate (3 - (lg_sl ([.ref (ad 0)])).length) Slot.unset).toArray = ls at hl ⊢
  have hl : lv_has ls 3 [(0, .ref (ad 0))] := hl
  have hP : va_P D vwCl (wZ cyI cyZ ad zb zo zt zm zu zr zl zf) s.heap := hP
  have lp : ∀ (n i : Nat), i + n = 192 → ∀ (H : Heap) (locs : List Loc), va_P D vwCl (wZ cyI cyZ ad zb zo zt zm zu zr zl zf) H → va_D A (wZ cyI cyZ ad zb zo zt zm zu zr zl zf) → va_S A s.heap H locs → ∀ (ls : Array Slot), lv_has ls 3 [(1, .int (nI i)), (0, .ref (ad 0))] → W p l e (headSpec wsL_agrees ({ frames := 9, cells := 192, slots := 1152, locals := 171 } : Room)).room s m ([.ref (ad 0)] : List Value).toArray below meth c H locs i (6 * i) (MQ below (mI D A (wZ cyI cyZ ad zb zo zt zm zu zr zl zf) 1) ([.ref (ad 0)] : List Value).toArray s 192 1152 A) (F0 m 2 ls []) := by
    intro n
    induction n with
    | zero =>
      intro i hi H locs hP hD hS ls hl
      obtain rfl : i = 192 := by omega
      refine lv_iload_n hx hb dL_agrees_2 rfl (lv_at hl 0 rfl) ?_
      refine lv_sipush (v := 192) hx hb dL_agrees_3 (by decide) ?_
      refine lv_icmp_ge (tgt := 61) hx hb dL_agrees_6 (by decide) (fun _ => ?_) (fun c9 => absurd (by decide) c9)
      refine lv_iconst (v := 1) hx hb dL_agrees_61 (by decide) ?_
      exact W.zret (v := 1) (ty := .boolean) hx hb hr rfl (fun t ht hW => ⟨⟨1, (), rfl, rfl, by rw [ht]; exact hP, hD⟩, hS.F ht⟩) hS.2.2 dL_agrees_62
    | succ n ih =>
      intro i hi H locs hP hD hS ls hl
      have hj : i < 192 := by omega
      have hr : i / 8 < 24 := by omega
      have hc : i % 8 < 8 := by omega
      by_cases hm : cel zm (i / 8) (i % 8) = true
      · refine lv_iload_n hx hb dL_agrees_2 rfl (lv_at hl 0 rfl) ?_
        refine lv_sipush (v := 192) hx hb dL_agrees_3 (by decide) ?_
        refine lv_icmp_ge (tgt := 61) hx hb dL_agrees_6 (by decide) (fun c9 => absurd c9 (nI_ge hj (by decide))) (fun _ => ?_)
        refine lv_aload_n hx hb dL_agrees_9 rfl (lv_at hl 1 rfl) ?_
        refine lv_bipush (v := 11) hx hb dL_agrees_10 (by decide) ?_
        refine lv_iconst (v := 3) hx hb dL_agrees_12 (by decide) ?_
        refine lv_iload_n hx hb dL_agrees_13 rfl (lv_at hl 0 rfl) ?_
        refine lv_bipush (v := 8) hx hb dL_agrees_14 (by decide) ?_
        refine lv_idiv hx hb dL_agrees_16 (by decide) ?_
        refine W.eq (g2 := F0 m 17 ls (.int (nI (i / 8)) :: [.int 3, .int 11, .ref (ad 0)])) (congrArg (fun z => F0 m 17 ls (.int z :: [.int 3, .int 11, .ref (ad 0)])) (pk_div (a := i) (d := 8) (by omega) (by decide) (by decide))) ?_
        refine lv_iload_n hx hb dL_agrees_17 rfl (lv_at hl 0 rfl) ?_
        refine lv_bipush (v := 8) hx hb dL_agrees_18 (by decide) ?_
        refine lv_irem hx hb dL_agrees_20 (by decide) ?_
        refine W.eq (g2 := F0 m 21 ls (.int (nI (i % 8)) :: [.int (nI (i / 8)), .int 3, .int 11, .ref (ad 0)])) (congrArg (fun z => F0 m 21 ls (.int z :: [.int (nI (i / 8)), .int 3, .int 11, .ref (ad 0)])) (pk_rem (a := i) (d := 8) (by omega) (by decide) (by decide))) ?_
        refine lv_iconst (v := 0) hx hb dL_agrees_21 (by decide) ?_
        refine mo_i (vx_runSW (As := [.ref (ad 0), .int 11, .int 3, .int (nI (i / 8)), .int (nI (i % 8)), .int 0]) (rest := []) ⟨hx, hb, hml, hown, hts⟩ (k_A11 l D cyI cyZ ad zb zo zt zm zu zr zl zf 3 (nI (i / 8)) (nI (i % 8)) 0 _ _ rfl (x_get3 hr hc hm)) (vx_cwSW 6 hts gL_agrees_L_act rfl rfl rfl (by decide +kernel) ⟨Nat.le_of_ble_eq_true rfl, Nat.le_of_ble_eq_true rfl⟩) (poS hG hz hn hP hD hS hA) rfl rfl hl.1 rfl (lv_room (Nat.le_of_ble_eq_true rfl)) dL_agrees_22 ⟨by show i + 0 ≤ 192; omega, by show 6 * i + 0 ≤ 1152; omega⟩) hD hS hA (v_get3 hM.1 hr hc hm) (wE.rf) (fun H locs hP hD hS => ?_)
        refine W.widen (k := i + 1) (n := 6 * i + 6) (by omega) (by omega) ?_
        refine lv_istore_n (lv' := [(2, .int (zm.2.2.2 (i / 8 * 8 + i % 8))), (1, .int (nI i)), (0, .ref (ad 0))]) hx hb dL_agrees_25 rfl hl (by decide) rfl (fun ls hl => ?_)
        refine lv_aload_n hx hb dL_agrees_26 rfl (lv_at hl 2 rfl) ?_
        refine lv_iload_n hx hb dL_agrees_27 rfl (lv_at hl 1 rfl) ?_
        refine lv_bipush (v := 8) hx hb dL_agrees_28 (by decide) ?_
        refine lv_idiv hx hb dL_agrees_30 (by decide) ?_
        refine W.eq (g2 := F0 m 31 ls (.int (nI (i / 8)) :: [.ref (ad 0)])) (congrArg (fun z => F0 m 31 ls (.int z :: [.ref (ad 0)])) (pk_div (a := i) (d := 8) (by omega) (by decide) (by decide))) ?_
        refine lv_iload_n hx hb dL_agrees_31 rfl (lv_at hl 1 rfl) ?_
        refine lv_bipush (v := 8) hx hb dL_agrees_32 (by decide) ?_
        refine lv_irem hx hb dL_agrees_34 (by decide) ?_
        refine W.eq (g2 := F0 m 35 ls (.int (nI (i % 8)) :: [.int (nI (i / 8)), .ref (ad 0)])) (congrArg (fun z => F0 m 35 ls (.int z :: [.int (nI (i / 8)), .ref (ad 0)])) (pk_rem (a := i) (d := 8) (by omega) (by decide) (by decide))) ?_
        refine po_i (va_runV (As := [.int (nI (i / 8)), .int (nI (i % 8))]) (rest := []) ⟨hx, hb, hml, hown, hts⟩ (k_X2_cellByChanges l D cyI cyZ ad zb zo zt zm zu zr zl zf (nI (i / 8)) (nI (i % 8)) (x_byCh hr hc)) (cwV 2 hts gL_agrees_X2_cellByChanges rfl rfl rfl (by decide +kernel) ⟨Nat.le_of_ble_eq_true rfl, Nat.le_of_ble_eq_true rfl⟩) (prV hG hP (ci := 2) rfl rfl rfl) rfl rfl hl.1 rfl (lv_room (Nat.le_of_ble_eq_true rfl)) dL_agrees_35 ⟨by show i + 1 ≤ 192; omega, by show 6 * i + 6 ≤ 1152; omega⟩) hS hP ((by_MW i0 i1 i2 hM hr hc).trans (if_pos hm)) (fun H locs hP hS => ?_)
        refine lv_iload_n hx hb dL_agrees_38 rfl (lv_at hl 0 rfl) ?_
        refine lv_sipush (v := (-20001)) hx hb dL_agrees_39 (by decide) ?_
        refine lv_icmp_ne (tgt := 49) hx hb dL_agrees_42 (by decide) (fun _ => ?_) (fun c9 => absurd c9 (hV (i / 8) (i % 8) hr hc hm))
        refine lv_iload_n hx hb dL_agrees_49 rfl (lv_at hl 0 rfl) ?_
        refine lv_icmp_eq (tgt := 55) hx hb dL_agrees_50 (by decide) (fun _ => ?_) (fun c9 => absurd rfl c9)
        refine lv_iinc (v := nI (i + 1)) (lv' := [(1, .int (nI (i + 1))), (2, .int (zm.2.2.2 (i / 8 * 8 + i % 8))), (0, .ref (ad 0))]) hx hb dL_agrees_55 hl (k := 1) rfl (nI_1 _) (by decide) rfl (fun ls hl => ?_)
        refine lv_goto (tgt := 2) hx hb dL_agrees_58 (by decide) ?_
        refine W.widen (k := i + 1) (n := 6 * (i + 1)) (by omega) (by omega) ?_
        exact ih (i + 1) (by omega) H locs hP hD hS ls (lv_sub hl [0, 2] rfl)
      · refine lv_iload_n hx hb dL_agrees_2 rfl (lv_at hl 0 rfl) ?_
        refine lv_sipush (v := 192) hx hb dL_agrees_3 (by decide) ?_
        refine lv_icmp_ge (tgt := 61) hx hb dL_agrees_6 (by decide) (fun c9 => absurd c9 (nI_ge hj (by decide))) (fun _ => ?_)
        refine lv_aload_n hx hb dL_agrees_9 rfl (lv_at hl 1 rfl) ?_
        refine lv_bipush (v := 11) hx hb dL_agrees_10 (by decide) ?_
        refine lv_iconst (v := 3) hx hb dL_agrees_12 (by decide) ?_
        refine lv_iload_n hx hb dL_agrees_13 rfl (lv_at hl 0 rfl) ?_
        refine lv_bipush (v := 8) hx hb dL_agrees_14 (by decide) ?_
        refine lv_idiv hx hb dL_agrees_16 (by decide) ?_
        refine W.eq (g2 := F0 m 17 ls (.int (nI (i / 8)) :: [.int 3, .int 11, .ref (ad 0)])) (congrArg (fun z => F0 m 17 ls (.int z :: [.int 3, .int 11, .ref (ad 0)])) (pk_div (a := i) (d := 8) (by omega) (by decide) (by decide))) ?_
        refine lv_iload_n hx hb dL_agrees_17 rfl (lv_at hl 0 rfl) ?_
        refine lv_bipush (v := 8) hx hb dL_agrees_18 (by decide) ?_
        refine lv_irem hx hb dL_agrees_20 (by decide) ?_
        refine W.eq (g2 := F0 m 21 ls (.int (nI (i % 8)) :: [.int (nI (i / 8)), .int 3, .int 11, .ref (ad 0)])) (congrArg (fun z => F0 m 21 ls (.int z :: [.int (nI (i / 8)), .int 3, .int 11, .ref (ad 0)])) (pk_rem (a := i) (d := 8) (by omega) (by decide) (by decide))) ?_
        refine lv_iconst (v := 0) hx hb dL_agrees_21 (by decide) ?_
        refine mo_i (vx_runSW (As := [.ref (ad 0), .int 11, .int 3, .int (nI (i / 8)), .int (nI (i % 8)), .int 0]) (rest := []) ⟨hx, hb, hml, hown, hts⟩ (t_A11_1 l hlt D cyI cyZ ad zb zo zt zm zu zr zl zf 3 (nI (i / 8)) (nI (i % 8)) 0 _ _ rfl (x_get3n hr hc hm)) (vx_cwSW 6 hts gL_agrees_L_act rfl rfl rfl (by decide +kernel) ⟨Nat.le_of_ble_eq_true rfl, Nat.le_of_ble_eq_true rfl⟩) (poS hG hz hn hP hD hS hA) rfl rfl hl.1 rfl (lv_room (Nat.le_of_ble_eq_true rfl)) dL_agrees_22 ⟨by show i + 1 ≤ 192; omega, by show 6 * i + 6 ≤ 1152; omega⟩) hD hS hA (rfl) (wE.rf) (fun H locs hP hD hS => ?_)
        refine W.widen (k := i + 1) (n := 6 * i + 6) (by omega) (by omega) ?_
        refine lv_istore_n (lv' := [(2, .int (-20001)), (1, .int (nI i)), (0, .ref (ad 0))]) hx hb dL_agrees_25 rfl hl (by decide) rfl (fun ls hl => ?_)
        refine lv_aload_n hx hb dL_agrees_26 rfl (lv_at hl 2 rfl) ?_
        refine lv_iload_n hx hb dL_agrees_27 rfl (lv_at hl 1 rfl) ?_
        refine lv_bipush (v := 8) hx hb dL_agrees_28 (by decide) ?_
        refine lv_idiv hx hb dL_agrees_30 (by decide) ?_
        refine W.eq (g2 := F0 m 31 ls (.int (nI (i / 8)) :: [.ref (ad 0)])) (congrArg (fun z => F0 m 31 ls (.int z :: [.ref (ad 0)])) (pk_div (a := i) (d := 8) (by omega) (by decide) (by decide))) ?_
        refine lv_iload_n hx hb dL_agrees_31 rfl (lv_at hl 1 rfl) ?_
        refine lv_bipush (v := 8) hx hb dL_agrees_32 (by decide) ?_
        refine lv_irem hx hb dL_agrees_34 (by decide) ?_
        refine W.eq (g2 := F0 m 35 ls (.int (nI (i % 8)) :: [.int (nI (i / 8)), .ref (ad 0)])) (congrArg (fun z => F0 m 35 ls (.int z :: [.int (nI (i / 8)), .ref (ad 0)])) (pk_rem (a := i) (d := 8) (by omega) (by decide) (by decide))) ?_
        refine po_i (va_runV (As := [.int (nI (i / 8)), .int (nI (i % 8))]) (rest := []) ⟨hx, hb, hml, hown, hts⟩ (k_X2_cellByChanges l D cyI cyZ ad zb zo zt zm zu zr zl zf (nI (i / 8)) (nI (i % 8)) (x_byCh hr hc)) (cwV 2 hts gL_agrees_X2_cellByChanges rfl rfl rfl (by decide +kernel) ⟨Nat.le_of_ble_eq_true rfl, Nat.le_of_ble_eq_true rfl⟩) (prV hG hP (ci := 2) rfl rfl rfl) rfl rfl hl.1 rfl (lv_room (Nat.le_of_ble_eq_true rfl)) dL_agrees_35 ⟨by show i + 1 ≤ 192; omega, by show 6 * i + 6 ≤ 1152; omega⟩) hS hP ((by_MW i0 i1 i2 hM hr hc).trans (if_neg hm)) (fun H locs hP hS => ?_)
        refine lv_iload_n hx hb dL_agrees_38 rfl (lv_at hl 0 rfl) ?_
        refine lv_sipush (v := (-20001)) hx hb dL_agrees_39 (by decide) ?_
        refine lv_icmp_ne (tgt := 49) hx hb dL_agrees_42 (by decide) (fun c9 => absurd (by decide) c9) (fun _ => ?_)
        refine lv_iconst (v := 0) hx hb dL_agrees_45 (by decide) ?_
        refine lv_goto (tgt := 50) hx hb dL_agrees_46 (by decide) ?_
        refine lv_icmp_eq (tgt := 55) hx hb dL_agrees_50 (by decide) (fun _ => ?_) (fun c9 => absurd (by decide) c9)
        refine lv_iinc (v := nI (i + 1)) (lv' := [(1, .int (nI (i + 1))), (2, .int (-20001)), (0, .ref (ad 0))]) hx hb dL_agrees_55 hl (k := 1) rfl (nI_1 _) (by decide) rfl (fun ls hl => ?_)
        refine lv_goto (tgt := 2) hx hb dL_agrees_58 (by decide) ?_
        refine W.widen (k := i + 1) (n := 6 * (i + 1)) (by omega) (by omega) ?_
        exact ih (i + 1) (by omega) H locs hP hD hS ls (lv_sub hl [0, 2] rfl)
  refine lv_iconst (v := 0) hx hb dL_agrees_0 (by decide) ?_
  refine lv_istore_n (lv' := [(1, .int 0), (0, .ref (ad 0))]) hx hb dL_agrees_1 rfl hl (by decide) rfl (fun ls hl => ?_)
  exact lp 192 0 (by omega) s.heap [] hP hD hS ls hl
