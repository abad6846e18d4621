set_option maxHeartbeats 4000000 in
set_option maxRecDepth 100000 in
theorem lA_0 {p : Program} {l : Launch} {e : Env} {s : State} {m : MethodId} {below : List Frame} {meth : Method} {c : Code} {b L : Nat} {xs : Nat → Int32} (C0 : lw_At p s m meth c b L xs) (hlt : l.stackTraces = false) {D : va_G} {cyI cyZ : ClassId} (hG : gP D cyI cyZ s) (hz : zqA (fun q : Nat => s.heap.size ≤ q) s s.heap) (hn : zn s) {ad : Nat → Nat} {zb zo zt zm : Tr} {zl : Lr} {zf : Int32} {j X cn sn : Nat} (hcn : cn ≤ 600000) (hsn : sn ≤ 7000000) (hX9 : X < 16777216)
    (KK : ∀ (H : Heap) (locs : List Loc) (ls : Array Slot), va_P D vwCl (wZ cyI cyZ ad zb zo zt zm (fun _ => 0) (fun _ => 0) zl zf) H → va_D (fun q : Nat => s.heap.size ≤ q) (wZ cyI cyZ ad zb zo zt zm (fun _ => 0) (fun _ => 0) zl zf) → va_S (fun q : Nat => s.heap.size ≤ q) s.heap H locs → lv_has ls 7 [(0, .ref b), (1, .ref (ad 0)), (2, .int (nI j)), (3, .int (nI X)), (4, .int 0), (5, .int (iB (bt zb.2.1 (X / 3 % 24)))), (6, .int (iB (bt zb.1 (X / 72 % 8))))] → W p l e room_1 s m #[Value.ref b] below meth c H locs cn sn (lw_Z below #[Value.ref b] s) (F0 m 133 ls [])) : ∀ (H : Heap) (locs : List Loc) (ls : Array Slot), va_P D vwCl (wZ cyI cyZ ad zb zo zt zm (fun _ => 0) (fun _ => 0) zl zf) H → va_D (fun q : Nat => s.heap.size ≤ q) (wZ cyI cyZ ad zb zo zt zm (fun _ => 0) (fun _ => 0) zl zf) → va_S (fun q : Nat => s.heap.size ≤ q) s.heap H locs → lv_has ls 7 [(0, .ref b), (1, .ref (ad 0)), (2, .int (nI j)), (3, .int (nI X)), (4, .int 0)] → W p l e room_1 s m #[Value.ref b] below meth c H locs cn sn (lw_Z below #[Value.ref b] s) (F0 m 80 ls []) := by
  obtain ⟨hx, hb, hr, hml, hown, hts, hX, hbl, hlocks, hgv⟩ := C0
  have htl : ∀ w ∈ wsL_law, w.before #[Value.ref b] s = true := fun w h => hts w (wsL_law_in w h)
  have hA : ∀ q : Nat, s.heap.size ≤ q → (fun q : Nat => s.heap.size ≤ q) q := fun _ h => h
  have hbA : ¬ (fun q : Nat => s.heap.size ≤ q) b := Nat.not_le.mpr hbl
  intro H locs ls hP hD hS hl
  refine lv_aload_n hx hb dL_law_80 rfl (lv_at hl 1 rfl) ?_
  refine lv_iload hx hb dL_law_81 (lv_at hl 4 rfl) ?_
  refine po_i (va_runV (As := [.int 0]) (rest := []) ⟨hx, hb, hml, hown, htl⟩ (k_X2_rows l D cyI cyZ ad zb zo zt zm (fun _ => 0) (fun _ => 0) zl zf 0 (by decide)) (cwV 1 htl gL_law_X2_rows rfl rfl rfl (by decide +kernel) ⟨Nat.le_of_ble_eq_true rfl, Nat.le_of_ble_eq_true rfl⟩) (prV hG hP (ci := 2) rfl rfl rfl) rfl rfl hl.1 rfl (lv_room (Nat.le_of_ble_eq_true rfl)) dL_law_83 ⟨by show cn + 0 ≤ 692290; omega, by show sn + 0 ≤ 7024755; omega⟩) hS hP (v_rows0) (fun H locs hP hS => ?_)
  refine lv_iload_n hx hb dL_law_86 rfl (lv_at hl 3 rfl) ?_
  refine lv_iconst (v := 3) hx hb dL_law_87 (by decide) ?_
  refine lv_idiv hx hb dL_law_88 (by decide) ?_
  refine W.eq (g2 := F0 m 89 ls (.int (nI (X / 3)) :: [.int zb.2.1])) (congrArg (fun z => F0 m 89 ls (.int z :: [.int zb.2.1])) (pk_div (a := X) (d := 3) (by omega) (by decide) (by decide))) ?_
  refine lv_bipush (v := 24) hx hb dL_law_89 (by decide) ?_
  refine lv_irem hx hb dL_law_91 (by decide) ?_
  refine W.eq (g2 := F0 m 92 ls (.int (nI (X / 3 % 24)) :: [.int zb.2.1])) (congrArg (fun z => F0 m 92 ls (.int z :: [.int zb.2.1])) (pk_rem (a := X / 3) (d := 24) (by omega) (by decide) (by decide))) ?_
  refine lv_ishr hx hb dL_law_92 ?_
  refine lv_iconst (v := 1) hx hb dL_law_93 (by decide) ?_
  refine lv_iand hx hb dL_law_94 ?_
  refine W.eq (g2 := F0 m 95 ls [.int (iB (bt zb.2.1 (X / 3 % 24)))]) (congrArg (fun z => F0 m 95 ls [.int z]) (b_shr (t := zb.2.1) (r := X / 3 % 24) (by omega))) ?_
  refine lv_iconst (v := 1) hx hb dL_law_95 (by decide) ?_
  have K104 : W p l e room_1 s m #[Value.ref b] below meth c H locs cn sn (lw_Z below #[Value.ref b] s) (F0 m 104 ls [.int (iB (bt zb.2.1 (X / 3 % 24)))]) := by
    refine lv_istore (lv' := [(5, .int (iB (bt zb.2.1 (X / 3 % 24)))), (0, .ref b), (1, .ref (ad 0)), (2, .int (nI j)), (3, .int (nI X)), (4, .int 0)]) hx hb dL_law_104 hl (by decide) rfl (fun ls hl => ?_)
    refine lv_aload_n hx hb dL_law_106 rfl (lv_at hl 2 rfl) ?_
    refine lv_iload hx hb dL_law_107 (lv_at hl 5 rfl) ?_
    refine po_i (va_runV (As := [.int 0]) (rest := []) ⟨hx, hb, hml, hown, htl⟩ (k_X2_columns l D cyI cyZ ad zb zo zt zm (fun _ => 0) (fun _ => 0) zl zf 0 (by decide)) (cwV 1 htl gL_law_X2_columns rfl rfl rfl (by decide +kernel) ⟨Nat.le_of_ble_eq_true rfl, Nat.le_of_ble_eq_true rfl⟩) (prV hG hP (ci := 2) rfl rfl rfl) rfl rfl hl.1 rfl (lv_room (Nat.le_of_ble_eq_true rfl)) dL_law_109 ⟨by show cn + 0 ≤ 692290; omega, by show sn + 0 ≤ 7024755; omega⟩) hS hP (v_cols0) (fun H locs hP hS => ?_)
    refine lv_iload_n hx hb dL_law_112 rfl (lv_at hl 4 rfl) ?_
    refine lv_bipush (v := 72) hx hb dL_law_113 (by decide) ?_
    refine lv_idiv hx hb dL_law_115 (by decide) ?_
    refine W.eq (g2 := F0 m 116 ls (.int (nI (X / 72)) :: [.int zb.1])) (congrArg (fun z => F0 m 116 ls (.int z :: [.int zb.1])) (pk_div (a := X) (d := 72) (by omega) (by decide) (by decide))) ?_
    refine lv_bipush (v := 8) hx hb dL_law_116 (by decide) ?_
    refine lv_irem hx hb dL_law_118 (by decide) ?_
    refine W.eq (g2 := F0 m 119 ls (.int (nI (X / 72 % 8)) :: [.int zb.1])) (congrArg (fun z => F0 m 119 ls (.int z :: [.int zb.1])) (pk_rem (a := X / 72) (d := 8) (by omega) (by decide) (by decide))) ?_
    refine lv_ishr hx hb dL_law_119 ?_
    refine lv_iconst (v := 1) hx hb dL_law_120 (by decide) ?_
    refine lv_iand hx hb dL_law_121 ?_
    refine W.eq (g2 := F0 m 122 ls [.int (iB (bt zb.1 (X / 72 % 8)))]) (congrArg (fun z => F0 m 122 ls [.int z]) (b_shr (t := zb.1) (r := X / 72 % 8) (by omega))) ?_
    refine lv_iconst (v := 1) hx hb dL_law_122 (by decide) ?_
    have K131 : W p l e room_1 s m #[Value.ref b] below meth c H locs cn sn (lw_Z below #[Value.ref b] s) (F0 m 131 ls [.int (iB (bt zb.1 (X / 72 % 8)))]) := by
      refine lv_istore (lv' := [(6, .int (iB (bt zb.1 (X / 72 % 8)))), (5, .int (iB (bt zb.2.1 (X / 3 % 24)))), (0, .ref b), (1, .ref (ad 0)), (2, .int (nI j)), (3, .int (nI X)), (4, .int 0)]) hx hb dL_law_131 hl (by decide) rfl (fun ls hl => ?_)
      exact KK H locs ls hP hD hS (lv_sub hl [2, 3, 4, 5, 6, 1, 0] rfl)
    by_cases hq : bt zb.1 (X / 72 % 8) = true
    · refine lv_icmp_ne (tgt := 130) hx hb dL_law_123 (by decide) (fun c9 => absurd (iB_t hq) c9) (fun _ => ?_)
      refine lv_iconst (v := 1) hx hb dL_law_126 (by decide) ?_
      refine lv_goto (tgt := 131) hx hb dL_law_127 (by decide) ?_
      rw [iB_t hq] at K131
      exact K131
    · refine lv_icmp_ne (tgt := 130) hx hb dL_law_123 (by decide) (fun _ => ?_) (fun c9 => absurd c9 (fun z => by rw [iB_f (nf hq)] at z; exact absurd z (by decide)))
      refine lv_iconst (v := 0) hx hb dL_law_130 (by decide) ?_
      rw [iB_f (nf hq)] at K131
      exact K131
  by_cases hq : bt zb.2.1 (X / 3 % 24) = true
  · refine lv_icmp_ne (tgt := 103) hx hb dL_law_96 (by decide) (fun c9 => absurd (iB_t hq) c9) (fun _ => ?_)
    refine lv_iconst (v := 1) hx hb dL_law_99 (by decide) ?_
    refine lv_goto (tgt := 104) hx hb dL_law_100 (by decide) ?_
    rw [iB_t hq] at K104
    exact K104
  · refine lv_icmp_ne (tgt := 103) hx hb dL_law_96 (by decide) (fun _ => ?_) (fun c9 => absurd c9 (fun z => by rw [iB_f (nf hq)] at z; exact absurd z (by decide)))
    refine lv_iconst (v := 0) hx hb dL_law_103 (by decide) ?_
    rw [iB_f (nf hq)] at K104
    exact K104
set_option maxHeartbeats 4000000 in
set_option maxRecDepth 100000 in
theorem lB_0 {p : Program} {l : Launch} {e : Env} {s : State} {m : MethodId} {below : List Frame} {meth : Method} {c : Code} {b L : Nat} {xs : Nat → Int32} (C0 : lw_At p s m meth c b L xs) (hlt : l.stackTraces = false) {D : va_G} {cyI cyZ : ClassId} (hG : gP D cyI cyZ s) (hz : zqA (fun q : Nat => s.heap.size ≤ q) s s.heap) (hn : zn s) {ad : Nat → Nat} {zb zo zt zm : Tr} {zl : Lr} {zf : Int32} {j X cn sn : Nat} {h5 h6 : Int32} (hcn : cn ≤ 600000) (hsn : sn ≤ 7000000) (hX9 : X < 16777216) (e5 : h5 = iB (bt zb.2.1 (X / 3 % 24))) (it : tI zb) (kt : NN zb)
    (KK : ∀ (t9 : Tr) (f9 : Int32), GR zb t9 → bt t9.2.1 (X / 3 % 24) = true → t9.1 = zb.1 → ∀ (H : Heap) (locs : List Loc) (ls : Array Slot), va_P D vwCl (wZ cyI cyZ ad t9 zo zt zm (fun _ => 0) (fun _ => 0) zl f9) H → va_D (fun q : Nat => s.heap.size ≤ q) (wZ cyI cyZ ad t9 zo zt zm (fun _ => 0) (fun _ => 0) zl f9) → va_S (fun q : Nat => s.heap.size ≤ q) s.heap H locs → lv_has ls 7 [(0, .ref b), (1, .ref (ad 0)), (2, .int (nI j)), (3, .int (nI X)), (4, .int 0), (5, .int h5), (6, .int h6)] → W p l e room_1 s m #[Value.ref b] below meth c H locs (cn + 1) (sn + 6) (lw_Z below #[Value.ref b] s) (F0 m 161 ls [])) : ∀ (H : Heap) (locs : List Loc) (ls : Array Slot), va_P D vwCl (wZ cyI cyZ ad zb zo zt zm (fun _ => 0) (fun _ => 0) zl zf) H → va_D (fun q : Nat => s.heap.size ≤ q) (wZ cyI cyZ ad zb zo zt zm (fun _ => 0) (fun _ => 0) zl zf) → va_S (fun q : Nat => s.heap.size ≤ q) s.heap H locs → lv_has ls 7 [(0, .ref b), (1, .ref (ad 0)), (2, .int (nI j)), (3, .int (nI X)), (4, .int 0), (5, .int h5), (6, .int h6)] → W p l e room_1 s m #[Value.ref b] below meth c H locs cn sn (lw_Z below #[Value.ref b] s) (F0 m 133 ls []) := by
  obtain ⟨hx, hb, hr, hml, hown, hts, hX, hbl, hlocks, hgv⟩ := C0
  have htl : ∀ w ∈ wsL_law, w.before #[Value.ref b] s = true := fun w h => hts w (wsL_law_in w h)
  have hA : ∀ q : Nat, s.heap.size ≤ q → (fun q : Nat => s.heap.size ≤ q) q := fun _ h => h
  have hbA : ¬ (fun q : Nat => s.heap.size ≤ q) b := Nat.not_le.mpr hbl
  have hr : X / 3 % 24 < 24 := by omega
  have hc : X / 72 % 8 < 8 := by omega
  have hk : X % 100 < 100 := by omega
  intro H locs ls hP hD hS hl
  by_cases hq : bt zb.2.1 (X / 3 % 24) = true
  · refine lv_aload_n hx hb dL_law_133 rfl (lv_at hl 1 rfl) ?_
    refine lv_iconst (v := 3) hx hb dL_law_134 (by decide) ?_
    refine lv_iload hx hb dL_law_135 (lv_at hl 4 rfl) ?_
    refine lv_iload_n hx hb dL_law_137 rfl (lv_at hl 3 rfl) ?_
    refine lv_iconst (v := 3) hx hb dL_law_138 (by decide) ?_
    refine lv_idiv hx hb dL_law_139 (by decide) ?_
    refine W.eq (g2 := F0 m 140 ls (.int (nI (X / 3)) :: [.int 0, .int 3, .ref (ad 0)])) (congrArg (fun z => F0 m 140 ls (.int z :: [.int 0, .int 3, .ref (ad 0)])) (pk_div (a := X) (d := 3) (by omega) (by decide) (by decide))) ?_
    refine lv_bipush (v := 24) hx hb dL_law_140 (by decide) ?_
    refine lv_irem hx hb dL_law_142 (by decide) ?_
    refine W.eq (g2 := F0 m 143 ls (.int (nI (X / 3 % 24)) :: [.int 0, .int 3, .ref (ad 0)])) (congrArg (fun z => F0 m 143 ls (.int z :: [.int 0, .int 3, .ref (ad 0)])) (pk_rem (a := X / 3) (d := 24) (by omega) (by decide) (by decide))) ?_
    refine lv_iconst (v := 0) hx hb dL_law_143 (by decide) ?_
    refine lv_iconst (v := 0) hx hb dL_law_144 (by decide) ?_
    refine mo_i (vx_runSW (As := [.ref (ad 0), .int 3, .int 0, .int (nI (X / 3 % 24)), .int 0, .int 0]) (rest := []) ⟨hx, hb, hml, hown, htl⟩ (t_A3_3 l hlt D cyI cyZ ad zb zo zt zm (fun _ => 0) (fun _ => 0) zl zf 0 (nI (X / 3 % 24)) 0 0 _ _ rfl ((x_ar0 hr).trans (if_pos hq))) (vx_cwSW 6 htl gL_law_L_act rfl rfl rfl (by decide +kernel) ⟨Nat.le_of_ble_eq_true rfl, Nat.le_of_ble_eq_true rfl⟩) (poS hG hz hn hP hD hS hA) rfl rfl hl.1 rfl (lv_room (Nat.le_of_ble_eq_true rfl)) dL_law_145 ⟨by show cn + 1 ≤ 692290; omega, by show sn + 6 ≤ 7024755; omega⟩) hD hS hA (rfl) (wE.rf) (fun H locs hP hD hS => ?_)
    refine lv_if_ge (tgt := 155) hx hb dL_law_148 (by decide) (fun c9 => absurd c9 (by decide)) (fun _ => ?_)
    refine lv_iconst (v := 1) hx hb dL_law_151 (by decide) ?_
    refine lv_goto (tgt := 156) hx hb dL_law_152 (by decide) ?_
    refine lv_iload hx hb dL_law_156 (lv_at hl 5 rfl) ?_
    refine lv_icmp_ne (tgt := 253) hx hb dL_law_158 (by decide) (fun c9 => absurd (show (1 : Int32) = h5 from (e5.trans (iB_t hq)).symm) c9) (fun _ => ?_)
    refine W.widen (k := cn + 1) (n := sn + 6) (by omega) (by omega) ?_
    exact KK zb zf (GR.rf it kt) hq rfl H locs ls hP hD hS (lv_sub hl [0, 1, 2, 3, 4, 5, 6] rfl)
  · refine lv_aload_n hx hb dL_law_133 rfl (lv_at hl 1 rfl) ?_
    refine lv_iconst (v := 3) hx hb dL_law_134 (by decide) ?_
    refine lv_iload hx hb dL_law_135 (lv_at hl 4 rfl) ?_
    refine lv_iload_n hx hb dL_law_137 rfl (lv_at hl 3 rfl) ?_
    refine lv_iconst (v := 3) hx hb dL_law_138 (by decide) ?_
    refine lv_idiv hx hb dL_law_139 (by decide) ?_
    refine W.eq (g2 := F0 m 140 ls (.int (nI (X / 3)) :: [.int 0, .int 3, .ref (ad 0)])) (congrArg (fun z => F0 m 140 ls (.int z :: [.int 0, .int 3, .ref (ad 0)])) (pk_div (a := X) (d := 3) (by omega) (by decide) (by decide))) ?_
    refine lv_bipush (v := 24) hx hb dL_law_140 (by decide) ?_
    refine lv_irem hx hb dL_law_142 (by decide) ?_
    refine W.eq (g2 := F0 m 143 ls (.int (nI (X / 3 % 24)) :: [.int 0, .int 3, .ref (ad 0)])) (congrArg (fun z => F0 m 143 ls (.int z :: [.int 0, .int 3, .ref (ad 0)])) (pk_rem (a := X / 3) (d := 24) (by omega) (by decide) (by decide))) ?_
    refine lv_iconst (v := 0) hx hb dL_law_143 (by decide) ?_
    refine lv_iconst (v := 0) hx hb dL_law_144 (by decide) ?_
    refine mo_i (vx_runSW (As := [.ref (ad 0), .int 3, .int 0, .int (nI (X / 3 % 24)), .int 0, .int 0]) (rest := []) ⟨hx, hb, hml, hown, htl⟩ (k_A3 l D cyI cyZ ad zb zo zt zm (fun _ => 0) (fun _ => 0) zl zf 0 (nI (X / 3 % 24)) 0 0 _ _ rfl ((x_ar0 hr).trans (if_neg hq))) (vx_cwSW 6 htl gL_law_L_act rfl rfl rfl (by decide +kernel) ⟨Nat.le_of_ble_eq_true rfl, Nat.le_of_ble_eq_true rfl⟩) (poS hG hz hn hP hD hS hA) rfl rfl hl.1 rfl (lv_room (Nat.le_of_ble_eq_true rfl)) dL_law_145 ⟨by show cn + 0 ≤ 692290; omega, by show sn + 0 ≤ 7024755; omega⟩) hD hS hA (by rw [v_ar0 hr hq]) ((wE_eq (by rw [v_ar0 hr hq]) : wE _ (wZ cyI cyZ ad (f_X1_putRow zb (nI (X / 3 % 24))) zo zt zm (fun _ => 0) (fun _ => 0) zl 0))) (fun H locs hP hD hS => ?_)
    refine lv_if_ge (tgt := 155) hx hb dL_law_148 (by decide) (fun _ => ?_) (fun c9 => absurd (Int32.not_lt.mp (nn_rc (tI_putRow it hr))) c9)
    refine lv_iconst (v := 0) hx hb dL_law_155 (by decide) ?_
    refine lv_iload hx hb dL_law_156 (lv_at hl 5 rfl) ?_
    refine lv_icmp_ne (tgt := 253) hx hb dL_law_158 (by decide) (fun c9 => absurd (show (0 : Int32) = h5 from (e5.trans (iB_f (nf hq))).symm) c9) (fun _ => ?_)
    refine W.widen (k := cn + 1) (n := sn + 6) (by omega) (by omega) ?_
    exact KK (f_X1_putRow zb (nI (X / 3 % 24))) 0 (g_row it kt hr) (g_row_h hr) (by rw [c_putRow hr]) H locs ls hP hD hS (lv_sub hl [0, 1, 2, 3, 4, 5, 6] rfl)
set_option maxHeartbeats 4000000 in
set_option maxRecDepth 100000 in
theorem lC_0 {p : Program} {l : Launch} {e : Env} {s : State} {m : MethodId} {below : List Frame} {meth : Method} {c : Code} {b L : Nat} {xs : Nat → Int32} (C0 : lw_At p s m meth c b L xs) (hlt : l.stackTraces = false) {D : va_G} {cyI cyZ : ClassId} (hG : gP D cyI cyZ s) (hz : zqA (fun q : Nat => s.heap.size ≤ q) s s.heap) (hn : zn s) {ad : Nat → Nat} {zb zo zt zm : Tr} {zl : Lr} {zf : Int32} {j X cn sn : Nat} {h5 h6 : Int32} (hcn : cn ≤ 600000) (hsn : sn ≤ 7000000) (hX9 : X < 16777216) (e6 : h6 = iB (bt zb.1 (X / 72 % 8))) (it : tI zb) (kt : NN zb)
    (KK : ∀ (t9 : Tr) (f9 : Int32), GR zb t9 → bt t9.1 (X / 72 % 8) = true → ∀ (H : Heap) (locs : List Loc) (ls : Array Slot), va_P D vwCl (wZ cyI cyZ ad t9 zo zt zm (fun _ => 0) (fun _ => 0) zl f9) H → va_D (fun q : Nat => s.heap.size ≤ q) (wZ cyI cyZ ad t9 zo zt zm (fun _ => 0) (fun _ => 0) zl f9) → va_S (fun q : Nat => s.heap.size ≤ q) s.heap H locs → lv_has ls 7 [(0, .ref b), (1, .ref (ad 0)), (2, .int (nI j)), (3, .int (nI X)), (4, .int 0), (5, .int h5), (6, .int h6)] → W p l e room_1 s m #[Value.ref b] below meth c H locs (cn + 1) (sn + 6) (lw_Z below #[Value.ref b] s) (F0 m 193 ls [])) : ∀ (H : Heap) (locs : List Loc) (ls : Array Slot), va_P D vwCl (wZ cyI cyZ ad zb zo zt zm (fun _ => 0) (fun _ => 0) zl zf) H → va_D (fun q : Nat => s.heap.size ≤ q) (wZ cyI cyZ ad zb zo zt zm (fun _ => 0) (fun _ => 0) zl zf) → va_S (fun q : Nat => s.heap.size ≤ q) s.heap H locs → lv_has ls 7 [(0, .ref b), (1, .ref (ad 0)), (2, .int (nI j)), (3, .int (nI X)), (4, .int 0), (5, .int h5), (6, .int h6)] → W p l e room_1 s m #[Value.ref b] below meth c H locs cn sn (lw_Z below #[Value.ref b] s) (F0 m 161 ls []) := by
  obtain ⟨hx, hb, hr, hml, hown, hts, hX, hbl, hlocks, hgv⟩ := C0
  have htl : ∀ w ∈ wsL_law, w.before #[Value.ref b] s = true := fun w h => hts w (wsL_law_in w h)
  have hA : ∀ q : Nat, s.heap.size ≤ q → (fun q : Nat => s.heap.size ≤ q) q := fun _ h => h
  have hbA : ¬ (fun q : Nat => s.heap.size ≤ q) b := Nat.not_le.mpr hbl
  have hr : X / 3 % 24 < 24 := by omega
  have hc : X / 72 % 8 < 8 := by omega
  have hk : X % 100 < 100 := by omega
  intro H locs ls hP hD hS hl
  by_cases hq : bt zb.1 (X / 72 % 8) = true
  · refine lv_aload_n hx hb dL_law_161 rfl (lv_at hl 1 rfl) ?_
    refine lv_iconst (v := 0) hx hb dL_law_162 (by decide) ?_
    refine lv_iload hx hb dL_law_163 (lv_at hl 4 rfl) ?_
    refine lv_iload_n hx hb dL_law_165 rfl (lv_at hl 3 rfl) ?_
    refine lv_bipush (v := 72) hx hb dL_law_166 (by decide) ?_
    refine lv_idiv hx hb dL_law_168 (by decide) ?_
    refine W.eq (g2 := F0 m 169 ls (.int (nI (X / 72)) :: [.int 0, .int 0, .ref (ad 0)])) (congrArg (fun z => F0 m 169 ls (.int z :: [.int 0, .int 0, .ref (ad 0)])) (pk_div (a := X) (d := 72) (by omega) (by decide) (by decide))) ?_
    refine lv_bipush (v := 8) hx hb dL_law_169 (by decide) ?_
    refine lv_irem hx hb dL_law_171 (by decide) ?_
    refine W.eq (g2 := F0 m 172 ls (.int (nI (X / 72 % 8)) :: [.int 0, .int 0, .ref (ad 0)])) (congrArg (fun z => F0 m 172 ls (.int z :: [.int 0, .int 0, .ref (ad 0)])) (pk_rem (a := X / 72) (d := 8) (by omega) (by decide) (by decide))) ?_
    refine lv_iload_n hx hb dL_law_172 rfl (lv_at hl 3 rfl) ?_
    refine lv_bipush (v := 100) hx hb dL_law_173 (by decide) ?_
    refine lv_irem hx hb dL_law_175 (by decide) ?_
    refine W.eq (g2 := F0 m 176 ls (.int (nI (X % 100)) :: [.int (nI (X / 72 % 8)), .int 0, .int 0, .ref (ad 0)])) (congrArg (fun z => F0 m 176 ls (.int z :: [.int (nI (X / 72 % 8)), .int 0, .int 0, .ref (ad 0)])) (pk_rem (a := X) (d := 100) (by omega) (by decide) (by decide))) ?_
    refine lv_iconst (v := 0) hx hb dL_law_176 (by decide) ?_
    refine mo_i (vx_runSW (As := [.ref (ad 0), .int 0, .int 0, .int (nI (X / 72 % 8)), .int (nI (X % 100)), .int 0]) (rest := []) ⟨hx, hb, hml, hown, htl⟩ (t_A0_3 l hlt D cyI cyZ ad zb zo zt zm (fun _ => 0) (fun _ => 0) zl zf 0 (nI (X / 72 % 8)) (nI (X % 100)) 0 _ _ rfl ((x_ac0 hc hk).trans (if_pos hq))) (vx_cwSW 6 htl gL_law_L_act rfl rfl rfl (by decide +kernel) ⟨Nat.le_of_ble_eq_true rfl, Nat.le_of_ble_eq_true rfl⟩) (poS hG hz hn hP hD hS hA) rfl rfl hl.1 rfl (lv_room (Nat.le_of_ble_eq_true rfl)) dL_law_177 ⟨by show cn + 1 ≤ 692290; omega, by show sn + 6 ≤ 7024755; omega⟩) hD hS hA (rfl) (wE.rf) (fun H locs hP hD hS => ?_)
    refine lv_if_ge (tgt := 187) hx hb dL_law_180 (by decide) (fun c9 => absurd c9 (by decide)) (fun _ => ?_)
    refine lv_iconst (v := 1) hx hb dL_law_183 (by decide) ?_
    refine lv_goto (tgt := 188) hx hb dL_law_184 (by decide) ?_
    refine lv_iload hx hb dL_law_188 (lv_at hl 6 rfl) ?_
    refine lv_icmp_ne (tgt := 253) hx hb dL_law_190 (by decide) (fun c9 => absurd (show (1 : Int32) = h6 from (e6.trans (iB_t hq)).symm) c9) (fun _ => ?_)
    refine W.widen (k := cn + 1) (n := sn + 6) (by omega) (by omega) ?_
    exact KK zb zf (GR.rf it kt) hq H locs ls hP hD hS (lv_sub hl [0, 1, 2, 3, 4, 5, 6] rfl)
  · refine lv_aload_n hx hb dL_law_161 rfl (lv_at hl 1 rfl) ?_
    refine lv_iconst (v := 0) hx hb dL_law_162 (by decide) ?_
    refine lv_iload hx hb dL_law_163 (lv_at hl 4 rfl) ?_
    refine lv_iload_n hx hb dL_law_165 rfl (lv_at hl 3 rfl) ?_
    refine lv_bipush (v := 72) hx hb dL_law_166 (by decide) ?_
    refine lv_idiv hx hb dL_law_168 (by decide) ?_
    refine W.eq (g2 := F0 m 169 ls (.int (nI (X / 72)) :: [.int 0, .int 0, .ref (ad 0)])) (congrArg (fun z => F0 m 169 ls (.int z :: [.int 0, .int 0, .ref (ad 0)])) (pk_div (a := X) (d := 72) (by omega) (by decide) (by decide))) ?_
    refine lv_bipush (v := 8) hx hb dL_law_169 (by decide) ?_
    refine lv_irem hx hb dL_law_171 (by decide) ?_
    refine W.eq (g2 := F0 m 172 ls (.int (nI (X / 72 % 8)) :: [.int 0, .int 0, .ref (ad 0)])) (congrArg (fun z => F0 m 172 ls (.int z :: [.int 0, .int 0, .ref (ad 0)])) (pk_rem (a := X / 72) (d := 8) (by omega) (by decide) (by decide))) ?_
    refine lv_iload_n hx hb dL_law_172 rfl (lv_at hl 3 rfl) ?_
    refine lv_bipush (v := 100) hx hb dL_law_173 (by decide) ?_
    refine lv_irem hx hb dL_law_175 (by decide) ?_
    refine W.eq (g2 := F0 m 176 ls (.int (nI (X % 100)) :: [.int (nI (X / 72 % 8)), .int 0, .int 0, .ref (ad 0)])) (congrArg (fun z => F0 m 176 ls (.int z :: [.int (nI (X / 72 % 8)), .int 0, .int 0, .ref (ad 0)])) (pk_rem (a := X) (d := 100) (by omega) (by decide) (by decide))) ?_
    refine lv_iconst (v := 0) hx hb dL_law_176 (by decide) ?_
    refine mo_i (vx_runSW (As := [.ref (ad 0), .int 0, .int 0, .int (nI (X / 72 % 8)), .int (nI (X % 100)), .int 0]) (rest := []) ⟨hx, hb, hml, hown, htl⟩ (k_A0 l D cyI cyZ ad zb zo zt zm (fun _ => 0) (fun _ => 0) zl zf 0 (nI (X / 72 % 8)) (nI (X % 100)) 0 _ _ rfl ((x_ac0 hc hk).trans (if_neg hq))) (vx_cwSW 6 htl gL_law_L_act rfl rfl rfl (by decide +kernel) ⟨Nat.le_of_ble_eq_true rfl, Nat.le_of_ble_eq_true rfl⟩) (poS hG hz hn hP hD hS hA) rfl rfl hl.1 rfl (lv_room (Nat.le_of_ble_eq_true rfl)) dL_law_177 ⟨by show cn + 0 ≤ 692290; omega, by show sn + 0 ≤ 7024755; omega⟩) hD hS hA (by rw [v_ac0 hc hk hq]) ((wE_eq (by rw [v_ac0 hc hk hq]) : wE _ (wZ cyI cyZ ad (f_X1_putColumn zb (nI (X / 72 % 8)) (nI (X % 100))) zo zt zm (fun _ => 0) (fun _ => 0) zl 0))) (fun H locs hP hD hS => ?_)
    refine lv_if_ge (tgt := 187) hx hb dL_law_180 (by decide) (fun _ => ?_) (fun c9 => absurd (Int32.not_lt.mp (nn_cc (tI_putColumn it hc _ (nf hq)))) c9)
    refine lv_iconst (v := 0) hx hb dL_law_187 (by decide) ?_
    refine lv_iload hx hb dL_law_188 (lv_at hl 6 rfl) ?_
    refine lv_icmp_ne (tgt := 253) hx hb dL_law_190 (by decide) (fun c9 => absurd (show (0 : Int32) = h6 from (e6.trans (iB_f (nf hq))).symm) c9) (fun _ => ?_)
    refine W.widen (k := cn + 1) (n := sn + 6) (by omega) (by omega) ?_
    exact KK (f_X1_putColumn zb (nI (X / 72 % 8)) (nI (X % 100))) 0 (g_col it kt hc _ (nf hq)) (g_col_h hc _) H locs ls hP hD hS (lv_sub hl [0, 1, 2, 3, 4, 5, 6] rfl)
set_option maxHeartbeats 4000000 in
set_option maxRecDepth 100000 in
theorem lD_0 {p : Program} {l : Launch} {e : Env} {s : State} {m : MethodId} {below : List Frame} {meth : Method} {c : Code} {b L : Nat} {xs : Nat → Int32} (C0 : lw_At p s m meth c b L xs) (hlt : l.stackTraces = false) {D : va_G} {cyI cyZ : ClassId} (hG : gP D cyI cyZ s) (hz : zqA (fun q : Nat => s.heap.size ≤ q) s s.heap) (hn : zn s) {ad : Nat → Nat} {zb zo zt zm : Tr} {zl : Lr} {zf : Int32} {j X cn sn : Nat} {h5 h6 : Int32} (hcn : cn ≤ 600000) (hsn : sn ≤ 7000000) (hX9 : X < 16777216) (it : tI zb) (kt : NN zb) (h1 : bt zb.2.1 (X / 3 % 24) = true) (h2 : bt zb.1 (X / 72 % 8) = true)
    (KK : ∀ (t9 : Tr), GR zb t9 → ∀ (H : Heap) (locs : List Loc) (ls : Array Slot), va_P D vwCl (wZ cyI cyZ ad t9 zo zt zm (fun _ => 0) (fun _ => 0) zl 0) H → va_D (fun q : Nat => s.heap.size ≤ q) (wZ cyI cyZ ad t9 zo zt zm (fun _ => 0) (fun _ => 0) zl 0) → va_S (fun q : Nat => s.heap.size ≤ q) s.heap H locs → lv_has ls 7 [(0, .ref b), (1, .ref (ad 0)), (2, .int (nI j))] → W p l e room_1 s m #[Value.ref b] below meth c H locs cn sn (lw_Z below #[Value.ref b] s) (F0 m 220 ls [])) : ∀ (H : Heap) (locs : List Loc) (ls : Array Slot), va_P D vwCl (wZ cyI cyZ ad zb zo zt zm (fun _ => 0) (fun _ => 0) zl zf) H → va_D (fun q : Nat => s.heap.size ≤ q) (wZ cyI cyZ ad zb zo zt zm (fun _ => 0) (fun _ => 0) zl zf) → va_S (fun q : Nat => s.heap.size ≤ q) s.heap H locs → lv_has ls 7 [(0, .ref b), (1, .ref (ad 0)), (2, .int (nI j)), (3, .int (nI X)), (4, .int 0), (5, .int h5), (6, .int h6)] → W p l e room_1 s m #[Value.ref b] below meth c H locs cn sn (lw_Z below #[Value.ref b] s) (F0 m 193 ls []) := by
  obtain ⟨hx, hb, hr, hml, hown, hts, hX, hbl, hlocks, hgv⟩ := C0
  have htl : ∀ w ∈ wsL_law, w.before #[Value.ref b] s = true := fun w h => hts w (wsL_law_in w h)
  have hA : ∀ q : Nat, s.heap.size ≤ q → (fun q : Nat => s.heap.size ≤ q) q := fun _ h => h
  have hbA : ¬ (fun q : Nat => s.heap.size ≤ q) b := Nat.not_le.mpr hbl
  have hr : X / 3 % 24 < 24 := by omega
  have hc : X / 72 % 8 < 8 := by omega
  have hv : X % 9999 < 9999 := by omega
  intro H locs ls hP hD hS hl
  refine lv_aload_n hx hb dL_law_193 rfl (lv_at hl 1 rfl) ?_
  refine lv_iload hx hb dL_law_194 (lv_at hl 4 rfl) ?_
  refine lv_iload_n hx hb dL_law_196 rfl (lv_at hl 3 rfl) ?_
  refine lv_iconst (v := 3) hx hb dL_law_197 (by decide) ?_
  refine lv_idiv hx hb dL_law_198 (by decide) ?_
  refine W.eq (g2 := F0 m 199 ls (.int (nI (X / 3)) :: [.int 0, .ref (ad 0)])) (congrArg (fun z => F0 m 199 ls (.int z :: [.int 0, .ref (ad 0)])) (pk_div (a := X) (d := 3) (by omega) (by decide) (by decide))) ?_
  refine lv_bipush (v := 24) hx hb dL_law_199 (by decide) ?_
  refine lv_irem hx hb dL_law_201 (by decide) ?_
  refine W.eq (g2 := F0 m 202 ls (.int (nI (X / 3 % 24)) :: [.int 0, .ref (ad 0)])) (congrArg (fun z => F0 m 202 ls (.int z :: [.int 0, .ref (ad 0)])) (pk_rem (a := X / 3) (d := 24) (by omega) (by decide) (by decide))) ?_
  refine lv_iload_n hx hb dL_law_202 rfl (lv_at hl 3 rfl) ?_
  refine lv_bipush (v := 72) hx hb dL_law_203 (by decide) ?_
  refine lv_idiv hx hb dL_law_205 (by decide) ?_
  refine W.eq (g2 := F0 m 206 ls (.int (nI (X / 72)) :: [.int (nI (X / 3 % 24)), .int 0, .ref (ad 0)])) (congrArg (fun z => F0 m 206 ls (.int z :: [.int (nI (X / 3 % 24)), .int 0, .ref (ad 0)])) (pk_div (a := X) (d := 72) (by omega) (by decide) (by decide))) ?_
  refine lv_bipush (v := 8) hx hb dL_law_206 (by decide) ?_
  refine lv_irem hx hb dL_law_208 (by decide) ?_
  refine W.eq (g2 := F0 m 209 ls (.int (nI (X / 72 % 8)) :: [.int (nI (X / 3 % 24)), .int 0, .ref (ad 0)])) (congrArg (fun z => F0 m 209 ls (.int z :: [.int (nI (X / 3 % 24)), .int 0, .ref (ad 0)])) (pk_rem (a := X / 72) (d := 8) (by omega) (by decide) (by decide))) ?_
  refine lv_iload_n hx hb dL_law_209 rfl (lv_at hl 3 rfl) ?_
  refine lv_sipush (v := 9999) hx hb dL_law_210 (by decide) ?_
  refine lv_irem hx hb dL_law_213 (by decide) ?_
  refine W.eq (g2 := F0 m 214 ls (.int (nI (X % 9999)) :: [.int (nI (X / 72 % 8)), .int (nI (X / 3 % 24)), .int 0, .ref (ad 0)])) (congrArg (fun z => F0 m 214 ls (.int z :: [.int (nI (X / 72 % 8)), .int (nI (X / 3 % 24)), .int 0, .ref (ad 0)])) (pk_rem (a := X) (d := 9999) (by omega) (by decide) (by decide))) ?_
  refine mo_i (va_runV (As := [.int 0, .int (nI (X / 3 % 24)), .int (nI (X / 72 % 8)), .int (nI (X % 9999))]) (rest := []) ⟨hx, hb, hml, hown, htl⟩ (k_X2_set l D cyI cyZ ad zb zo zt zm (fun _ => 0) (fun _ => 0) zl zf 0 (nI (X / 3 % 24)) (nI (X / 72 % 8)) (nI (X % 9999)) _ _ rfl (x_st0 hr hc hv h1 h2)) (cwV 4 htl gL_law_X2_set rfl rfl rfl (by decide +kernel) ⟨Nat.le_of_ble_eq_true rfl, Nat.le_of_ble_eq_true rfl⟩) (pmV hG hP hD (ci := 2) rfl rfl rfl) rfl rfl hl.1 rfl (lv_room (Nat.le_of_ble_eq_true rfl)) dL_law_214 ⟨by show cn + 0 ≤ 692290; omega, by show sn + 0 ≤ 7024755; omega⟩) hD hS hA (by rw [v_st0 hr hc hv h1 h2]) ((wE_eq (by rw [v_st0 hr hc hv h1 h2]) : wE _ (wZ cyI cyZ ad (f_X1_putCell zb (nI (X / 3 % 24)) (nI (X / 72 % 8)) (nI (X % 9999))) zo zt zm (fun _ => 0) (fun _ => 0) zl 0))) (fun H locs hP hD hS => ?_)
  refine lv_if_lt (tgt := 253) hx hb dL_law_217 (by decide) (fun c9 => absurd c9 (nn_cell it kt hr hc)) (fun _ => ?_)
  exact KK (f_X1_putCell zb (nI (X / 3 % 24)) (nI (X / 72 % 8)) (nI (X % 9999))) (g_cell it kt hr hc (nI_pos (by omega))) H locs ls hP hD hS (lv_sub hl [0, 1, 2] rfl)
set_option maxHeartbeats 4000000 in
set_option maxRecDepth 100000 in
theorem lA_1 {p : Program} {l : Launch} {e : Env} {s : State} {m : MethodId} {below : List Frame} {meth : Method} {c : Code} {b L : Nat} {xs : Nat → Int32} (C0 : lw_At p s m meth c b L xs) (hlt : l.stackTraces = false) {D : va_G} {cyI cyZ : ClassId} (hG : gP D cyI cyZ s) (hz : zqA (fun q : Nat => s.heap.size ≤ q) s s.heap) (hn : zn s) {ad : Nat → Nat} {zb zo zt zm : Tr} {zl : Lr} {zf : Int32} {j X cn sn : Nat} (hcn : cn ≤ 600000) (hsn : sn ≤ 7000000) (hX9 : X < 16777216)
    (KK : ∀ (H : Heap) (locs : List Loc) (ls : Array Slot), va_P D vwCl (wZ cyI cyZ ad zb zo zt zm (fun _ => 0) (fun _ => 0) zl zf) H → va_D (fun q : Nat => s.heap.size ≤ q) (wZ cyI cyZ ad zb zo zt zm (fun _ => 0) (fun _ => 0) zl zf) → va_S (fun q : Nat => s.heap.size ≤ q) s.heap H locs → lv_has ls 7 [(0, .ref b), (1, .ref (ad 0)), (2, .int (nI j)), (3, .int (nI X)), (4, .int 1), (5, .int (iB (bt zo.2.1 (X / 3 % 24)))), (6, .int (iB (bt zo.1 (X / 72 % 8))))] → W p l e room_1 s m #[Value.ref b] below meth c H locs cn sn (lw_Z below #[Value.ref b] s) (F0 m 133 ls [])) : ∀ (H : Heap) (locs : List Loc) (ls : Array Slot), va_P D vwCl (wZ cyI cyZ ad zb zo zt zm (fun _ => 0) (fun _ => 0) zl zf) H → va_D (fun q : Nat => s.heap.size ≤ q) (wZ cyI cyZ ad zb zo zt zm (fun _ => 0) (fun _ => 0) zl zf) → va_S (fun q : Nat => s.heap.size ≤ q) s.heap H locs → lv_has ls 7 [(0, .ref b), (1, .ref (ad 0)), (2, .int (nI j)), (3, .int (nI X)), (4, .int 1)] → W p l e room_1 s m #[Value.ref b] below meth c H locs cn sn (lw_Z below #[Value.ref b] s) (F0 m 80 ls []) := by
  obtain ⟨hx, hb, hr, hml, hown, hts, hX, hbl, hlocks, hgv⟩ := C0
  have htl : ∀ w ∈ wsL_law, w.before #[Value.ref b] s = true := fun w h => hts w (wsL_law_in w h)
  have hA : ∀ q : Nat, s.heap.size ≤ q → (fun q : Nat => s.heap.size ≤ q) q := fun _ h => h
  have hbA : ¬ (fun q : Nat => s.heap.size ≤ q) b := Nat.not_le.mpr hbl
  intro H locs ls hP hD hS hl
  refine lv_aload_n hx hb dL_law_80 rfl (lv_at hl 1 rfl) ?_
  refine lv_iload hx hb dL_law_81 (lv_at hl 4 rfl) ?_
  refine po_i (va_runV (As := [.int 1]) (rest := []) ⟨hx, hb, hml, hown, htl⟩ (k_X2_rows l D cyI cyZ ad zb zo zt zm (fun _ => 0) (fun _ => 0) zl zf 1 (by decide)) (cwV 1 htl gL_law_X2_rows rfl rfl rfl (by decide +kernel) ⟨Nat.le_of_ble_eq_true rfl, Nat.le_of_ble_eq_true rfl⟩) (prV hG hP (ci := 2) rfl rfl rfl) rfl rfl hl.1 rfl (lv_room (Nat.le_of_ble_eq_true rfl)) dL_law_83 ⟨by show cn + 0 ≤ 692290; omega, by show sn + 0 ≤ 7024755; omega⟩) hS hP (v_rows1) (fun H locs hP hS => ?_)
  refine lv_iload_n hx hb dL_law_86 rfl (lv_at hl 3 rfl) ?_
  refine lv_iconst (v := 3) hx hb dL_law_87 (by decide) ?_
  refine lv_idiv hx hb dL_law_88 (by decide) ?_
  refine W.eq (g2 := F0 m 89 ls (.int (nI (X / 3)) :: [.int zo.2.1])) (congrArg (fun z => F0 m 89 ls (.int z :: [.int zo.2.1])) (pk_div (a := X) (d := 3) (by omega) (by decide) (by decide))) ?_
  refine lv_bipush (v := 24) hx hb dL_law_89 (by decide) ?_
  refine lv_irem hx hb dL_law_91 (by decide) ?_
  refine W.eq (g2 := F0 m 92 ls (.int (nI (X / 3 % 24)) :: [.int zo.2.1])) (congrArg (fun z => F0 m 92 ls (.int z :: [.int zo.2.1])) (pk_rem (a := X / 3) (d := 24) (by omega) (by decide) (by decide))) ?_
  refine lv_ishr hx hb dL_law_92 ?_
  refine lv_iconst (v := 1) hx hb dL_law_93 (by decide) ?_
  refine lv_iand hx hb dL_law_94 ?_
  refine W.eq (g2 := F0 m 95 ls [.int (iB (bt zo.2.1 (X / 3 % 24)))]) (congrArg (fun z => F0 m 95 ls [.int z]) (b_shr (t := zo.2.1) (r := X / 3 % 24) (by omega))) ?_
  refine lv_iconst (v := 1) hx hb dL_law_95 (by decide) ?_
  have K104 : W p l e room_1 s m #[Value.ref b] below meth c H locs cn sn (lw_Z below #[Value.ref b] s) (F0 m 104 ls [.int (iB (bt zo.2.1 (X / 3 % 24)))]) := by
    refine lv_istore (lv' := [(5, .int (iB (bt zo.2.1 (X / 3 % 24)))), (0, .ref b), (1, .ref (ad 0)), (2, .int (nI j)), (3, .int (nI X)), (4, .int 1)]) hx hb dL_law_104 hl (by decide) rfl (fun ls hl => ?_)
    refine lv_aload_n hx hb dL_law_106 rfl (lv_at hl 2 rfl) ?_
    refine lv_iload hx hb dL_law_107 (lv_at hl 5 rfl) ?_
    refine po_i (va_runV (As := [.int 1]) (rest := []) ⟨hx, hb, hml, hown, htl⟩ (k_X2_columns l D cyI cyZ ad zb zo zt zm (fun _ => 0) (fun _ => 0) zl zf 1 (by decide)) (cwV 1 htl gL_law_X2_columns rfl rfl rfl (by decide +kernel) ⟨Nat.le_of_ble_eq_true rfl, Nat.le_of_ble_eq_true rfl⟩) (prV hG hP (ci := 2) rfl rfl rfl) rfl rfl hl.1 rfl (lv_room (Nat.le_of_ble_eq_true rfl)) dL_law_109 ⟨by show cn + 0 ≤ 692290; omega, by show sn + 0 ≤ 7024755; omega⟩) hS hP (v_cols1) (fun H locs hP hS => ?_)
    refine lv_iload_n hx hb dL_law_112 rfl (lv_at hl 4 rfl) ?_
    refine lv_bipush (v := 72) hx hb dL_law_113 (by decide) ?_
    refine lv_idiv hx hb dL_law_115 (by decide) ?_
    refine W.eq (g2 := F0 m 116 ls (.int (nI (X / 72)) :: [.int zo.1])) (congrArg (fun z => F0 m 116 ls (.int z :: [.int zo.1])) (pk_div (a := X) (d := 72) (by omega) (by decide) (by decide))) ?_
    refine lv_bipush (v := 8) hx hb dL_law_116 (by decide) ?_
    refine lv_irem hx hb dL_law_118 (by decide) ?_
    refine W.eq (g2 := F0 m 119 ls (.int (nI (X / 72 % 8)) :: [.int zo.1])) (congrArg (fun z => F0 m 119 ls (.int z :: [.int zo.1])) (pk_rem (a := X / 72) (d := 8) (by omega) (by decide) (by decide))) ?_
    refine lv_ishr hx hb dL_law_119 ?_
    refine lv_iconst (v := 1) hx hb dL_law_120 (by decide) ?_
    refine lv_iand hx hb dL_law_121 ?_
    refine W.eq (g2 := F0 m 122 ls [.int (iB (bt zo.1 (X / 72 % 8)))]) (congrArg (fun z => F0 m 122 ls [.int z]) (b_shr (t := zo.1) (r := X / 72 % 8) (by omega))) ?_
    refine lv_iconst (v := 1) hx hb dL_law_122 (by decide) ?_
    have K131 : W p l e room_1 s m #[Value.ref b] below meth c H locs cn sn (lw_Z below #[Value.ref b] s) (F0 m 131 ls [.int (iB (bt zo.1 (X / 72 % 8)))]) := by
      refine lv_istore (lv' := [(6, .int (iB (bt zo.1 (X / 72 % 8)))), (5, .int (iB (bt zo.2.1 (X / 3 % 24)))), (0, .ref b), (1, .ref (ad 0)), (2, .int (nI j)), (3, .int (nI X)), (4, .int 1)]) hx hb dL_law_131 hl (by decide) rfl (fun ls hl => ?_)
      exact KK H locs ls hP hD hS (lv_sub hl [2, 3, 4, 5, 6, 1, 0] rfl)
    by_cases hq : bt zo.1 (X / 72 % 8) = true
    · refine lv_icmp_ne (tgt := 130) hx hb dL_law_123 (by decide) (fun c9 => absurd (iB_t hq) c9) (fun _ => ?_)
      refine lv_iconst (v := 1) hx hb dL_law_126 (by decide) ?_
      refine lv_goto (tgt := 131) hx hb dL_law_127 (by decide) ?_
      rw [iB_t hq] at K131
      exact K131
    · refine lv_icmp_ne (tgt := 130) hx hb dL_law_123 (by decide) (fun _ => ?_) (fun c9 => absurd c9 (fun z => by rw [iB_f (nf hq)] at z; exact absurd z (by decide)))
      refine lv_iconst (v := 0) hx hb dL_law_130 (by decide) ?_
      rw [iB_f (nf hq)] at K131
      exact K131
  by_cases hq : bt zo.2.1 (X / 3 % 24) = true
  · refine lv_icmp_ne (tgt := 103) hx hb dL_law_96 (by decide) (fun c9 => absurd (iB_t hq) c9) (fun _ => ?_)
    refine lv_iconst (v := 1) hx hb dL_law_99 (by decide) ?_
    refine lv_goto (tgt := 104) hx hb dL_law_100 (by decide) ?_
    rw [iB_t hq] at K104
    exact K104
  · refine lv_icmp_ne (tgt := 103) hx hb dL_law_96 (by decide) (fun _ => ?_) (fun c9 => absurd c9 (fun z => by rw [iB_f (nf hq)] at z; exact absurd z (by decide)))
    refine lv_iconst (v := 0) hx hb dL_law_103 (by decide) ?_
    rw [iB_f (nf hq)] at K104
    exact K104
set_option maxHeartbeats 4000000 in
set_option maxRecDepth 100000 in
theorem lB_1 {p : Program} {l : Launch} {e : Env} {s : State} {m : MethodId} {below : List Frame} {meth : Method} {c : Code} {b L : Nat} {xs : Nat → Int32} (C0 : lw_At p s m meth c b L xs) (hlt : l.stackTraces = false) {D : va_G} {cyI cyZ : ClassId} (hG : gP D cyI cyZ s) (hz : zqA (fun q : Nat => s.heap.size ≤ q) s s.heap) (hn : zn s) {ad : Nat → Nat} {zb zo zt zm : Tr} {zl : Lr} {zf : Int32} {j X cn sn : Nat} {h5 h6 : Int32} (hcn : cn ≤ 600000) (hsn : sn ≤ 7000000) (hX9 : X < 16777216) (e5 : h5 = iB (bt zo.2.1 (X / 3 % 24))) (it : tI zo) (kt : NN zo)
    (KK : ∀ (t9 : Tr) (f9 : Int32), GR zo t9 → bt t9.2.1 (X / 3 % 24) = true → t9.1 = zo.1 → ∀ (H : Heap) (locs : List Loc) (ls : Array Slot), va_P D vwCl (wZ cyI cyZ ad zb t9 zt zm (fun _ => 0) (fun _ => 0) zl f9) H → va_D (fun q : Nat => s.heap.size ≤ q) (wZ cyI cyZ ad zb t9 zt zm (fun _ => 0) (fun _ => 0) zl f9) → va_S (fun q : Nat => s.heap.size ≤ q) s.heap H locs → lv_has ls 7 [(0, .ref b), (1, .ref (ad 0)), (2, .int (nI j)), (3, .int (nI X)), (4, .int 1), (5, .int h5), (6, .int h6)] → W p l e room_1 s m #[Value.ref b] below meth c H locs (cn + 1) (sn + 6) (lw_Z below #[Value.ref b] s) (F0 m 161 ls [])) : ∀ (H : Heap) (locs : List Loc) (ls : Array Slot), va_P D vwCl (wZ cyI cyZ ad zb zo zt zm (fun _ => 0) (fun _ => 0) zl zf) H → va_D (fun q : Nat => s.heap.size ≤ q) (wZ cyI cyZ ad zb zo zt zm (fun _ => 0) (fun _ => 0) zl zf) → va_S (fun q : Nat => s.heap.size ≤ q) s.heap H locs → lv_has ls 7 [(0, .ref b), (1, .ref (ad 0)), (2, .int (nI j)), (3, .int (nI X)), (4, .int 1), (5, .int h5), (6, .int h6)] → W p l e room_1 s m #[Value.ref b] below meth c H locs cn sn (lw_Z below #[Value.ref b] s) (F0 m 133 ls []) := by
  obtain ⟨hx, hb, hr, hml, hown, hts, hX, hbl, hlocks, hgv⟩ := C0
  have htl : ∀ w ∈ wsL_law, w.before #[Value.ref b] s = true := fun w h => hts w (wsL_law_in w h)
  have hA : ∀ q : Nat, s.heap.size ≤ q → (fun q : Nat => s.heap.size ≤ q) q := fun _ h => h
  have hbA : ¬ (fun q : Nat => s.heap.size ≤ q) b := Nat.not_le.mpr hbl
  have hr : X / 3 % 24 < 24 := by omega
  have hc : X / 72 % 8 < 8 := by omega
  have hk : X % 100 < 100 := by omega
  intro H locs ls hP hD hS hl
  by_cases hq : bt zo.2.1 (X / 3 % 24) = true
  · refine lv_aload_n hx hb dL_law_133 rfl (lv_at hl 1 rfl) ?_
    refine lv_iconst (v := 3) hx hb dL_law_134 (by decide) ?_
    refine lv_iload hx hb dL_law_135 (lv_at hl 4 rfl) ?_
    refine lv_iload_n hx hb dL_law_137 rfl (lv_at hl 3 rfl) ?_
    refine lv_iconst (v := 3) hx hb dL_law_138 (by decide) ?_
    refine lv_idiv hx hb dL_law_139 (by decide) ?_
    refine W.eq (g2 := F0 m 140 ls (.int (nI (X / 3)) :: [.int 1, .int 3, .ref (ad 0)])) (congrArg (fun z => F0 m 140 ls (.int z :: [.int 1, .int 3, .ref (ad 0)])) (pk_div (a := X) (d := 3) (by omega) (by decide) (by decide))) ?_
    refine lv_bipush (v := 24) hx hb dL_law_140 (by decide) ?_
    refine lv_irem hx hb dL_law_142 (by decide) ?_
    refine W.eq (g2 := F0 m 143 ls (.int (nI (X / 3 % 24)) :: [.int 1, .int 3, .ref (ad 0)])) (congrArg (fun z => F0 m 143 ls (.int z :: [.int 1, .int 3, .ref (ad 0)])) (pk_rem (a := X / 3) (d := 24) (by omega) (by decide) (by decide))) ?_
    refine lv_iconst (v := 0) hx hb dL_law_143 (by decide) ?_
    refine lv_iconst (v := 0) hx hb dL_law_144 (by decide) ?_
    refine mo_i (vx_runSW (As := [.ref (ad 0), .int 3, .int 1, .int (nI (X / 3 % 24)), .int 0, .int 0]) (rest := []) ⟨hx, hb, hml, hown, htl⟩ (t_A3_3 l hlt D cyI cyZ ad zb zo zt zm (fun _ => 0) (fun _ => 0) zl zf 1 (nI (X / 3 % 24)) 0 0 _ _ rfl ((x_ar1 hr).trans (if_pos hq))) (vx_cwSW 6 htl gL_law_L_act rfl rfl rfl (by decide +kernel) ⟨Nat.le_of_ble_eq_true rfl, Nat.le_of_ble_eq_true rfl⟩) (poS hG hz hn hP hD hS hA) rfl rfl hl.1 rfl (lv_room (Nat.le_of_ble_eq_true rfl)) dL_law_145 ⟨by show cn + 1 ≤ 692290; omega, by show sn + 6 ≤ 7024755; omega⟩) hD hS hA (rfl) (wE.rf) (fun H locs hP hD hS => ?_)
    refine lv_if_ge (tgt := 155) hx hb dL_law_148 (by decide) (fun c9 => absurd c9 (by decide)) (fun _ => ?_)
    refine lv_iconst (v := 1) hx hb dL_law_151 (by decide) ?_
    refine lv_goto (tgt := 156) hx hb dL_law_152 (by decide) ?_
    refine lv_iload hx hb dL_law_156 (lv_at hl 5 rfl) ?_
    refine lv_icmp_ne (tgt := 253) hx hb dL_law_158 (by decide) (fun c9 => absurd (show (1 : Int32) = h5 from (e5.trans (iB_t hq)).symm) c9) (fun _ => ?_)
    refine W.widen (k := cn + 1) (n := sn + 6) (by omega) (by omega) ?_
    exact KK zo zf (GR.rf it kt) hq rfl H locs ls hP hD hS (lv_sub hl [0, 1, 2, 3, 4, 5, 6] rfl)
  · refine lv_aload_n hx hb dL_law_133 rfl (lv_at hl 1 rfl) ?_
    refine lv_iconst (v := 3) hx hb dL_law_134 (by decide) ?_
    refine lv_iload hx hb dL_law_135 (lv_at hl 4 rfl) ?_
    refine lv_iload_n hx hb dL_law_137 rfl (lv_at hl 3 rfl) ?_
    refine lv_iconst (v := 3) hx hb dL_law_138 (by decide) ?_
    refine lv_idiv hx hb dL_law_139 (by decide) ?_
    refine W.eq (g2 := F0 m 140 ls (.int (nI (X / 3)) :: [.int 1, .int 3, .ref (ad 0)])) (congrArg (fun z => F0 m 140 ls (.int z :: [.int 1, .int 3, .ref (ad 0)])) (pk_div (a := X) (d := 3) (by omega) (by decide) (by decide))) ?_
    refine lv_bipush (v := 24) hx hb dL_law_140 (by decide) ?_
    refine lv_irem hx hb dL_law_142 (by decide) ?_
    refine W.eq (g2 := F0 m 143 ls (.int (nI (X / 3 % 24)) :: [.int 1, .int 3, .ref (ad 0)])) (congrArg (fun z => F0 m 143 ls (.int z :: [.int 1, .int 3, .ref (ad 0)])) (pk_rem (a := X / 3) (d := 24) (by omega) (by decide) (by decide))) ?_
    refine lv_iconst (v := 0) hx hb dL_law_143 (by decide) ?_
    refine lv_iconst (v := 0) hx hb dL_law_144 (by decide) ?_
    refine mo_i (vx_runSW (As := [.ref (ad 0), .int 3, .int 1, .int (nI (X / 3 % 24)), .int 0, .int 0]) (rest := []) ⟨hx, hb, hml, hown, htl⟩ (k_A3 l D cyI cyZ ad zb zo zt zm (fun _ => 0) (fun _ => 0) zl zf 1 (nI (X / 3 % 24)) 0 0 _ _ rfl ((x_ar1 hr).trans (if_neg hq))) (vx_cwSW 6 htl gL_law_L_act rfl rfl rfl (by decide +kernel) ⟨Nat.le_of_ble_eq_true rfl, Nat.le_of_ble_eq_true rfl⟩) (poS hG hz hn hP hD hS hA) rfl rfl hl.1 rfl (lv_room (Nat.le_of_ble_eq_true rfl)) dL_law_145 ⟨by show cn + 0 ≤ 692290; omega, by show sn + 0 ≤ 7024755; omega⟩) hD hS hA (by rw [v_ar1 hr hq]) ((wE_eq (by rw [v_ar1 hr hq]) : wE _ (wZ cyI cyZ ad zb (f_X1_putRow zo (nI (X / 3 % 24))) zt zm (fun _ => 0) (fun _ => 0) zl 0))) (fun H locs hP hD hS => ?_)
    refine lv_if_ge (tgt := 155) hx hb dL_law_148 (by decide) (fun _ => ?_) (fun c9 => absurd (Int32.not_lt.mp (nn_rc (tI_putRow it hr))) c9)
    refine lv_iconst (v := 0) hx hb dL_law_155 (by decide) ?_
    refine lv_iload hx hb dL_law_156 (lv_at hl 5 rfl) ?_
    refine lv_icmp_ne (tgt := 253) hx hb dL_law_158 (by decide) (fun c9 => absurd (show (0 : Int32) = h5 from (e5.trans (iB_f (nf hq))).symm) c9) (fun _ => ?_)
    refine W.widen (k := cn + 1) (n := sn + 6) (by omega) (by omega) ?_
    exact KK (f_X1_putRow zo (nI (X / 3 % 24))) 0 (g_row it kt hr) (g_row_h hr) (by rw [c_putRow hr]) H locs ls hP hD hS (lv_sub hl [0, 1, 2, 3, 4, 5, 6] rfl)
set_option maxHeartbeats 4000000 in
set_option maxRecDepth 100000 in
theorem lC_1 {p : Program} {l : Launch} {e : Env} {s : State} {m : MethodId} {below : List Frame} {meth : Method} {c : Code} {b L : Nat} {xs : Nat → Int32} (C0 : lw_At p s m meth c b L xs) (hlt : l.stackTraces = false) {D : va_G} {cyI cyZ : ClassId} (hG : gP D cyI cyZ s) (hz : zqA (fun q : Nat => s.heap.size ≤ q) s s.heap) (hn : zn s) {ad : Nat → Nat} {zb zo zt zm : Tr} {zl : Lr} {zf : Int32} {j X cn sn : Nat} {h5 h6 : Int32} (hcn : cn ≤ 600000) (hsn : sn ≤ 7000000) (hX9 : X < 16777216) (e6 : h6 = iB (bt zo.1 (X / 72 % 8))) (it : tI zo) (kt : NN zo)
    (KK : ∀ (t9 : Tr) (f9 : Int32), GR zo t9 → bt t9.1 (X / 72 % 8) = true → ∀ (H : Heap) (locs : List Loc) (ls : Array Slot), va_P D vwCl (wZ cyI cyZ ad zb t9 zt zm (fun _ => 0) (fun _ => 0) zl f9) H → va_D (fun q : Nat => s.heap.size ≤ q) (wZ cyI cyZ ad zb t9 zt zm (fun _ => 0) (fun _ => 0) zl f9) → va_S (fun q : Nat => s.heap.size ≤ q) s.heap H locs → lv_has ls 7 [(0, .ref b), (1, .ref (ad 0)), (2, .int (nI j)), (3, .int (nI X)), (4, .int 1), (5, .int h5), (6, .int h6)] → W p l e room_1 s m #[Value.ref b] below meth c H locs (cn + 1) (sn + 6) (lw_Z below #[Value.ref b] s) (F0 m 193 ls [])) : ∀ (H : Heap) (locs : List Loc) (ls : Array Slot), va_P D vwCl (wZ cyI cyZ ad zb zo zt zm (fun _ => 0) (fun _ => 0) zl zf) H → va_D (fun q : Nat => s.heap.size ≤ q) (wZ cyI cyZ ad zb zo zt zm (fun _ => 0) (fun _ => 0) zl zf) → va_S (fun q : Nat => s.heap.size ≤ q) s.heap H locs → lv_has ls 7 [(0, .ref b), (1, .ref (ad 0)), (2, .int (nI j)), (3, .int (nI X)), (4, .int 1), (5, .int h5), (6, .int h6)] → W p l e room_1 s m #[Value.ref b] below meth c H locs cn sn (lw_Z below #[Value.ref b] s) (F0 m 161 ls []) := by
  obtain ⟨hx, hb, hr, hml, hown, hts, hX, hbl, hlocks, hgv⟩ := C0
  have htl : ∀ w ∈ wsL_law, w.before #[Value.ref b] s = true := fun w h => hts w (wsL_law_in w h)
  have hA : ∀ q : Nat, s.heap.size ≤ q → (fun q : Nat => s.heap.size ≤ q) q := fun _ h => h
  have hbA : ¬ (fun q : Nat => s.heap.size ≤ q) b := Nat.not_le.mpr hbl
  have hr : X / 3 % 24 < 24 := by omega
  have hc : X / 72 % 8 < 8 := by omega
  have hk : X % 100 < 100 := by omega
  intro H locs ls hP hD hS hl
  by_cases hq : bt zo.1 (X / 72 % 8) = true
  · refine lv_aload_n hx hb dL_law_161 rfl (lv_at hl 1 rfl) ?_
    refine lv_iconst (v := 0) hx hb dL_law_162 (by decide) ?_
    refine lv_iload hx hb dL_law_163 (lv_at hl 4 rfl) ?_
    refine lv_iload_n hx hb dL_law_165 rfl (lv_at hl 3 rfl) ?_
    refine lv_bipush (v := 72) hx hb dL_law_166 (by decide) ?_
    refine lv_idiv hx hb dL_law_168 (by decide) ?_
    refine W.eq (g2 := F0 m 169 ls (.int (nI (X / 72)) :: [.int 1, .int 0, .ref (ad 0)])) (congrArg (fun z => F0 m 169 ls (.int z :: [.int 1, .int 0, .ref (ad 0)])) (pk_div (a := X) (d := 72) (by omega) (by decide) (by decide))) ?_
    refine lv_bipush (v := 8) hx hb dL_law_169 (by decide) ?_
    refine lv_irem hx hb dL_law_171 (by decide) ?_
    refine W.eq (g2 := F0 m 172 ls (.int (nI (X / 72 % 8)) :: [.int 1, .int 0, .ref (ad 0)])) (congrArg (fun z => F0 m 172 ls (.int z :: [.int 1, .int 0, .ref (ad 0)])) (pk_rem (a := X / 72) (d := 8) (by omega) (by decide) (by decide))) ?_
    refine lv_iload_n hx hb dL_law_172 rfl (lv_at hl 3 rfl) ?_
    refine lv_bipush (v := 100) hx hb dL_law_173 (by decide) ?_
    refine lv_irem hx hb dL_law_175 (by decide) ?_
    refine W.eq (g2 := F0 m 176 ls (.int (nI (X % 100)) :: [.int (nI (X / 72 % 8)), .int 1, .int 0, .ref (ad 0)])) (congrArg (fun z => F0 m 176 ls (.int z :: [.int (nI (X / 72 % 8)), .int 1, .int 0, .ref (ad 0)])) (pk_rem (a := X) (d := 100) (by omega) (by decide) (by decide))) ?_
    refine lv_iconst (v := 0) hx hb dL_law_176 (by decide) ?_
    refine mo_i (vx_runSW (As := [.ref (ad 0), .int 0, .int 1, .int (nI (X / 72 % 8)), .int (nI (X % 100)), .int 0]) (rest := []) ⟨hx, hb, hml, hown, htl⟩ (t_A0_3 l hlt D cyI cyZ ad zb zo zt zm (fun _ => 0) (fun _ => 0) zl zf 1 (nI (X / 72 % 8)) (nI (X % 100)) 0 _ _ rfl ((x_ac1 hc hk).trans (if_pos hq))) (vx_cwSW 6 htl gL_law_L_act rfl rfl rfl (by decide +kernel) ⟨Nat.le_of_ble_eq_true rfl, Nat.le_of_ble_eq_true rfl⟩) (poS hG hz hn hP hD hS hA) rfl rfl hl.1 rfl (lv_room (Nat.le_of_ble_eq_true rfl)) dL_law_177 ⟨by show cn + 1 ≤ 692290; omega, by show sn + 6 ≤ 7024755; omega⟩) hD hS hA (rfl) (wE.rf) (fun H locs hP hD hS => ?_)
    refine lv_if_ge (tgt := 187) hx hb dL_law_180 (by decide) (fun c9 => absurd c9 (by decide)) (fun _ => ?_)
    refine lv_iconst (v := 1) hx hb dL_law_183 (by decide) ?_
    refine lv_goto (tgt := 188) hx hb dL_law_184 (by decide) ?_
    refine lv_iload hx hb dL_law_188 (lv_at hl 6 rfl) ?_
    refine lv_icmp_ne (tgt := 253) hx hb dL_law_190 (by decide) (fun c9 => absurd (show (1 : Int32) = h6 from (e6.trans (iB_t hq)).symm) c9) (fun _ => ?_)
    refine W.widen (k := cn + 1) (n := sn + 6) (by omega) (by omega) ?_
    exact KK zo zf (GR.rf it kt) hq H locs ls hP hD hS (lv_sub hl [0, 1, 2, 3, 4, 5, 6] rfl)
  · refine lv_aload_n hx hb dL_law_161 rfl (lv_at hl 1 rfl) ?_
    refine lv_iconst (v := 0) hx hb dL_law_162 (by decide) ?_
    refine lv_iload hx hb dL_law_163 (lv_at hl 4 rfl) ?_
    refine lv_iload_n hx hb dL_law_165 rfl (lv_at hl 3 rfl) ?_
    refine lv_bipush (v := 72) hx hb dL_law_166 (by decide) ?_
    refine lv_idiv hx hb dL_law_168 (by decide) ?_
    refine W.eq (g2 := F0 m 169 ls (.int (nI (X / 72)) :: [.int 1, .int 0, .ref (ad 0)])) (congrArg (fun z => F0 m 169 ls (.int z :: [.int 1, .int 0, .ref (ad 0)])) (pk_div (a := X) (d := 72) (by omega) (by decide) (by decide))) ?_
    refine lv_bipush (v := 8) hx hb dL_law_169 (by decide) ?_
    refine lv_irem hx hb dL_law_171 (by decide) ?_
    refine W.eq (g2 := F0 m 172 ls (.int (nI (X / 72 % 8)) :: [.int 1, .int 0, .ref (ad 0)])) (congrArg (fun z => F0 m 172 ls (.int z :: [.int 1, .int 0, .ref (ad 0)])) (pk_rem (a := X / 72) (d := 8) (by omega) (by decide) (by decide))) ?_
    refine lv_iload_n hx hb dL_law_172 rfl (lv_at hl 3 rfl) ?_
    refine lv_bipush (v := 100) hx hb dL_law_173 (by decide) ?_
    refine lv_irem hx hb dL_law_175 (by decide) ?_
    refine W.eq (g2 := F0 m 176 ls (.int (nI (X % 100)) :: [.int (nI (X / 72 % 8)), .int 1, .int 0, .ref (ad 0)])) (congrArg (fun z => F0 m 176 ls (.int z :: [.int (nI (X / 72 % 8)), .int 1, .int 0, .ref (ad 0)])) (pk_rem (a := X) (d := 100) (by omega) (by decide) (by decide))) ?_
    refine lv_iconst (v := 0) hx hb dL_law_176 (by decide) ?_
    refine mo_i (vx_runSW (As := [.ref (ad 0), .int 0, .int 1, .int (nI (X / 72 % 8)), .int (nI (X % 100)), .int 0]) (rest := []) ⟨hx, hb, hml, hown, htl⟩ (k_A0 l D cyI cyZ ad zb zo zt zm (fun _ => 0) (fun _ => 0) zl zf 1 (nI (X / 72 % 8)) (nI (X % 100)) 0 _ _ rfl ((x_ac1 hc hk).trans (if_neg hq))) (vx_cwSW 6 htl gL_law_L_act rfl rfl rfl (by decide +kernel) ⟨Nat.le_of_ble_eq_true rfl, Nat.le_of_ble_eq_true rfl⟩) (poS hG hz hn hP hD hS hA) rfl rfl hl.1 rfl (lv_room (Nat.le_of_ble_eq_true rfl)) dL_law_177 ⟨by show cn + 0 ≤ 692290; omega, by show sn + 0 ≤ 7024755; omega⟩) hD hS hA (by rw [v_ac1 hc hk hq]) ((wE_eq (by rw [v_ac1 hc hk hq]) : wE _ (wZ cyI cyZ ad zb (f_X1_putColumn zo (nI (X / 72 % 8)) (nI (X % 100))) zt zm (fun _ => 0) (fun _ => 0) zl 0))) (fun H locs hP hD hS => ?_)
    refine lv_if_ge (tgt := 187) hx hb dL_law_180 (by decide) (fun _ => ?_) (fun c9 => absurd (Int32.not_lt.mp (nn_cc (tI_putColumn it hc _ (nf hq)))) c9)
    refine lv_iconst (v := 0) hx hb dL_law_187 (by decide) ?_
    refine lv_iload hx hb dL_law_188 (lv_at hl 6 rfl) ?_
    refine lv_icmp_ne (tgt := 253) hx hb dL_law_190 (by decide) (fun c9 => absurd (show (0 : Int32) = h6 from (e6.trans (iB_f (nf hq))).symm) c9) (fun _ => ?_)
    refine W.widen (k := cn + 1) (n := sn + 6) (by omega) (by omega) ?_
    exact KK (f_X1_putColumn zo (nI (X / 72 % 8)) (nI (X % 100))) 0 (g_col it kt hc _ (nf hq)) (g_col_h hc _) H locs ls hP hD hS (lv_sub hl [0, 1, 2, 3, 4, 5, 6] rfl)
set_option maxHeartbeats 4000000 in
set_option maxRecDepth 100000 in
theorem lD_1 {p : Program} {l : Launch} {e : Env} {s : State} {m : MethodId} {below : List Frame} {meth : Method} {c : Code} {b L : Nat} {xs : Nat → Int32} (C0 : lw_At p s m meth c b L xs) (hlt : l.stackTraces = false) {D : va_G} {cyI cyZ : ClassId} (hG : gP D cyI cyZ s) (hz : zqA (fun q : Nat => s.heap.size ≤ q) s s.heap) (hn : zn s) {ad : Nat → Nat} {zb zo zt zm : Tr} {zl : Lr} {zf : Int32} {j X cn sn : Nat} {h5 h6 : Int32} (hcn : cn ≤ 600000) (hsn : sn ≤ 7000000) (hX9 : X < 16777216) (it : tI zo) (kt : NN zo) (h1 : bt zo.2.1 (X / 3 % 24) = true) (h2 : bt zo.1 (X / 72 % 8) = true)
    (KK : ∀ (t9 : Tr), GR zo t9 → ∀ (H : Heap) (locs : List Loc) (ls : Array Slot), va_P D vwCl (wZ cyI cyZ ad zb t9 zt zm (fun _ => 0) (fun _ => 0) zl 0) H → va_D (fun q : Nat => s.heap.size ≤ q) (wZ cyI cyZ ad zb t9 zt zm (fun _ => 0) (fun _ => 0) zl 0) → va_S (fun q : Nat => s.heap.size ≤ q) s.heap H locs → lv_has ls 7 [(0, .ref b), (1, .ref (ad 0)), (2, .int (nI j))] → W p l e room_1 s m #[Value.ref b] below meth c H locs cn sn (lw_Z below #[Value.ref b] s) (F0 m 220 ls [])) : ∀ (H : Heap) (locs : List Loc) (ls : Array Slot), va_P D vwCl (wZ cyI cyZ ad zb zo zt zm (fun _ => 0) (fun _ => 0) zl zf) H → va_D (fun q : Nat => s.heap.size ≤ q) (wZ cyI cyZ ad zb zo zt zm (fun _ => 0) (fun _ => 0) zl zf) → va_S (fun q : Nat => s.heap.size ≤ q) s.heap H locs → lv_has ls 7 [(0, .ref b), (1, .ref (ad 0)), (2, .int (nI j)), (3, .int (nI X)), (4, .int 1), (5, .int h5), (6, .int h6)] → W p l e room_1 s m #[Value.ref b] below meth c H locs cn sn (lw_Z below #[Value.ref b] s) (F0 m 193 ls []) := by
  obtain ⟨hx, hb, hr, hml, hown, hts, hX, hbl, hlocks, hgv⟩ := C0
  have htl : ∀ w ∈ wsL_law, w.before #[Value.ref b] s = true := fun w h => hts w (wsL_law_in w h)
  have hA : ∀ q : Nat, s.heap.size ≤ q → (fun q : Nat => s.heap.size ≤ q) q := fun _ h => h
  have hbA : ¬ (fun q : Nat => s.heap.size ≤ q) b := Nat.not_le.mpr hbl
  have hr : X / 3 % 24 < 24 := by omega
  have hc : X / 72 % 8 < 8 := by omega
  have hv : X % 9999 < 9999 := by omega
  intro H locs ls hP hD hS hl
  refine lv_aload_n hx hb dL_law_193 rfl (lv_at hl 1 rfl) ?_
  refine lv_iload hx hb dL_law_194 (lv_at hl 4 rfl) ?_
  refine lv_iload_n hx hb dL_law_196 rfl (lv_at hl 3 rfl) ?_
  refine lv_iconst (v := 3) hx hb dL_law_197 (by decide) ?_
  refine lv_idiv hx hb dL_law_198 (by decide) ?_
  refine W.eq (g2 := F0 m 199 ls (.int (nI (X / 3)) :: [.int 1, .ref (ad 0)])) (congrArg (fun z => F0 m 199 ls (.int z :: [.int 1, .ref (ad 0)])) (pk_div (a := X) (d := 3) (by omega) (by decide) (by decide))) ?_
  refine lv_bipush (v := 24) hx hb dL_law_199 (by decide) ?_
  refine lv_irem hx hb dL_law_201 (by decide) ?_
  refine W.eq (g2 := F0 m 202 ls (.int (nI (X / 3 % 24)) :: [.int 1, .ref (ad 0)])) (congrArg (fun z => F0 m 202 ls (.int z :: [.int 1, .ref (ad 0)])) (pk_rem (a := X / 3) (d := 24) (by omega) (by decide) (by decide))) ?_
  refine lv_iload_n hx hb dL_law_202 rfl (lv_at hl 3 rfl) ?_
  refine lv_bipush (v := 72) hx hb dL_law_203 (by decide) ?_
  refine lv_idiv hx hb dL_law_205 (by decide) ?_
  refine W.eq (g2 := F0 m 206 ls (.int (nI (X / 72)) :: [.int (nI (X / 3 % 24)), .int 1, .ref (ad 0)])) (congrArg (fun z => F0 m 206 ls (.int z :: [.int (nI (X / 3 % 24)), .int 1, .ref (ad 0)])) (pk_div (a := X) (d := 72) (by omega) (by decide) (by decide))) ?_
  refine lv_bipush (v := 8) hx hb dL_law_206 (by decide) ?_
  refine lv_irem hx hb dL_law_208 (by decide) ?_
  refine W.eq (g2 := F0 m 209 ls (.int (nI (X / 72 % 8)) :: [.int (nI (X / 3 % 24)), .int 1, .ref (ad 0)])) (congrArg (fun z => F0 m 209 ls (.int z :: [.int (nI (X / 3 % 24)), .int 1, .ref (ad 0)])) (pk_rem (a := X / 72) (d := 8) (by omega) (by decide) (by decide))) ?_
  refine lv_iload_n hx hb dL_law_209 rfl (lv_at hl 3 rfl) ?_
  refine lv_sipush (v := 9999) hx hb dL_law_210 (by decide) ?_
  refine lv_irem hx hb dL_law_213 (by decide) ?_
  refine W.eq (g2 := F0 m 214 ls (.int (nI (X % 9999)) :: [.int (nI (X / 72 % 8)), .int (nI (X / 3 % 24)), .int 1, .ref (ad 0)])) (congrArg (fun z => F0 m 214 ls (.int z :: [.int (nI (X / 72 % 8)), .int (nI (X / 3 % 24)), .int 1, .ref (ad 0)])) (pk_rem (a := X) (d := 9999) (by omega) (by decide) (by decide))) ?_
  refine mo_i (va_runV (As := [.int 1, .int (nI (X / 3 % 24)), .int (nI (X / 72 % 8)), .int (nI (X % 9999))]) (rest := []) ⟨hx, hb, hml, hown, htl⟩ (k_X2_set l D cyI cyZ ad zb zo zt zm (fun _ => 0) (fun _ => 0) zl zf 1 (nI (X / 3 % 24)) (nI (X / 72 % 8)) (nI (X % 9999)) _ _ rfl (x_st1 hr hc hv h1 h2)) (cwV 4 htl gL_law_X2_set rfl rfl rfl (by decide +kernel) ⟨Nat.le_of_ble_eq_true rfl, Nat.le_of_ble_eq_true rfl⟩) (pmV hG hP hD (ci := 2) rfl rfl rfl) rfl rfl hl.1 rfl (lv_room (Nat.le_of_ble_eq_true rfl)) dL_law_214 ⟨by show cn + 0 ≤ 692290; omega, by show sn + 0 ≤ 7024755; omega⟩) hD hS hA (by rw [v_st1 hr hc hv h1 h2]) ((wE_eq (by rw [v_st1 hr hc hv h1 h2]) : wE _ (wZ cyI cyZ ad zb (f_X1_putCell zo (nI (X / 3 % 24)) (nI (X / 72 % 8)) (nI (X % 9999))) zt zm (fun _ => 0) (fun _ => 0) zl 0))) (fun H locs hP hD hS => ?_)
  refine lv_if_lt (tgt := 253) hx hb dL_law_217 (by decide) (fun c9 => absurd c9 (nn_cell it kt hr hc)) (fun _ => ?_)
  exact KK (f_X1_putCell zo (nI (X / 3 % 24)) (nI (X / 72 % 8)) (nI (X % 9999))) (g_cell it kt hr hc (nI_pos (by omega))) H locs ls hP hD hS (lv_sub hl [0, 1, 2] rfl)
set_option maxHeartbeats 4000000 in
set_option maxRecDepth 100000 in
theorem lA_2 {p : Program} {l : Launch} {e : Env} {s : State} {m : MethodId} {below : List Frame} {meth : Method} {c : Code} {b L : Nat} {xs : Nat → Int32} (C0 : lw_At p s m meth c b L xs) (hlt : l.stackTraces = false) {D : va_G} {cyI cyZ : ClassId} (hG : gP D cyI cyZ s) (hz : zqA (fun q : Nat => s.heap.size ≤ q) s s.heap) (hn : zn s) {ad : Nat → Nat} {zb zo zt zm : Tr} {zl : Lr} {zf : Int32} {j X cn sn : Nat} (hcn : cn ≤ 600000) (hsn : sn ≤ 7000000) (hX9 : X < 16777216)
    (KK : ∀ (H : Heap) (locs : List Loc) (ls : Array Slot), va_P D vwCl (wZ cyI cyZ ad zb zo zt zm (fun _ => 0) (fun _ => 0) zl zf) H → va_D (fun q : Nat => s.heap.size ≤ q) (wZ cyI cyZ ad zb zo zt zm (fun _ => 0) (fun _ => 0) zl zf) → va_S (fun q : Nat => s.heap.size ≤ q) s.heap H locs → lv_has ls 7 [(0, .ref b), (1, .ref (ad 0)), (2, .int (nI j)), (3, .int (nI X)), (4, .int 2), (5, .int (iB (bt zt.2.1 (X / 3 % 24)))), (6, .int (iB (bt zt.1 (X / 72 % 8))))] → W p l e room_1 s m #[Value.ref b] below meth c H locs cn sn (lw_Z below #[Value.ref b] s) (F0 m 133 ls [])) : ∀ (H : Heap) (locs : List Loc) (ls : Array Slot), va_P D vwCl (wZ cyI cyZ ad zb zo zt zm (fun _ => 0) (fun _ => 0) zl zf) H → va_D (fun q : Nat => s.heap.size ≤ q) (wZ cyI cyZ ad zb zo zt zm (fun _ => 0) (fun _ => 0) zl zf) → va_S (fun q : Nat => s.heap.size ≤ q) s.heap H locs → lv_has ls 7 [(0, .ref b), (1, .ref (ad 0)), (2, .int (nI j)), (3, .int (nI X)), (4, .int 2)] → W p l e room_1 s m #[Value.ref b] below meth c H locs cn sn (lw_Z below #[Value.ref b] s) (F0 m 80 ls []) := by
  obtain ⟨hx, hb, hr, hml, hown, hts, hX, hbl, hlocks, hgv⟩ := C0
  have htl : ∀ w ∈ wsL_law, w.before #[Value.ref b] s = true := fun w h => hts w (wsL_law_in w h)
  have hA : ∀ q : Nat, s.heap.size ≤ q → (fun q : Nat => s.heap.size ≤ q) q := fun _ h => h
  have hbA : ¬ (fun q : Nat => s.heap.size ≤ q) b := Nat.not_le.mpr hbl
  intro H locs ls hP hD hS hl
  refine lv_aload_n hx hb dL_law_80 rfl (lv_at hl 1 rfl) ?_
  refine lv_iload hx hb dL_law_81 (lv_at hl 4 rfl) ?_
  refine po_i (va_runV (As := [.int 2]) (rest := []) ⟨hx, hb, hml, hown, htl⟩ (k_X2_rows l D cyI cyZ ad zb zo zt zm (fun _ => 0) (fun _ => 0) zl zf 2 (by decide)) (cwV 1 htl gL_law_X2_rows rfl rfl rfl (by decide +kernel) ⟨Nat.le_of_ble_eq_true rfl, Nat.le_of_ble_eq_true rfl⟩) (prV hG hP (ci := 2) rfl rfl rfl) rfl rfl hl.1 rfl (lv_room (Nat.le_of_ble_eq_true rfl)) dL_law_83 ⟨by show cn + 0 ≤ 692290; omega, by show sn + 0 ≤ 7024755; omega⟩) hS hP (v_rows2) (fun H locs hP hS => ?_)
  refine lv_iload_n hx hb dL_law_86 rfl (lv_at hl 3 rfl) ?_
  refine lv_iconst (v := 3) hx hb dL_law_87 (by decide) ?_
  refine lv_idiv hx hb dL_law_88 (by decide) ?_
  refine W.eq (g2 := F0 m 89 ls (.int (nI (X / 3)) :: [.int zt.2.1])) (congrArg (fun z => F0 m 89 ls (.int z :: [.int zt.2.1])) (pk_div (a := X) (d := 3) (by omega) (by decide) (by decide))) ?_
  refine lv_bipush (v := 24) hx hb dL_law_89 (by decide) ?_
  refine lv_irem hx hb dL_law_91 (by decide) ?_
  refine W.eq (g2 := F0 m 92 ls (.int (nI (X / 3 % 24)) :: [.int zt.2.1])) (congrArg (fun z => F0 m 92 ls (.int z :: [.int zt.2.1])) (pk_rem (a := X / 3) (d := 24) (by omega) (by decide) (by decide))) ?_
  refine lv_ishr hx hb dL_law_92 ?_
  refine lv_iconst (v := 1) hx hb dL_law_93 (by decide) ?_
  refine lv_iand hx hb dL_law_94 ?_
  refine W.eq (g2 := F0 m 95 ls [.int (iB (bt zt.2.1 (X / 3 % 24)))]) (congrArg (fun z => F0 m 95 ls [.int z]) (b_shr (t := zt.2.1) (r := X / 3 % 24) (by omega))) ?_
  refine lv_iconst (v := 1) hx hb dL_law_95 (by decide) ?_
  have K104 : W p l e room_1 s m #[Value.ref b] below meth c H locs cn sn (lw_Z below #[Value.ref b] s) (F0 m 104 ls [.int (iB (bt zt.2.1 (X / 3 % 24)))]) := by
    refine lv_istore (lv' := [(5, .int (iB (bt zt.2.1 (X / 3 % 24)))), (0, .ref b), (1, .ref (ad 0)), (2, .int (nI j)), (3, .int (nI X)), (4, .int 2)]) hx hb dL_law_104 hl (by decide) rfl (fun ls hl => ?_)
    refine lv_aload_n hx hb dL_law_106 rfl (lv_at hl 2 rfl) ?_
    refine lv_iload hx hb dL_law_107 (lv_at hl 5 rfl) ?_
    refine po_i (va_runV (As := [.int 2]) (rest := []) ⟨hx, hb, hml, hown, htl⟩ (k_X2_columns l D cyI cyZ ad zb zo zt zm (fun _ => 0) (fun _ => 0) zl zf 2 (by decide)) (cwV 1 htl gL_law_X2_columns rfl rfl rfl (by decide +kernel) ⟨Nat.le_of_ble_eq_true rfl, Nat.le_of_ble_eq_true rfl⟩) (prV hG hP (ci := 2) rfl rfl rfl) rfl rfl hl.1 rfl (lv_room (Nat.le_of_ble_eq_true rfl)) dL_law_109 ⟨by show cn + 0 ≤ 692290; omega, by show sn + 0 ≤ 7024755; omega⟩) hS hP (v_cols2) (fun H locs hP hS => ?_)
    refine lv_iload_n hx hb dL_law_112 rfl (lv_at hl 4 rfl) ?_
    refine lv_bipush (v := 72) hx hb dL_law_113 (by decide) ?_
    refine lv_idiv hx hb dL_law_115 (by decide) ?_
    refine W.eq (g2 := F0 m 116 ls (.int (nI (X / 72)) :: [.int zt.1])) (congrArg (fun z => F0 m 116 ls (.int z :: [.int zt.1])) (pk_div (a := X) (d := 72) (by omega) (by decide) (by decide))) ?_
    refine lv_bipush (v := 8) hx hb dL_law_116 (by decide) ?_
    refine lv_irem hx hb dL_law_118 (by decide) ?_
    refine W.eq (g2 := F0 m 119 ls (.int (nI (X / 72 % 8)) :: [.int zt.1])) (congrArg (fun z => F0 m 119 ls (.int z :: [.int zt.1])) (pk_rem (a := X / 72) (d := 8) (by omega) (by decide) (by decide))) ?_
    refine lv_ishr hx hb dL_law_119 ?_
    refine lv_iconst (v := 1) hx hb dL_law_120 (by decide) ?_
    refine lv_iand hx hb dL_law_121 ?_
    refine W.eq (g2 := F0 m 122 ls [.int (iB (bt zt.1 (X / 72 % 8)))]) (congrArg (fun z => F0 m 122 ls [.int z]) (b_shr (t := zt.1) (r := X / 72 % 8) (by omega))) ?_
    refine lv_iconst (v := 1) hx hb dL_law_122 (by decide) ?_
    have K131 : W p l e room_1 s m #[Value.ref b] below meth c H locs cn sn (lw_Z below #[Value.ref b] s) (F0 m 131 ls [.int (iB (bt zt.1 (X / 72 % 8)))]) := by
      refine lv_istore (lv' := [(6, .int (iB (bt zt.1 (X / 72 % 8)))), (5, .int (iB (bt zt.2.1 (X / 3 % 24)))), (0, .ref b), (1, .ref (ad 0)), (2, .int (nI j)), (3, .int (nI X)), (4, .int 2)]) hx hb dL_law_131 hl (by decide) rfl (fun ls hl => ?_)
      exact KK H locs ls hP hD hS (lv_sub hl [2, 3, 4, 5, 6, 1, 0] rfl)
    by_cases hq : bt zt.1 (X / 72 % 8) = true
    · refine lv_icmp_ne (tgt := 130) hx hb dL_law_123 (by decide) (fun c9 => absurd (iB_t hq) c9) (fun _ => ?_)
      refine lv_iconst (v := 1) hx hb dL_law_126 (by decide) ?_
      refine lv_goto (tgt := 131) hx hb dL_law_127 (by decide) ?_
      rw [iB_t hq] at K131
      exact K131
    · refine lv_icmp_ne (tgt := 130) hx hb dL_law_123 (by decide) (fun _ => ?_) (fun c9 => absurd c9 (fun z => by rw [iB_f (nf hq)] at z; exact absurd z (by decide)))
      refine lv_iconst (v := 0) hx hb dL_law_130 (by decide) ?_
      rw [iB_f (nf hq)] at K131
      exact K131
  by_cases hq : bt zt.2.1 (X / 3 % 24) = true
  · refine lv_icmp_ne (tgt := 103) hx hb dL_law_96 (by decide) (fun c9 => absurd (iB_t hq) c9) (fun _ => ?_)
    refine lv_iconst (v := 1) hx hb dL_law_99 (by decide) ?_
    refine lv_goto (tgt := 104) hx hb dL_law_100 (by decide) ?_
    rw [iB_t hq] at K104
    exact K104
  · refine lv_icmp_ne (tgt := 103) hx hb dL_law_96 (by decide) (fun _ => ?_) (fun c9 => absurd c9 (fun z => by rw [iB_f (nf hq)] at z; exact absurd z (by decide)))
    refine lv_iconst (v := 0) hx hb dL_law_103 (by decide) ?_
    rw [iB_f (nf hq)] at K104
    exact K104
set_option maxHeartbeats 4000000 in
set_option maxRecDepth 100000 in
theorem lB_2 {p : Program} {l : Launch} {e : Env} {s : State} {m : MethodId} {below : List Frame} {meth : Method} {c : Code} {b L : Nat} {xs : Nat → Int32} (C0 : lw_At p s m meth c b L xs) (hlt : l.stackTraces = false) {D : va_G} {cyI cyZ : ClassId} (hG : gP D cyI cyZ s) (hz : zqA (fun q : Nat => s.heap.size ≤ q) s s.heap) (hn : zn s) {ad : Nat → Nat} {zb zo zt zm : Tr} {zl : Lr} {zf : Int32} {j X cn sn : Nat} {h5 h6 : Int32} (hcn : cn ≤ 600000) (hsn : sn ≤ 7000000) (hX9 : X < 16777216) (e5 : h5 = iB (bt zt.2.1 (X / 3 % 24))) (it : tI zt) (kt : NN zt)
    (KK : ∀ (t9 : Tr) (f9 : Int32), GR zt t9 → bt t9.2.1 (X / 3 % 24) = true → t9.1 = zt.1 → ∀ (H : Heap) (locs : List Loc) (ls : Array Slot), va_P D vwCl (wZ cyI cyZ ad zb zo t9 zm (fun _ => 0) (fun _ => 0) zl f9) H → va_D (fun q : Nat => s.heap.size ≤ q) (wZ cyI cyZ ad zb zo t9 zm (fun _ => 0) (fun _ => 0) zl f9) → va_S (fun q : Nat => s.heap.size ≤ q) s.heap H locs → lv_has ls 7 [(0, .ref b), (1, .ref (ad 0)), (2, .int (nI j)), (3, .int (nI X)), (4, .int 2), (5, .int h5), (6, .int h6)] → W p l e room_1 s m #[Value.ref b] below meth c H locs (cn + 1) (sn + 6) (lw_Z below #[Value.ref b] s) (F0 m 161 ls [])) : ∀ (H : Heap) (locs : List Loc) (ls : Array Slot), va_P D vwCl (wZ cyI cyZ ad zb zo zt zm (fun _ => 0) (fun _ => 0) zl zf) H → va_D (fun q : Nat => s.heap.size ≤ q) (wZ cyI cyZ ad zb zo zt zm (fun _ => 0) (fun _ => 0) zl zf) → va_S (fun q : Nat => s.heap.size ≤ q) s.heap H locs → lv_has ls 7 [(0, .ref b), (1, .ref (ad 0)), (2, .int (nI j)), (3, .int (nI X)), (4, .int 2), (5, .int h5), (6, .int h6)] → W p l e room_1 s m #[Value.ref b] below meth c H locs cn sn (lw_Z below #[Value.ref b] s) (F0 m 133 ls []) := by
  obtain ⟨hx, hb, hr, hml, hown, hts, hX, hbl, hlocks, hgv⟩ := C0
  have htl : ∀ w ∈ wsL_law, w.before #[Value.ref b] s = true := fun w h => hts w (wsL_law_in w h)
  have hA : ∀ q : Nat, s.heap.size ≤ q → (fun q : Nat => s.heap.size ≤ q) q := fun _ h => h
  have hbA : ¬ (fun q : Nat => s.heap.size ≤ q) b := Nat.not_le.mpr hbl
  have hr : X / 3 % 24 < 24 := by omega
  have hc : X / 72 % 8 < 8 := by omega
  have hk : X % 100 < 100 := by omega
  intro H locs ls hP hD hS hl
  by_cases hq : bt zt.2.1 (X / 3 % 24) = true
  · refine lv_aload_n hx hb dL_law_133 rfl (lv_at hl 1 rfl) ?_
    refine lv_iconst (v := 3) hx hb dL_law_134 (by decide) ?_
    refine lv_iload hx hb dL_law_135 (lv_at hl 4 rfl) ?_
    refine lv_iload_n hx hb dL_law_137 rfl (lv_at hl 3 rfl) ?_
    refine lv_iconst (v := 3) hx hb dL_law_138 (by decide) ?_
    refine lv_idiv hx hb dL_law_139 (by decide) ?_
    refine W.eq (g2 := F0 m 140 ls (.int (nI (X / 3)) :: [.int 2, .int 3, .ref (ad 0)])) (congrArg (fun z => F0 m 140 ls (.int z :: [.int 2, .int 3, .ref (ad 0)])) (pk_div (a := X) (d := 3) (by omega) (by decide) (by decide))) ?_
    refine lv_bipush (v := 24) hx hb dL_law_140 (by decide) ?_
    refine lv_irem hx hb dL_law_142 (by decide) ?_
    refine W.eq (g2 := F0 m 143 ls (.int (nI (X / 3 % 24)) :: [.int 2, .int 3, .ref (ad 0)])) (congrArg (fun z => F0 m 143 ls (.int z :: [.int 2, .int 3, .ref (ad 0)])) (pk_rem (a := X / 3) (d := 24) (by omega) (by decide) (by decide))) ?_
    refine lv_iconst (v := 0) hx hb dL_law_143 (by decide) ?_
    refine lv_iconst (v := 0) hx hb dL_law_144 (by decide) ?_
    refine mo_i (vx_runSW (As := [.ref (ad 0), .int 3, .int 2, .int (nI (X / 3 % 24)), .int 0, .int 0]) (rest := []) ⟨hx, hb, hml, hown, htl⟩ (t_A3_3 l hlt D cyI cyZ ad zb zo zt zm (fun _ => 0) (fun _ => 0) zl zf 2 (nI (X / 3 % 24)) 0 0 _ _ rfl ((x_ar2 hr).trans (if_pos hq))) (vx_cwSW 6 htl gL_law_L_act rfl rfl rfl (by decide +kernel) ⟨Nat.le_of_ble_eq_true rfl, Nat.le_of_ble_eq_true rfl⟩) (poS hG hz hn hP hD hS hA) rfl rfl hl.1 rfl (lv_room (Nat.le_of_ble_eq_true rfl)) dL_law_145 ⟨by show cn + 1 ≤ 692290; omega, by show sn + 6 ≤ 7024755; omega⟩) hD hS hA (rfl) (wE.rf) (fun H locs hP hD hS => ?_)
    refine lv_if_ge (tgt := 155) hx hb dL_law_148 (by decide) (fun c9 => absurd c9 (by decide)) (fun _ => ?_)
    refine lv_iconst (v := 1) hx hb dL_law_151 (by decide) ?_
    refine lv_goto (tgt := 156) hx hb dL_law_152 (by decide) ?_
    refine lv_iload hx hb dL_law_156 (lv_at hl 5 rfl) ?_
    refine lv_icmp_ne (tgt := 253) hx hb dL_law_158 (by decide) (fun c9 => absurd (show (1 : Int32) = h5 from (e5.trans (iB_t hq)).symm) c9) (fun _ => ?_)
    refine W.widen (k := cn + 1) (n := sn + 6) (by omega) (by omega) ?_
    exact KK zt zf (GR.rf it kt) hq rfl H locs ls hP hD hS (lv_sub hl [0, 1, 2, 3, 4, 5, 6] rfl)
  · refine lv_aload_n hx hb dL_law_133 rfl (lv_at hl 1 rfl) ?_
    refine lv_iconst (v := 3) hx hb dL_law_134 (by decide) ?_
    refine lv_iload hx hb dL_law_135 (lv_at hl 4 rfl) ?_
    refine lv_iload_n hx hb dL_law_137 rfl (lv_at hl 3 rfl) ?_
    refine lv_iconst (v := 3) hx hb dL_law_138 (by decide) ?_
    refine lv_idiv hx hb dL_law_139 (by decide) ?_
    refine W.eq (g2 := F0 m 140 ls (.int (nI (X / 3)) :: [.int 2, .int 3, .ref (ad 0)])) (congrArg (fun z => F0 m 140 ls (.int z :: [.int 2, .int 3, .ref (ad 0)])) (pk_div (a := X) (d := 3) (by omega) (by decide) (by decide))) ?_
    refine lv_bipush (v := 24) hx hb dL_law_140 (by decide) ?_
    refine lv_irem hx hb dL_law_142 (by decide) ?_
    refine W.eq (g2 := F0 m 143 ls (.int (nI (X / 3 % 24)) :: [.int 2, .int 3, .ref (ad 0)])) (congrArg (fun z => F0 m 143 ls (.int z :: [.int 2, .int 3, .ref (ad 0)])) (pk_rem (a := X / 3) (d := 24) (by omega) (by decide) (by decide))) ?_
    refine lv_iconst (v := 0) hx hb dL_law_143 (by decide) ?_
    refine lv_iconst (v := 0) hx hb dL_law_144 (by decide) ?_
    refine mo_i (vx_runSW (As := [.ref (ad 0), .int 3, .int 2, .int (nI (X / 3 % 24)), .int 0, .int 0]) (rest := []) ⟨hx, hb, hml, hown, htl⟩ (k_A3 l D cyI cyZ ad zb zo zt zm (fun _ => 0) (fun _ => 0) zl zf 2 (nI (X / 3 % 24)) 0 0 _ _ rfl ((x_ar2 hr).trans (if_neg hq))) (vx_cwSW 6 htl gL_law_L_act rfl rfl rfl (by decide +kernel) ⟨Nat.le_of_ble_eq_true rfl, Nat.le_of_ble_eq_true rfl⟩) (poS hG hz hn hP hD hS hA) rfl rfl hl.1 rfl (lv_room (Nat.le_of_ble_eq_true rfl)) dL_law_145 ⟨by show cn + 0 ≤ 692290; omega, by show sn + 0 ≤ 7024755; omega⟩) hD hS hA (by rw [v_ar2 hr hq]) ((wE_eq (by rw [v_ar2 hr hq]) : wE _ (wZ cyI cyZ ad zb zo (f_X1_putRow zt (nI (X / 3 % 24))) zm (fun _ => 0) (fun _ => 0) zl 0))) (fun H locs hP hD hS => ?_)
    refine lv_if_ge (tgt := 155) hx hb dL_law_148 (by decide) (fun _ => ?_) (fun c9 => absurd (Int32.not_lt.mp (nn_rc (tI_putRow it hr))) c9)
    refine lv_iconst (v := 0) hx hb dL_law_155 (by decide) ?_
    refine lv_iload hx hb dL_law_156 (lv_at hl 5 rfl) ?_
    refine lv_icmp_ne (tgt := 253) hx hb dL_law_158 (by decide) (fun c9 => absurd (show (0 : Int32) = h5 from (e5.trans (iB_f (nf hq))).symm) c9) (fun _ => ?_)
    refine W.widen (k := cn + 1) (n := sn + 6) (by omega) (by omega) ?_
    exact KK (f_X1_putRow zt (nI (X / 3 % 24))) 0 (g_row it kt hr) (g_row_h hr) (by rw [c_putRow hr]) H locs ls hP hD hS (lv_sub hl [0, 1, 2, 3, 4, 5, 6] rfl)
set_option maxHeartbeats 4000000 in
set_option maxRecDepth 100000 in
theorem lC_2 {p : Program} {l : Launch} {e : Env} {s : State} {m : MethodId} {below : List Frame} {meth : Method} {c : Code} {b L : Nat} {xs : Nat → Int32} (C0 : lw_At p s m meth c b L xs) (hlt : l.stackTraces = false) {D : va_G} {cyI cyZ : ClassId} (hG : gP D cyI cyZ s) (hz : zqA (fun q : Nat => s.heap.size ≤ q) s s.heap) (hn : zn s) {ad : Nat → Nat} {zb zo zt zm : Tr} {zl : Lr} {zf : Int32} {j X cn sn : Nat} {h5 h6 : Int32} (hcn : cn ≤ 600000) (hsn : sn ≤ 7000000) (hX9 : X < 16777216) (e6 : h6 = iB (bt zt.1 (X / 72 % 8))) (it : tI zt) (kt : NN zt)
    (KK : ∀ (t9 : Tr) (f9 : Int32), GR zt t9 → bt t9.1 (X / 72 % 8) = true → ∀ (H : Heap) (locs : List Loc) (ls : Array Slot), va_P D vwCl (wZ cyI cyZ ad zb zo t9 zm (fun _ => 0) (fun _ => 0) zl f9) H → va_D (fun q : Nat => s.heap.size ≤ q) (wZ cyI cyZ ad zb zo t9 zm (fun _ => 0) (fun _ => 0) zl f9) → va_S (fun q : Nat => s.heap.size ≤ q) s.heap H locs → lv_has ls 7 [(0, .ref b), (1, .ref (ad 0)), (2, .int (nI j)), (3, .int (nI X)), (4, .int 2), (5, .int h5), (6, .int h6)] → W p l e room_1 s m #[Value.ref b] below meth c H locs (cn + 1) (sn + 6) (lw_Z below #[Value.ref b] s) (F0 m 193 ls [])) : ∀ (H : Heap) (locs : List Loc) (ls : Array Slot), va_P D vwCl (wZ cyI cyZ ad zb zo zt zm (fun _ => 0) (fun _ => 0) zl zf) H → va_D (fun q : Nat => s.heap.size ≤ q) (wZ cyI cyZ ad zb zo zt zm (fun _ => 0) (fun _ => 0) zl zf) → va_S (fun q : Nat => s.heap.size ≤ q) s.heap H locs → lv_has ls 7 [(0, .ref b), (1, .ref (ad 0)), (2, .int (nI j)), (3, .int (nI X)), (4, .int 2), (5, .int h5), (6, .int h6)] → W p l e room_1 s m #[Value.ref b] below meth c H locs cn sn (lw_Z below #[Value.ref b] s) (F0 m 161 ls []) := by
  obtain ⟨hx, hb, hr, hml, hown, hts, hX, hbl, hlocks, hgv⟩ := C0
  have htl : ∀ w ∈ wsL_law, w.before #[Value.ref b] s = true := fun w h => hts w (wsL_law_in w h)
  have hA : ∀ q : Nat, s.heap.size ≤ q → (fun q : Nat => s.heap.size ≤ q) q := fun _ h => h
  have hbA : ¬ (fun q : Nat => s.heap.size ≤ q) b := Nat.not_le.mpr hbl
  have hr : X / 3 % 24 < 24 := by omega
  have hc : X / 72 % 8 < 8 := by omega
  have hk : X % 100 < 100 := by omega
  intro H locs ls hP hD hS hl
  by_cases hq : bt zt.1 (X / 72 % 8) = true
  · refine lv_aload_n hx hb dL_law_161 rfl (lv_at hl 1 rfl) ?_
    refine lv_iconst (v := 0) hx hb dL_law_162 (by decide) ?_
    refine lv_iload hx hb dL_law_163 (lv_at hl 4 rfl) ?_
    refine lv_iload_n hx hb dL_law_165 rfl (lv_at hl 3 rfl) ?_
    refine lv_bipush (v := 72) hx hb dL_law_166 (by decide) ?_
    refine lv_idiv hx hb dL_law_168 (by decide) ?_
    refine W.eq (g2 := F0 m 169 ls (.int (nI (X / 72)) :: [.int 2, .int 0, .ref (ad 0)])) (congrArg (fun z => F0 m 169 ls (.int z :: [.int 2, .int 0, .ref (ad 0)])) (pk_div (a := X) (d := 72) (by omega) (by decide) (by decide))) ?_
    refine lv_bipush (v := 8) hx hb dL_law_169 (by decide) ?_
    refine lv_irem hx hb dL_law_171 (by decide) ?_
    refine W.eq (g2 := F0 m 172 ls (.int (nI (X / 72 % 8)) :: [.int 2, .int 0, .ref (ad 0)])) (congrArg (fun z => F0 m 172 ls (.int z :: [.int 2, .int 0, .ref (ad 0)])) (pk_rem (a := X / 72) (d := 8) (by omega) (by decide) (by decide))) ?_
    refine lv_iload_n hx hb dL_law_172 rfl (lv_at hl 3 rfl) ?_
    refine lv_bipush (v := 100) hx hb dL_law_173 (by decide) ?_
    refine lv_irem hx hb dL_law_175 (by decide) ?_
    refine W.eq (g2 := F0 m 176 ls (.int (nI (X % 100)) :: [.int (nI (X / 72 % 8)), .int 2, .int 0, .ref (ad 0)])) (congrArg (fun z => F0 m 176 ls (.int z :: [.int (nI (X / 72 % 8)), .int 2, .int 0, .ref (ad 0)])) (pk_rem (a := X) (d := 100) (by omega) (by decide) (by decide))) ?_
    refine lv_iconst (v := 0) hx hb dL_law_176 (by decide) ?_
    refine mo_i (vx_runSW (As := [.ref (ad 0), .int 0, .int 2, .int (nI (X / 72 % 8)), .int (nI (X % 100)), .int 0]) (rest := []) ⟨hx, hb, hml, hown, htl⟩ (t_A0_3 l hlt D cyI cyZ ad zb zo zt zm (fun _ => 0) (fun _ => 0) zl zf 2 (nI (X / 72 % 8)) (nI (X % 100)) 0 _ _ rfl ((x_ac2 hc hk).trans (if_pos hq))) (vx_cwSW 6 htl gL_law_L_act rfl rfl rfl (by decide +kernel) ⟨Nat.le_of_ble_eq_true rfl, Nat.le_of_ble_eq_true rfl⟩) (poS hG hz hn hP hD hS hA) rfl rfl hl.1 rfl (lv_room (Nat.le_of_ble_eq_true rfl)) dL_law_177 ⟨by show cn + 1 ≤ 692290; omega, by show sn + 6 ≤ 7024755; omega⟩) hD hS hA (rfl) (wE.rf) (fun H locs hP hD hS => ?_)
    refine lv_if_ge (tgt := 187) hx hb dL_law_180 (by decide) (fun c9 => absurd c9 (by decide)) (fun _ => ?_)
    refine lv_iconst (v := 1) hx hb dL_law_183 (by decide) ?_
    refine lv_goto (tgt := 188) hx hb dL_law_184 (by decide) ?_
    refine lv_iload hx hb dL_law_188 (lv_at hl 6 rfl) ?_
    refine lv_icmp_ne (tgt := 253) hx hb dL_law_190 (by decide) (fun c9 => absurd (show (1 : Int32) = h6 from (e6.trans (iB_t hq)).symm) c9) (fun _ => ?_)
    refine W.widen (k := cn + 1) (n := sn + 6) (by omega) (by omega) ?_
    exact KK zt zf (GR.rf it kt) hq H locs ls hP hD hS (lv_sub hl [0, 1, 2, 3, 4, 5, 6] rfl)
  · refine lv_aload_n hx hb dL_law_161 rfl (lv_at hl 1 rfl) ?_
    refine lv_iconst (v := 0) hx hb dL_law_162 (by decide) ?_
    refine lv_iload hx hb dL_law_163 (lv_at hl 4 rfl) ?_
    refine lv_iload_n hx hb dL_law_165 rfl (lv_at hl 3 rfl) ?_
    refine lv_bipush (v := 72) hx hb dL_law_166 (by decide) ?_
    refine lv_idiv hx hb dL_law_168 (by decide) ?_
    refine W.eq (g2 := F0 m 169 ls (.int (nI (X / 72)) :: [.int 2, .int 0, .ref (ad 0)])) (congrArg (fun z => F0 m 169 ls (.int z :: [.int 2, .int 0, .ref (ad 0)])) (pk_div (a := X) (d := 72) (by omega) (by decide) (by decide))) ?_
    refine lv_bipush (v := 8) hx hb dL_law_169 (by decide) ?_
    refine lv_irem hx hb dL_law_171 (by decide) ?_
    refine W.eq (g2 := F0 m 172 ls (.int (nI (X / 72 % 8)) :: [.int 2, .int 0, .ref (ad 0)])) (congrArg (fun z => F0 m 172 ls (.int z :: [.int 2, .int 0, .ref (ad 0)])) (pk_rem (a := X / 72) (d := 8) (by omega) (by decide) (by decide))) ?_
    refine lv_iload_n hx hb dL_law_172 rfl (lv_at hl 3 rfl) ?_
    refine lv_bipush (v := 100) hx hb dL_law_173 (by decide) ?_
    refine lv_irem hx hb dL_law_175 (by decide) ?_
    refine W.eq (g2 := F0 m 176 ls (.int (nI (X % 100)) :: [.int (nI (X / 72 % 8)), .int 2, .int 0, .ref (ad 0)])) (congrArg (fun z => F0 m 176 ls (.int z :: [.int (nI (X / 72 % 8)), .int 2, .int 0, .ref (ad 0)])) (pk_rem (a := X) (d := 100) (by omega) (by decide) (by decide))) ?_
    refine lv_iconst (v := 0) hx hb dL_law_176 (by decide) ?_
    refine mo_i (vx_runSW (As := [.ref (ad 0), .int 0, .int 2, .int (nI (X / 72 % 8)), .int (nI (X % 100)), .int 0]) (rest := []) ⟨hx, hb, hml, hown, htl⟩ (k_A0 l D cyI cyZ ad zb zo zt zm (fun _ => 0) (fun _ => 0) zl zf 2 (nI (X / 72 % 8)) (nI (X % 100)) 0 _ _ rfl ((x_ac2 hc hk).trans (if_neg hq))) (vx_cwSW 6 htl gL_law_L_act rfl rfl rfl (by decide +kernel) ⟨Nat.le_of_ble_eq_true rfl, Nat.le_of_ble_eq_true rfl⟩) (poS hG hz hn hP hD hS hA) rfl rfl hl.1 rfl (lv_room (Nat.le_of_ble_eq_true rfl)) dL_law_177 ⟨by show cn + 0 ≤ 692290; omega, by show sn + 0 ≤ 7024755; omega⟩) hD hS hA (by rw [v_ac2 hc hk hq]) ((wE_eq (by rw [v_ac2 hc hk hq]) : wE _ (wZ cyI cyZ ad zb zo (f_X1_putColumn zt (nI (X / 72 % 8)) (nI (X % 100))) zm (fun _ => 0) (fun _ => 0) zl 0))) (fun H locs hP hD hS => ?_)
    refine lv_if_ge (tgt := 187) hx hb dL_law_180 (by decide) (fun _ => ?_) (fun c9 => absurd (Int32.not_lt.mp (nn_cc (tI_putColumn it hc _ (nf hq)))) c9)
    refine lv_iconst (v := 0) hx hb dL_law_187 (by decide) ?_
    refine lv_iload hx hb dL_law_188 (lv_at hl 6 rfl) ?_
    refine lv_icmp_ne (tgt := 253) hx hb dL_law_190 (by decide) (fun c9 => absurd (show (0 : Int32) = h6 from (e6.trans (iB_f (nf hq))).symm) c9) (fun _ => ?_)
    refine W.widen (k := cn + 1) (n := sn + 6) (by omega) (by omega) ?_
    exact KK (f_X1_putColumn zt (nI (X / 72 % 8)) (nI (X % 100))) 0 (g_col it kt hc _ (nf hq)) (g_col_h hc _) H locs ls hP hD hS (lv_sub hl [0, 1, 2, 3, 4, 5, 6] rfl)
set_option maxHeartbeats 4000000 in
set_option maxRecDepth 100000 in
theorem lD_2 {p : Program} {l : Launch} {e : Env} {s : State} {m : MethodId} {below : List Frame} {meth : Method} {c : Code} {b L : Nat} {xs : Nat → Int32} (C0 : lw_At p s m meth c b L xs) (hlt : l.stackTraces = false) {D : va_G} {cyI cyZ : ClassId} (hG : gP D cyI cyZ s) (hz : zqA (fun q : Nat => s.heap.size ≤ q) s s.heap) (hn : zn s) {ad : Nat → Nat} {zb zo zt zm : Tr} {zl : Lr} {zf : Int32} {j X cn sn : Nat} {h5 h6 : Int32} (hcn : cn ≤ 600000) (hsn : sn ≤ 7000000) (hX9 : X < 16777216) (it : tI zt) (kt : NN zt) (h1 : bt zt.2.1 (X / 3 % 24) = true) (h2 : bt zt.1 (X / 72 % 8) = true)
    (KK : ∀ (t9 : Tr), GR zt t9 → ∀ (H : Heap) (locs : List Loc) (ls : Array Slot), va_P D vwCl (wZ cyI cyZ ad zb zo t9 zm (fun _ => 0) (fun _ => 0) zl 0) H → va_D (fun q : Nat => s.heap.size ≤ q) (wZ cyI cyZ ad zb zo t9 zm (fun _ => 0) (fun _ => 0) zl 0) → va_S (fun q : Nat => s.heap.size ≤ q) s.heap H locs → lv_has ls 7 [(0, .ref b), (1, .ref (ad 0)), (2, .int (nI j))] → W p l e room_1 s m #[Value.ref b] below meth c H locs cn sn (lw_Z below #[Value.ref b] s) (F0 m 220 ls [])) : ∀ (H : Heap) (locs : List Loc) (ls : Array Slot), va_P D vwCl (wZ cyI cyZ ad zb zo zt zm (fun _ => 0) (fun _ => 0) zl zf) H → va_D (fun q : Nat => s.heap.size ≤ q) (wZ cyI cyZ ad zb zo zt zm (fun _ => 0) (fun _ => 0) zl zf) → va_S (fun q : Nat => s.heap.size ≤ q) s.heap H locs → lv_has ls 7 [(0, .ref b), (1, .ref (ad 0)), (2, .int (nI j)), (3, .int (nI X)), (4, .int 2), (5, .int h5), (6, .int h6)] → W p l e room_1 s m #[Value.ref b] below meth c H locs cn sn (lw_Z below #[Value.ref b] s) (F0 m 193 ls []) := by
  obtain ⟨hx, hb, hr, hml, hown, hts, hX, hbl, hlocks, hgv⟩ := C0
  have htl : ∀ w ∈ wsL_law, w.before #[Value.ref b] s = true := fun w h => hts w (wsL_law_in w h)
  have hA : ∀ q : Nat, s.heap.size ≤ q → (fun q : Nat => s.heap.size ≤ q) q := fun _ h => h
  have hbA : ¬ (fun q : Nat => s.heap.size ≤ q) b := Nat.not_le.mpr hbl
  have hr : X / 3 % 24 < 24 := by omega
  have hc : X / 72 % 8 < 8 := by omega
  have hv : X % 9999 < 9999 := by omega
  intro H locs ls hP hD hS hl
  refine lv_aload_n hx hb dL_law_193 rfl (lv_at hl 1 rfl) ?_
  refine lv_iload hx hb dL_law_194 (lv_at hl 4 rfl) ?_
  refine lv_iload_n hx hb dL_law_196 rfl (lv_at hl 3 rfl) ?_
  refine lv_iconst (v := 3) hx hb dL_law_197 (by decide) ?_
  refine lv_idiv hx hb dL_law_198 (by decide) ?_
  refine W.eq (g2 := F0 m 199 ls (.int (nI (X / 3)) :: [.int 2, .ref (ad 0)])) (congrArg (fun z => F0 m 199 ls (.int z :: [.int 2, .ref (ad 0)])) (pk_div (a := X) (d := 3) (by omega) (by decide) (by decide))) ?_
  refine lv_bipush (v := 24) hx hb dL_law_199 (by decide) ?_
  refine lv_irem hx hb dL_law_201 (by decide) ?_
  refine W.eq (g2 := F0 m 202 ls (.int (nI (X / 3 % 24)) :: [.int 2, .ref (ad 0)])) (congrArg (fun z => F0 m 202 ls (.int z :: [.int 2, .ref (ad 0)])) (pk_rem (a := X / 3) (d := 24) (by omega) (by decide) (by decide))) ?_
  refine lv_iload_n hx hb dL_law_202 rfl (lv_at hl 3 rfl) ?_
  refine lv_bipush (v := 72) hx hb dL_law_203 (by decide) ?_
  refine lv_idiv hx hb dL_law_205 (by decide) ?_
  refine W.eq (g2 := F0 m 206 ls (.int (nI (X / 72)) :: [.int (nI (X / 3 % 24)), .int 2, .ref (ad 0)])) (congrArg (fun z => F0 m 206 ls (.int z :: [.int (nI (X / 3 % 24)), .int 2, .ref (ad 0)])) (pk_div (a := X) (d := 72) (by omega) (by decide) (by decide))) ?_
  refine lv_bipush (v := 8) hx hb dL_law_206 (by decide) ?_
  refine lv_irem hx hb dL_law_208 (by decide) ?_
  refine W.eq (g2 := F0 m 209 ls (.int (nI (X / 72 % 8)) :: [.int (nI (X / 3 % 24)), .int 2, .ref (ad 0)])) (congrArg (fun z => F0 m 209 ls (.int z :: [.int (nI (X / 3 % 24)), .int 2, .ref (ad 0)])) (pk_rem (a := X / 72) (d := 8) (by omega) (by decide) (by decide))) ?_
  refine lv_iload_n hx hb dL_law_209 rfl (lv_at hl 3 rfl) ?_
  refine lv_sipush (v := 9999) hx hb dL_law_210 (by decide) ?_
  refine lv_irem hx hb dL_law_213 (by decide) ?_
  refine W.eq (g2 := F0 m 214 ls (.int (nI (X % 9999)) :: [.int (nI (X / 72 % 8)), .int (nI (X / 3 % 24)), .int 2, .ref (ad 0)])) (congrArg (fun z => F0 m 214 ls (.int z :: [.int (nI (X / 72 % 8)), .int (nI (X / 3 % 24)), .int 2, .ref (ad 0)])) (pk_rem (a := X) (d := 9999) (by omega) (by decide) (by decide))) ?_
  refine mo_i (va_runV (As := [.int 2, .int (nI (X / 3 % 24)), .int (nI (X / 72 % 8)), .int (nI (X % 9999))]) (rest := []) ⟨hx, hb, hml, hown, htl⟩ (k_X2_set l D cyI cyZ ad zb zo zt zm (fun _ => 0) (fun _ => 0) zl zf 2 (nI (X / 3 % 24)) (nI (X / 72 % 8)) (nI (X % 9999)) _ _ rfl (x_st2 hr hc hv h1 h2)) (cwV 4 htl gL_law_X2_set rfl rfl rfl (by decide +kernel) ⟨Nat.le_of_ble_eq_true rfl, Nat.le_of_ble_eq_true rfl⟩) (pmV hG hP hD (ci := 2) rfl rfl rfl) rfl rfl hl.1 rfl (lv_room (Nat.le_of_ble_eq_true rfl)) dL_law_214 ⟨by show cn + 0 ≤ 692290; omega, by show sn + 0 ≤ 7024755; omega⟩) hD hS hA (by rw [v_st2 hr hc hv h1 h2]) ((wE_eq (by rw [v_st2 hr hc hv h1 h2]) : wE _ (wZ cyI cyZ ad zb zo (f_X1_putCell zt (nI (X / 3 % 24)) (nI (X / 72 % 8)) (nI (X % 9999))) zm (fun _ => 0) (fun _ => 0) zl 0))) (fun H locs hP hD hS => ?_)
  refine lv_if_lt (tgt := 253) hx hb dL_law_217 (by decide) (fun c9 => absurd c9 (nn_cell it kt hr hc)) (fun _ => ?_)
  exact KK (f_X1_putCell zt (nI (X / 3 % 24)) (nI (X / 72 % 8)) (nI (X % 9999))) (g_cell it kt hr hc (nI_pos (by omega))) H locs ls hP hD hS (lv_sub hl [0, 1, 2] rfl)
theorem mg_op {zb zo zt zm : Tr} {zu zr : Nat → Int32} {zl : Lr} (i0 : tI zb) (i1 : tI zo) (i2 : tI zt) : (f_X2_merge zb zo zt zm zu zr zl).1 = (f_X2_merge zb zo zt zm zu zr zl).2.2.1.2.1 := by
  rw [merge_eq i0 i1 i2]
  exact aps_eq _ _ rfl
theorem mg_mm {zb zo zt zm : Tr} {zu zr : Nat → Int32} {zl : Lr} (i0 : tI zb) (i1 : tI zo) (i2 : tI zt) : MW zb zo zt zu (f_X2_merge zb zo zt zm zu zr zl).2.1 := by
  rw [merge_eq i0 i1 i2]
  exact (MM_T3 zb zo zt zm zu).w
theorem h0_row {t : Tr} (h : bt t.2.1 0 = true) : ¬ f_X1_hasRow t 0 = 0 := by
  show ¬ f_X1_hasRow t (nI 0) = 0
  rw [c_hasRow (by decide), h]; decide
theorem h0_col {t : Tr} (h : bt t.1 0 = true) : ¬ f_X1_hasColumn t 0 = 0 := by
  show ¬ f_X1_hasColumn t (nI 0) = 0
  rw [c_hasColumn (by decide), h]; decide
set_option maxHeartbeats 4000000 in
set_option maxRecDepth 100000 in
theorem lE_ {p : Program} {l : Launch} {e : Env} {s : State} {m : MethodId} {below : List Frame} {meth : Method} {c : Code} {b L : Nat} {xs : Nat → Int32} (C0 : lw_At p s m meth c b L xs) (hlt : l.stackTraces = false) {D : va_G} {cyI cyZ : ClassId} (hG : gP D cyI cyZ s) (hz : zqA (fun q : Nat => s.heap.size ≤ q) s s.heap) (hn : zn s) {ad : Nat → Nat} {zb zo zt zm : Tr} {zl : Lr} {zf : Int32} {j cn sn : Nat} (hcn : cn ≤ 600000) (hsn : sn ≤ 7000000) (hj : j < 30) (hI : IV zb zo zt)
    (KK : ∀ (zm9 : Tr) (zl9 : Lr) (zf9 : Int32), ∀ (H : Heap) (locs : List Loc) (ls : Array Slot), va_P D vwCl (wZ cyI cyZ ad zb zo zt zm9 (fun _ => 0) (fun _ => 0) zl9 zf9) H → va_D (fun q : Nat => s.heap.size ≤ q) (wZ cyI cyZ ad zb zo zt zm9 (fun _ => 0) (fun _ => 0) zl9 zf9) → va_S (fun q : Nat => s.heap.size ≤ q) s.heap H locs → lv_has ls 7 [(0, .ref b), (1, .ref (ad 0)), (2, .int (nI (j + 1)))] → W p l e room_1 s m #[Value.ref b] below meth c H locs (cn + 336) (sn + 2016) (lw_Z below #[Value.ref b] s) (F0 m 47 ls [])) : ∀ (H : Heap) (locs : List Loc) (ls : Array Slot), va_P D vwCl (wZ cyI cyZ ad zb zo zt zm (fun _ => 0) (fun _ => 0) zl zf) H → va_D (fun q : Nat => s.heap.size ≤ q) (wZ cyI cyZ ad zb zo zt zm (fun _ => 0) (fun _ => 0) zl zf) → va_S (fun q : Nat => s.heap.size ≤ q) s.heap H locs → lv_has ls 7 [(0, .ref b), (1, .ref (ad 0)), (2, .int (nI j))] → W p l e room_1 s m #[Value.ref b] below meth c H locs cn sn (lw_Z below #[Value.ref b] s) (F0 m 220 ls []) := by
  obtain ⟨hx, hb, hr, hml, hown, hts, hX, hbl, hlocks, hgv⟩ := C0
  have htl : ∀ w ∈ wsL_law, w.before #[Value.ref b] s = true := fun w h => hts w (wsL_law_in w h)
  have hA : ∀ q : Nat, s.heap.size ≤ q → (fun q : Nat => s.heap.size ≤ q) q := fun _ h => h
  have hbA : ¬ (fun q : Nat => s.heap.size ≤ q) b := Nat.not_le.mpr hbl
  obtain ⟨i0, i1, i2⟩ := hI.1
  obtain ⟨-, k1, k2⟩ := hI.2.1
  intro H locs ls hP hD hS hl
  refine lv_aload_n hx hb dL_law_220 rfl (lv_at hl 1 rfl) ?_
  refine mo_i (va_runV (As := []) (rest := []) ⟨hx, hb, hml, hown, htl⟩ (k_X2_merge l D cyI cyZ ad zb zo zt zm (fun _ => 0) (fun _ => 0) zl zf _ _ rfl) (cwV 0 htl gL_law_X2_merge rfl rfl rfl (by decide +kernel) ⟨Nat.le_of_ble_eq_true rfl, Nat.le_of_ble_eq_true rfl⟩) (pmV hG hP hD (ci := 2) rfl rfl rfl) rfl rfl hl.1 rfl (lv_room (Nat.le_of_ble_eq_true rfl)) dL_law_221 ⟨by show cn + 0 ≤ 692290; omega, by show sn + 0 ≤ 7024755; omega⟩) hD hS hA (rfl) (wE.rf) (fun H locs hP hD hS => ?_)
  refine lv_aload_n hx hb dL_law_224 rfl (lv_at hl 1 rfl) ?_
  refine po_i (va_runV (As := []) (rest := [.int ((f_X2_merge zb zo zt zm (fun _ => 0) (fun _ => 0) zl).1)]) ⟨hx, hb, hml, hown, htl⟩ (k_X2_open l D cyI cyZ ad zb zo zt ((f_X2_merge zb zo zt zm (fun _ => 0) (fun _ => 0) zl).2.1) (fun _ => 0) (fun _ => 0) ((f_X2_merge zb zo zt zm (fun _ => 0) (fun _ => 0) zl).2.2.1) ((f_X2_merge zb zo zt zm (fun _ => 0) (fun _ => 0) zl).2.2.2)) (cwV 0 htl gL_law_X2_open rfl rfl rfl (by decide +kernel) ⟨Nat.le_of_ble_eq_true rfl, Nat.le_of_ble_eq_true rfl⟩) (prV hG hP (ci := 2) rfl rfl rfl) rfl rfl hl.1 rfl (lv_room (Nat.le_of_ble_eq_true rfl)) dL_law_225 ⟨by show cn + 0 ≤ 692290; omega, by show sn + 0 ≤ 7024755; omega⟩) hS hP (rfl) (fun H locs hP hS => ?_)
  refine lv_icmp_ne (tgt := 253) hx hb dL_law_228 (by decide) (fun c9 => absurd (mg_op i0 i1 i2) c9) (fun _ => ?_)
  refine lv_aload_n hx hb dL_law_231 rfl (lv_at hl 1 rfl) ?_
  refine mo_i (va_runS (As := [.ref (ad 0)]) (rest := []) ⟨hx, hb, hml, hown, htl⟩ (k_L_agrees l hlt D cyI cyZ ad zb zo zt ((f_X2_merge zb zo zt zm (fun _ => 0) (fun _ => 0) zl).2.1) (fun _ => 0) (fun _ => 0) ((f_X2_merge zb zo zt zm (fun _ => 0) (fun _ => 0) zl).2.2.1) ((f_X2_merge zb zo zt zm (fun _ => 0) (fun _ => 0) zl).2.2.2) _ _ rfl i0 i1 i2 (mg_mm i0 i1 i2) (hV_of i1 i2 k1 k2 (mg_mm i0 i1 i2))) (va_cwS 1 htl gL_law_L_agrees rfl rfl rfl (by decide +kernel) ⟨Nat.le_of_ble_eq_true rfl, Nat.le_of_ble_eq_true rfl⟩) (poS hG hz hn hP hD hS hA) rfl rfl hl.1 rfl (lv_room (Nat.le_of_ble_eq_true rfl)) dL_law_232 ⟨by show cn + 192 ≤ 692290; omega, by show sn + 1152 ≤ 7024755; omega⟩) hD hS hA rfl wE.rf (fun H locs hP hD hS => ?_)
  refine lv_if_eq (tgt := 253) hx hb dL_law_235 (by decide) (fun c9 => absurd c9 (by decide)) (fun _ => ?_)
  refine lv_iload_n hx hb dL_law_238 rfl (lv_at hl 2 rfl) ?_
  refine lv_iconst (v := 5) hx hb dL_law_239 (by decide) ?_
  refine lv_irem hx hb dL_law_240 (by decide) ?_
  refine W.eq (g2 := F0 m 241 ls (.int (nI (j % 5)) :: [])) (congrArg (fun z => F0 m 241 ls (.int z :: [])) (pk_rem (a := j) (d := 5) (by omega) (by decide) (by decide))) ?_
  by_cases hq : j % 5 = 0
  · refine lv_if_ne (tgt := 255) hx hb dL_law_241 (by decide) (fun c9 => absurd (by rw [hq]; rfl) c9) (fun _ => ?_)
    refine lv_aload_n hx hb dL_law_244 rfl (lv_at hl 1 rfl) ?_
    refine lv_iconst (v := 0) hx hb dL_law_245 (by decide) ?_
    refine lv_iconst (v := 0) hx hb dL_law_246 (by decide) ?_
    refine mo_i (va_runS (As := [.ref (ad 0), .int 0, .int 0]) (rest := []) ⟨hx, hb, hml, hown, htl⟩ (k_L_refuses l hlt D cyI cyZ ad zb zo zt ((f_X2_merge zb zo zt zm (fun _ => 0) (fun _ => 0) zl).2.1) (fun _ => 0) (fun _ => 0) ((f_X2_merge zb zo zt zm (fun _ => 0) (fun _ => 0) zl).2.2.1) ((f_X2_merge zb zo zt zm (fun _ => 0) (fun _ => 0) zl).2.2.2) 0 0 _ _ rfl (h0_row hI.2.2.2) (h0_col hI.2.2.1)) (va_cwS 3 htl gL_law_L_refuses rfl rfl rfl (by decide +kernel) ⟨Nat.le_of_ble_eq_true rfl, Nat.le_of_ble_eq_true rfl⟩) (poS hG hz hn hP hD hS hA) rfl rfl hl.1 rfl (lv_room (Nat.le_of_ble_eq_true rfl)) dL_law_247 ⟨by show cn + 192 + 144 ≤ 692290; omega, by show sn + 1152 + 864 ≤ 7024755; omega⟩) hD hS hA rfl wE.rf (fun H locs hP hD hS => ?_)
    refine lv_if_ne (tgt := 255) hx hb dL_law_250 (by decide) (fun _ => ?_) (fun c9 => absurd c9 (by decide))
    refine lv_iinc (v := nI (j + 1)) (lv' := [(2, .int (nI (j + 1))), (0, .ref b), (1, .ref (ad 0))]) hx hb dL_law_255 hl (k := 2) rfl (nI_1 _) (by decide) rfl (fun ls hl => ?_)
    refine lv_goto (tgt := 47) hx hb dL_law_258 (by decide) ?_
    refine W.widen (k := cn + 336) (n := sn + 2016) (by omega) (by omega) ?_
    exact KK _ _ _ H locs ls hP hD hS (lv_sub hl [1, 2, 0] rfl)
  · refine lv_if_ne (tgt := 255) hx hb dL_law_241 (by decide) (fun _ => ?_) (fun c9 => absurd c9 (nI_ne0 (by omega) (by omega)))
    refine lv_iinc (v := nI (j + 1)) (lv' := [(2, .int (nI (j + 1))), (0, .ref b), (1, .ref (ad 0))]) hx hb dL_law_255 hl (k := 2) rfl (nI_1 _) (by decide) rfl (fun ls hl => ?_)
    refine lv_goto (tgt := 47) hx hb dL_law_258 (by decide) ?_
    refine W.widen (k := cn + 336) (n := sn + 2016) (by omega) (by omega) ?_
    exact KK _ _ _ H locs ls hP hD hS (lv_sub hl [1, 2, 0] rfl)
