/-! ===== what there is not is refused ===== -/
theorem no8 {x : Int32} (h : f_X2_isColumnNumber x = 0) (t : Tr) : f_X1_hasColumn t x = 0 := c_hasColumn_o (fun z => by rw [isCol_t z] at h; exact absurd h (by decide))
theorem no24 {x : Int32} (h : f_X2_isKey x = 0) (t : Tr) : f_X1_hasRow t x = 0 := c_hasRow_o (fun z => by rw [isKey_t z] at h; exact absurd h (by decide))
section Ref
variable {zb zo zt zm : Tr} {zu : Nat → Int32} {zl : Lr} {zf : Int32} {a b c d : Int32}
theorem q_rco {t : Tr} (h : f_X2_isColumnNumber b = 0) : f_X2_requireColumnOf_x t b = 1 := by rw [f_X2_requireColumnOf_x, if_pos (no8 h t)]
theorem q_rcoY {t : Tr} (h : ¬ f_X1_hasColumn t b = 0) : f_X2_requireColumnOf_x t b = 0 := by rw [f_X2_requireColumnOf_x, if_neg h]
theorem q_rro {t : Tr} (h : f_X2_isKey b = 0) : f_X2_requireRowOf_x t b = 1 := by rw [f_X2_requireRowOf_x, if_pos (no24 h t)]
theorem q_rroY {t : Tr} (h : ¬ f_X1_hasRow t b = 0) : f_X2_requireRowOf_x t b = 0 := by rw [f_X2_requireRowOf_x, if_neg h]
theorem q_ac_t (h : ¬ a = 0 ∧ ¬ a = 1 ∧ ¬ a = 2) : f_X2_addColumn_x zb zo zt a b c = 1 := by rw [f_X2_addColumn_x, if_neg h.1, if_neg h.2.1, if_neg h.2.2]
theorem q_ac_c (h : f_X2_requireColumnNumber_x b = 1) : f_X2_addColumn_x zb zo zt 0 b c = 1 := by rw [f_X2_addColumn_x, if_pos rfl, h, if_neg (by decide)]
theorem q_ac_n (hc : ¬ f_X1_hasColumn zo b = 0) (h : f_X2_requireName_x c = 2) : f_X2_addColumn_x zb zo zt 1 b c = 2 := by rw [f_X2_addColumn_x, if_neg (by decide), if_pos rfl, rqCol_t (in_col hc), if_pos rfl, h, if_neg (by decide)]
theorem q_ac_s (hc : ¬ f_X1_hasColumn zo b = 0) : f_X2_addColumn_x zb zo zt 1 b 5 = 3 := by rw [f_X2_addColumn_x, if_neg (by decide), if_pos rfl, rqCol_t (in_col hc), if_pos rfl, show f_X2_requireName_x 5 = 0 by decide, if_pos rfl, if_neg hc]
theorem q_dc_t (h : ¬ a = 0 ∧ ¬ a = 1 ∧ ¬ a = 2) : f_X2_dropColumn_x zb zo zt a b = 1 := by rw [f_X2_dropColumn_x, if_neg h.1, if_neg h.2.1, if_neg h.2.2]
theorem q_dc_c (h : f_X2_isColumnNumber b = 0) : f_X2_dropColumn_x zb zo zt 1 b = 1 := by rw [f_X2_dropColumn_x, if_neg (by decide), if_pos rfl, q_rco h, if_neg (by decide)]
theorem q_rn_t (h : ¬ a = 0 ∧ ¬ a = 1 ∧ ¬ a = 2) : f_X2_rename_x zb zo zt a b c = 1 := by rw [f_X2_rename_x, if_neg h.1, if_neg h.2.1, if_neg h.2.2]
theorem q_rn_c (h : f_X2_isColumnNumber b = 0) : f_X2_rename_x zb zo zt 1 b c = 1 := by rw [f_X2_rename_x, if_neg (by decide), if_pos rfl, q_rco h, if_neg (by decide)]
theorem q_rn_n (hc : ¬ f_X1_hasColumn zo b = 0) (h : f_X2_requireName_x c = 2) : f_X2_rename_x zb zo zt 1 b c = 2 := by rw [f_X2_rename_x, if_neg (by decide), if_pos rfl, q_rcoY hc, if_pos rfl, h, if_neg (by decide)]
theorem q_ar_t (h : ¬ a = 0 ∧ ¬ a = 1 ∧ ¬ a = 2) : f_X2_addRow_x zb zo zt a b = 1 := by rw [f_X2_addRow_x, if_neg h.1, if_neg h.2.1, if_neg h.2.2]
theorem q_ar_k (h : f_X2_requireKey_x b = 1) : f_X2_addRow_x zb zo zt 0 b = 1 := by rw [f_X2_addRow_x, if_pos rfl, h, if_neg (by decide)]
theorem q_ar_s (hr : ¬ f_X1_hasRow zo b = 0) : f_X2_addRow_x zb zo zt 1 b = 3 := by rw [f_X2_addRow_x, if_neg (by decide), if_pos rfl, rqKey_t (in_row hr), if_pos rfl, if_neg hr]
theorem q_rr_t (h : ¬ a = 0 ∧ ¬ a = 1 ∧ ¬ a = 2) : f_X2_removeRow_x zb zo zt a b = 1 := by rw [f_X2_removeRow_x, if_neg h.1, if_neg h.2.1, if_neg h.2.2]
theorem q_rr_k (h : f_X2_isKey b = 0) : f_X2_removeRow_x zb zo zt 1 b = 1 := by rw [f_X2_removeRow_x, if_neg (by decide), if_pos rfl, q_rro h, if_neg (by decide)]
theorem q_st_t (h : ¬ a = 0 ∧ ¬ a = 1 ∧ ¬ a = 2) : f_X2_set_x zb zo zt a b c d = 1 := by rw [f_X2_set_x, if_neg h.1, if_neg h.2.1, if_neg h.2.2]
theorem q_st_r (h : f_X2_isKey b = 0) : f_X2_set_x zb zo zt 1 b c d = 1 := by rw [f_X2_set_x, if_neg (by decide), if_pos rfl, q_rro h, if_neg (by decide)]
theorem q_st_c (hr : ¬ f_X1_hasRow zo b = 0) (h : f_X2_isColumnNumber c = 0) : f_X2_set_x zb zo zt 1 b c d = 1 := by rw [f_X2_set_x, if_neg (by decide), if_pos rfl, q_rroY hr, if_pos rfl, q_rco h, if_neg (by decide)]
theorem q_st_v (hr : ¬ f_X1_hasRow zo b = 0) (hc : ¬ f_X1_hasColumn zo c = 0) (h : d < -9999 ∨ ¬ d ≤ 9999) : f_X2_set_x zb zo zt 1 b c d = 2 := by
  rw [f_X2_set_x, if_neg (by decide), if_pos rfl, q_rroY hr, if_pos rfl, q_rcoY hc, if_pos rfl]
  by_cases h1 : d < -9999
  · rw [if_pos h1]
  · rw [if_neg h1, if_neg (h.resolve_left h1)]
theorem q_nm_t (h : ¬ a = 0 ∧ ¬ a = 1 ∧ ¬ a = 2 ∧ ¬ a = 3) : f_X2_name_x zb zo zt zm a b = 1 := by rw [f_X2_name_x, if_neg h.1, if_neg h.2.1, if_neg h.2.2.1, if_neg h.2.2.2]
theorem q_nm_c (h : f_X2_isColumnNumber b = 0) : f_X2_name_x zb zo zt zm 1 b = 1 := by rw [f_X2_name_x, if_neg (by decide), if_pos rfl, q_rco h, if_neg (by decide)]
theorem q_gt_t (h : ¬ a = 0 ∧ ¬ a = 1 ∧ ¬ a = 2 ∧ ¬ a = 3) : f_X2_get_x zb zo zt zm a b c = 1 := by rw [f_X2_get_x, if_neg h.1, if_neg h.2.1, if_neg h.2.2.1, if_neg h.2.2.2]
theorem q_gt_r (h : f_X2_isKey b = 0) : f_X2_get_x zb zo zt zm 1 b c = 1 := by rw [f_X2_get_x, if_neg (by decide), if_pos rfl, q_rro h, if_neg (by decide)]
theorem q_gt_c (hr : ¬ f_X1_hasRow zo b = 0) (h : f_X2_isColumnNumber c = 0) : f_X2_get_x zb zo zt zm 1 b c = 1 := by rw [f_X2_get_x, if_neg (by decide), if_pos rfl, q_rroY hr, if_pos rfl, q_rco h, if_neg (by decide)]
theorem q_by_k (h : f_X2_requireKey_x a = 1) : f_X2_cellByChanges_x zb zo zt zu a b = 1 := by rw [f_X2_cellByChanges_x, h, if_neg (by decide)]
theorem q_by_c (h : f_X2_requireColumnNumber_x b = 1) : f_X2_cellByChanges_x zb zo zt zu 0 b = 1 := by rw [f_X2_cellByChanges_x, show f_X2_requireKey_x 0 = 0 by decide, if_pos rfl, h, if_neg (by decide)]
theorem q_se_s (h : ¬ b = 1 ∧ ¬ b = 2) : f_X2_settle_x zl zf 0 b = 1 := by
  rw [f_X2_settle_x, f_X2_requireConflict_x]
  by_cases g : f_X0_holds zl 0 = 0
  · rw [if_pos g]; rfl
  · rw [if_neg g, if_pos rfl, if_neg h.1, if_neg h.2]
/-- no place of the list: below it, or at its end or beyond -/
theorem q_rcf (h : a < 0 ∨ zl.1 ≤ a) : f_X2_requireConflict_x zl a = 1 := by
  have k : f_X0_holds zl a = 0 := by
    rw [f_X0_holds]
    by_cases h1 : a < 0
    · rw [if_pos h1]
    · rw [if_neg h1, if_pos (h.resolve_left h1)]
  rw [f_X2_requireConflict_x, if_pos k]
theorem q_ki (h : a < 0 ∨ zl.1 ≤ a) : f_X2_kindOf_x zl a = 1 := by rw [f_X2_kindOf_x, q_rcf h, if_neg (by decide)]
theorem q_ke (h : a < 0 ∨ zl.1 ≤ a) : f_X2_keyOf_x zl a = 1 := by rw [f_X2_keyOf_x, q_rcf h, if_neg (by decide)]
theorem q_co (h : a < 0 ∨ zl.1 ≤ a) : f_X2_columnOf_x zl a = 1 := by rw [f_X2_columnOf_x, q_rcf h, if_neg (by decide)]
theorem q_se (h : a < 0 ∨ zl.1 ≤ a) : f_X2_settle_x zl zf a b = 1 := by rw [f_X2_settle_x, q_rcf h, if_neg (by decide)]
theorem most_le (x : Int32) : x ≤ 2147483647 := by
  rw [Int32.le_iff_toInt_le]
  have h1 := x.toBitVec.isLt
  have h2 : x.toInt < 2147483648 := Int32.toInt_lt x
  have h3 : (2147483647 : Int32).toInt = 2147483647 := by decide
  omega
end Ref
set_option maxHeartbeats 8000000 in
set_option maxRecDepth 100000 in
theorem rf_0 {p : Program} {l : Launch} {e : Env} {s : State} {m : MethodId} {args : Array Value} {below : List Frame} {meth : Method} {c : Code} {Q : State → Prop} (hlt : l.stackTraces = false) {D : va_G} {cyI cyZ : ClassId} {ad : Nat → Nat} {zb : Tr} {zo : Tr} {zt : Tr} {zm : Tr} {zu : Nat → Int32} {zr : Nat → Int32} {zl : Lr} {zf : Int32} {p2 p3 : Int32} {A : Nat → Prop} (hr9 : ¬ f_X1_hasRow zo p2 = 0) (hc9 : ¬ f_X1_hasColumn zo p3 = 0) (hx : p.tables.exec = Jvm.exec) (hb : c.code = cL_refuses) (hml : c.maxLocals = 18) (hown : s.vm.findClass RL = some m.cls) (hts : ∀ w ∈ wsL_refuses, w.before args s = true) (hG : gP D cyI cyZ s) (hz : zqA A s s.heap) (hn : zn s) (hA : ∀ q : Nat, s.heap.size ≤ q → A q)
    (KK : ∀ (H : Heap) (locs : List Loc) (ls : Array Slot), va_P D vwCl (wZ cyI cyZ ad zb zo zt zm zu zr zl zf) H → va_D A (wZ cyI cyZ ad zb zo zt zm zu zr zl zf) → va_S A s.heap H locs → lv_has ls 18 [(0, .ref (ad 0)), (1, .int p2), (2, .int p3), (3, .int zl.1), (4, .int zl.2.1), (5, .int (-20001)), (6, .int (-20002)), (7, .int 2147483647), (8, .int 1)] → W p l e (headSpec wsL_refuses ({ frames := 10, cells := 144, slots := 864, locals := 194 } : Room)).room s m args below meth c H locs 36 216 Q (F0 m 28 ls [])) : ∀ (H : Heap) (locs : List Loc) (ls : Array Slot), va_P D vwCl (wZ cyI cyZ ad zb zo zt zm zu zr zl zf) H → va_D A (wZ cyI cyZ ad zb zo zt zm zu zr zl zf) → va_S A s.heap H locs → lv_has ls 18 [(0, .ref (ad 0)), (1, .int p2), (2, .int p3), (3, .int zl.1), (4, .int zl.2.1), (5, .int (-20001)), (6, .int (-20002)), (7, .int 2147483647), (8, .int 0)] → W p l e (headSpec wsL_refuses ({ frames := 10, cells := 144, slots := 864, locals := 194 } : Room)).room s m args below meth c H locs 0 0 Q (F0 m 28 ls []) := by
  intro H locs ls hP hD hS hl
  refine lv_iload hx hb dL_refuses_28 (lv_at hl 8 rfl) ?_
  refine lv_iconst (v := 4) hx hb dL_refuses_30 (by decide) ?_
  refine lv_icmp_ge (tgt := 766) hx hb dL_refuses_31 (by decide) (fun c9 => absurd c9 (by decide)) (fun _ => ?_)
  refine lv_iload hx hb dL_refuses_34 (lv_at hl 8 rfl) ?_
  refine lv_if_ne (tgt := 43) hx hb dL_refuses_36 (by decide) (fun c9 => absurd (by decide) c9) (fun _ => ?_)
  refine lv_iconst (v := (-1)) hx hb dL_refuses_39 (by decide) ?_
  refine lv_goto (tgt := 59) hx hb dL_refuses_40 (by decide) ?_
  refine lv_istore (lv' := [(9, .int (-1)), (0, .ref (ad 0)), (1, .int p2), (2, .int p3), (3, .int zl.1), (4, .int zl.2.1), (5, .int (-20001)), (6, .int (-20002)), (7, .int 2147483647), (8, .int 0)]) hx hb dL_refuses_59 hl (by decide) rfl (fun ls hl => ?_)
  refine lv_iload hx hb dL_refuses_61 (lv_at hl 9 rfl) ?_
  refine lv_iconst (v := 1) hx hb dL_refuses_63 (by decide) ?_
  refine lv_icmp_ne (tgt := 71) hx hb dL_refuses_64 (by decide) (fun _ => ?_) (fun c9 => absurd c9 (by decide))
  refine lv_iload hx hb dL_refuses_71 (lv_at hl 0 rfl) ?_
  refine lv_istore (lv' := [(10, .int (-1)), (9, .int (-1)), (0, .ref (ad 0)), (1, .int p2), (2, .int p3), (3, .int zl.1), (4, .int zl.2.1), (5, .int (-20001)), (6, .int (-20002)), (7, .int 2147483647), (8, .int 0)]) hx hb dL_refuses_73 hl (by decide) rfl (fun ls hl => ?_)
  refine lv_iload hx hb dL_refuses_75 (lv_at hl 10 rfl) ?_
  refine lv_iconst (v := 1) hx hb dL_refuses_77 (by decide) ?_
  refine lv_icmp_ne (tgt := 85) hx hb dL_refuses_78 (by decide) (fun _ => ?_) (fun c9 => absurd c9 (by decide))
  refine lv_iload hx hb dL_refuses_85 (lv_at hl 1 rfl) ?_
  refine lv_istore (lv' := [(11, .int (-1)), (10, .int (-1)), (9, .int (-1)), (0, .ref (ad 0)), (1, .int p2), (2, .int p3), (3, .int zl.1), (4, .int zl.2.1), (5, .int (-20001)), (6, .int (-20002)), (7, .int 2147483647), (8, .int 0)]) hx hb dL_refuses_87 hl (by decide) rfl (fun ls hl => ?_)
  refine lv_iload hx hb dL_refuses_89 (lv_at hl 11 rfl) ?_
  refine lv_iconst (v := 1) hx hb dL_refuses_91 (by decide) ?_
  refine lv_icmp_ne (tgt := 100) hx hb dL_refuses_92 (by decide) (fun _ => ?_) (fun c9 => absurd c9 (by decide))
  refine lv_iload hx hb dL_refuses_100 (lv_at hl 2 rfl) ?_
  refine lv_istore (lv' := [(12, .int (-1)), (11, .int (-1)), (10, .int (-1)), (9, .int (-1)), (0, .ref (ad 0)), (1, .int p2), (2, .int p3), (3, .int zl.1), (4, .int zl.2.1), (5, .int (-20001)), (6, .int (-20002)), (7, .int 2147483647), (8, .int 0)]) hx hb dL_refuses_102 hl (by decide) rfl (fun ls hl => ?_)
  refine lv_iload hx hb dL_refuses_104 (lv_at hl 12 rfl) ?_
  refine lv_iconst (v := 1) hx hb dL_refuses_106 (by decide) ?_
  refine lv_icmp_ne (tgt := 115) hx hb dL_refuses_107 (by decide) (fun _ => ?_) (fun c9 => absurd c9 (by decide))
  refine lv_iload hx hb dL_refuses_115 (lv_at hl 3 rfl) ?_
  refine lv_istore (lv' := [(13, .int (-1)), (12, .int (-1)), (11, .int (-1)), (10, .int (-1)), (9, .int (-1)), (0, .ref (ad 0)), (1, .int p2), (2, .int p3), (3, .int zl.1), (4, .int zl.2.1), (5, .int (-20001)), (6, .int (-20002)), (7, .int 2147483647), (8, .int 0)]) hx hb dL_refuses_117 hl (by decide) rfl (fun ls hl => ?_)
  refine lv_iload hx hb dL_refuses_119 (lv_at hl 13 rfl) ?_
  refine lv_iconst (v := 1) hx hb dL_refuses_121 (by decide) ?_
  refine lv_icmp_ne (tgt := 130) hx hb dL_refuses_122 (by decide) (fun _ => ?_) (fun c9 => absurd c9 (by decide))
  refine lv_iload hx hb dL_refuses_130 (lv_at hl 4 rfl) ?_
  refine lv_istore (lv' := [(14, .int (-1)), (13, .int (-1)), (12, .int (-1)), (11, .int (-1)), (10, .int (-1)), (9, .int (-1)), (0, .ref (ad 0)), (1, .int p2), (2, .int p3), (3, .int zl.1), (4, .int zl.2.1), (5, .int (-20001)), (6, .int (-20002)), (7, .int 2147483647), (8, .int 0)]) hx hb dL_refuses_132 hl (by decide) rfl (fun ls hl => ?_)
  refine lv_iload hx hb dL_refuses_134 (lv_at hl 14 rfl) ?_
  refine lv_if_ne (tgt := 143) hx hb dL_refuses_136 (by decide) (fun c9 => absurd (by decide) c9) (fun _ => ?_)
  refine lv_iconst (v := 0) hx hb dL_refuses_139 (by decide) ?_
  refine lv_goto (tgt := 145) hx hb dL_refuses_140 (by decide) ?_
  refine lv_istore (lv' := [(15, .int 0), (14, .int (-1)), (13, .int (-1)), (12, .int (-1)), (11, .int (-1)), (10, .int (-1)), (9, .int (-1)), (0, .ref (ad 0)), (1, .int p2), (2, .int p3), (3, .int zl.1), (4, .int zl.2.1), (5, .int (-20001)), (6, .int (-20002)), (7, .int 2147483647), (8, .int 0)]) hx hb dL_refuses_145 hl (by decide) rfl (fun ls hl => ?_)
  refine lv_aload_n hx hb dL_refuses_147 rfl (lv_at hl 7 rfl) ?_
  refine lv_iconst (v := 0) hx hb dL_refuses_148 (by decide) ?_
  refine lv_iload hx hb dL_refuses_149 (lv_at hl 5 rfl) ?_
  refine lv_iconst (v := 0) hx hb dL_refuses_151 (by decide) ?_
  refine lv_iconst (v := 0) hx hb dL_refuses_152 (by decide) ?_
  refine lv_iconst (v := 0) hx hb dL_refuses_153 (by decide) ?_
  refine mo_i (vx_runSW (As := [.ref (ad 0), .int 0, .int (-1), .int 0, .int 0, .int 0]) (rest := []) ⟨hx, hb, hml, hown, hts⟩ (t_A0_1 l hlt D cyI cyZ ad zb zo zt zm zu zr zl zf (-1) 0 0 0 _ _ rfl (q_ac_t (by decide))) (vx_cwSW 6 hts gL_refuses_L_act rfl rfl rfl (by decide +kernel) ⟨Nat.le_of_ble_eq_true rfl, Nat.le_of_ble_eq_true rfl⟩) (poS hG hz hn hP hD hS hA) rfl rfl hl.1 rfl (lv_room (Nat.le_of_ble_eq_true rfl)) dL_refuses_154 ⟨Nat.le_of_ble_eq_true rfl, Nat.le_of_ble_eq_true rfl⟩) hD hS hA (rfl) (wE.rf) (fun H locs hP hD hS => ?_)
  refine W.widen (k := 1) (n := 6) (Nat.le_of_ble_eq_true rfl) (Nat.le_of_ble_eq_true rfl) ?_
  refine lv_iload hx hb dL_refuses_157 (lv_at hl 12 rfl) ?_
  refine lv_icmp_ne (tgt := 361) hx hb dL_refuses_159 (by decide) (fun c9 => absurd (by decide) c9) (fun _ => ?_)
  refine lv_aload_n hx hb dL_refuses_162 rfl (lv_at hl 7 rfl) ?_
  refine lv_iconst (v := 0) hx hb dL_refuses_163 (by decide) ?_
  refine lv_iconst (v := 0) hx hb dL_refuses_164 (by decide) ?_
  refine lv_iload hx hb dL_refuses_165 (lv_at hl 3 rfl) ?_
  refine lv_iconst (v := (-1)) hx hb dL_refuses_167 (by decide) ?_
  refine lv_iconst (v := 0) hx hb dL_refuses_168 (by decide) ?_
  refine mo_i (vx_runSW (As := [.ref (ad 0), .int 0, .int 0, .int (-1), .int (-1), .int 0]) (rest := []) ⟨hx, hb, hml, hown, hts⟩ (t_A0_1 l hlt D cyI cyZ ad zb zo zt zm zu zr zl zf 0 (-1) (-1) 0 _ _ rfl (q_ac_c (by decide))) (vx_cwSW 6 hts gL_refuses_L_act rfl rfl rfl (by decide +kernel) ⟨Nat.le_of_ble_eq_true rfl, Nat.le_of_ble_eq_true rfl⟩) (poS hG hz hn hP hD hS hA) rfl rfl hl.1 rfl (lv_room (Nat.le_of_ble_eq_true rfl)) dL_refuses_169 ⟨Nat.le_of_ble_eq_true rfl, Nat.le_of_ble_eq_true rfl⟩) hD hS hA (rfl) (wE.rf) (fun H locs hP hD hS => ?_)
  refine W.widen (k := 2) (n := 12) (Nat.le_of_ble_eq_true rfl) (Nat.le_of_ble_eq_true rfl) ?_
  refine lv_iload hx hb dL_refuses_172 (lv_at hl 12 rfl) ?_
  refine lv_icmp_ne (tgt := 361) hx hb dL_refuses_174 (by decide) (fun c9 => absurd (by decide) c9) (fun _ => ?_)
  refine lv_aload_n hx hb dL_refuses_177 rfl (lv_at hl 7 rfl) ?_
  refine lv_iconst (v := 0) hx hb dL_refuses_178 (by decide) ?_
  refine lv_iconst (v := 1) hx hb dL_refuses_179 (by decide) ?_
  refine lv_iload_n hx hb dL_refuses_180 rfl (lv_at hl 9 rfl) ?_
  refine lv_iload hx hb dL_refuses_181 (lv_at hl 1 rfl) ?_
  refine lv_iconst (v := 0) hx hb dL_refuses_183 (by decide) ?_
  refine mo_i (vx_runSW (As := [.ref (ad 0), .int 0, .int 1, .int p3, .int (-1), .int 0]) (rest := []) ⟨hx, hb, hml, hown, hts⟩ (t_A0_2 l hlt D cyI cyZ ad zb zo zt zm zu zr zl zf 1 p3 (-1) 0 _ _ rfl (q_ac_n hc9 (by decide))) (vx_cwSW 6 hts gL_refuses_L_act rfl rfl rfl (by decide +kernel) ⟨Nat.le_of_ble_eq_true rfl, Nat.le_of_ble_eq_true rfl⟩) (poS hG hz hn hP hD hS hA) rfl rfl hl.1 rfl (lv_room (Nat.le_of_ble_eq_true rfl)) dL_refuses_184 ⟨Nat.le_of_ble_eq_true rfl, Nat.le_of_ble_eq_true rfl⟩) hD hS hA (rfl) (wE.rf) (fun H locs hP hD hS => ?_)
  refine W.widen (k := 3) (n := 18) (Nat.le_of_ble_eq_true rfl) (Nat.le_of_ble_eq_true rfl) ?_
  refine lv_iload hx hb dL_refuses_187 (lv_at hl 13 rfl) ?_
  refine lv_icmp_ne (tgt := 361) hx hb dL_refuses_189 (by decide) (fun c9 => absurd (by decide) c9) (fun _ => ?_)
  refine lv_aload_n hx hb dL_refuses_192 rfl (lv_at hl 7 rfl) ?_
  refine lv_iconst (v := 0) hx hb dL_refuses_193 (by decide) ?_
  refine lv_iconst (v := 1) hx hb dL_refuses_194 (by decide) ?_
  refine lv_iload_n hx hb dL_refuses_195 rfl (lv_at hl 9 rfl) ?_
  refine lv_iconst (v := 5) hx hb dL_refuses_196 (by decide) ?_
  refine lv_iconst (v := 0) hx hb dL_refuses_197 (by decide) ?_
  refine mo_i (vx_runSW (As := [.ref (ad 0), .int 0, .int 1, .int p3, .int 5, .int 0]) (rest := []) ⟨hx, hb, hml, hown, hts⟩ (t_A0_3 l hlt D cyI cyZ ad zb zo zt zm zu zr zl zf 1 p3 5 0 _ _ rfl (q_ac_s hc9)) (vx_cwSW 6 hts gL_refuses_L_act rfl rfl rfl (by decide +kernel) ⟨Nat.le_of_ble_eq_true rfl, Nat.le_of_ble_eq_true rfl⟩) (poS hG hz hn hP hD hS hA) rfl rfl hl.1 rfl (lv_room (Nat.le_of_ble_eq_true rfl)) dL_refuses_198 ⟨Nat.le_of_ble_eq_true rfl, Nat.le_of_ble_eq_true rfl⟩) hD hS hA (rfl) (wE.rf) (fun H locs hP hD hS => ?_)
  refine W.widen (k := 4) (n := 24) (Nat.le_of_ble_eq_true rfl) (Nat.le_of_ble_eq_true rfl) ?_
  refine lv_sipush (v := (-20003)) hx hb dL_refuses_201 (by decide) ?_
  refine lv_icmp_ne (tgt := 361) hx hb dL_refuses_204 (by decide) (fun c9 => absurd (by decide) c9) (fun _ => ?_)
  refine lv_aload_n hx hb dL_refuses_207 rfl (lv_at hl 7 rfl) ?_
  refine lv_iconst (v := 1) hx hb dL_refuses_208 (by decide) ?_
  refine lv_iload hx hb dL_refuses_209 (lv_at hl 5 rfl) ?_
  refine lv_iload_n hx hb dL_refuses_211 rfl (lv_at hl 9 rfl) ?_
  refine lv_iconst (v := 0) hx hb dL_refuses_212 (by decide) ?_
  refine lv_iconst (v := 0) hx hb dL_refuses_213 (by decide) ?_
  refine mo_i (vx_runSW (As := [.ref (ad 0), .int 1, .int (-1), .int p3, .int 0, .int 0]) (rest := []) ⟨hx, hb, hml, hown, hts⟩ (t_A1_1 l hlt D cyI cyZ ad zb zo zt zm zu zr zl zf (-1) p3 0 0 _ _ rfl (q_dc_t (by decide))) (vx_cwSW 6 hts gL_refuses_L_act rfl rfl rfl (by decide +kernel) ⟨Nat.le_of_ble_eq_true rfl, Nat.le_of_ble_eq_true rfl⟩) (poS hG hz hn hP hD hS hA) rfl rfl hl.1 rfl (lv_room (Nat.le_of_ble_eq_true rfl)) dL_refuses_214 ⟨Nat.le_of_ble_eq_true rfl, Nat.le_of_ble_eq_true rfl⟩) hD hS hA (rfl) (wE.rf) (fun H locs hP hD hS => ?_)
  refine W.widen (k := 5) (n := 30) (Nat.le_of_ble_eq_true rfl) (Nat.le_of_ble_eq_true rfl) ?_
  refine lv_iload hx hb dL_refuses_217 (lv_at hl 12 rfl) ?_
  refine lv_icmp_ne (tgt := 361) hx hb dL_refuses_219 (by decide) (fun c9 => absurd (by decide) c9) (fun _ => ?_)
  refine lv_aload_n hx hb dL_refuses_222 rfl (lv_at hl 7 rfl) ?_
  refine lv_iconst (v := 1) hx hb dL_refuses_223 (by decide) ?_
  refine lv_iconst (v := 1) hx hb dL_refuses_224 (by decide) ?_
  refine lv_iload hx hb dL_refuses_225 (lv_at hl 3 rfl) ?_
  refine lv_iconst (v := 0) hx hb dL_refuses_227 (by decide) ?_
  refine lv_iconst (v := 0) hx hb dL_refuses_228 (by decide) ?_
  refine mo_i (vx_runSW (As := [.ref (ad 0), .int 1, .int 1, .int (-1), .int 0, .int 0]) (rest := []) ⟨hx, hb, hml, hown, hts⟩ (t_A1_1 l hlt D cyI cyZ ad zb zo zt zm zu zr zl zf 1 (-1) 0 0 _ _ rfl (q_dc_c (by decide))) (vx_cwSW 6 hts gL_refuses_L_act rfl rfl rfl (by decide +kernel) ⟨Nat.le_of_ble_eq_true rfl, Nat.le_of_ble_eq_true rfl⟩) (poS hG hz hn hP hD hS hA) rfl rfl hl.1 rfl (lv_room (Nat.le_of_ble_eq_true rfl)) dL_refuses_229 ⟨Nat.le_of_ble_eq_true rfl, Nat.le_of_ble_eq_true rfl⟩) hD hS hA (rfl) (wE.rf) (fun H locs hP hD hS => ?_)
  refine W.widen (k := 6) (n := 36) (Nat.le_of_ble_eq_true rfl) (Nat.le_of_ble_eq_true rfl) ?_
  refine lv_iload hx hb dL_refuses_232 (lv_at hl 12 rfl) ?_
  refine lv_icmp_ne (tgt := 361) hx hb dL_refuses_234 (by decide) (fun c9 => absurd (by decide) c9) (fun _ => ?_)
  refine lv_aload_n hx hb dL_refuses_237 rfl (lv_at hl 7 rfl) ?_
  refine lv_iconst (v := 2) hx hb dL_refuses_238 (by decide) ?_
  refine lv_iload hx hb dL_refuses_239 (lv_at hl 5 rfl) ?_
  refine lv_iload_n hx hb dL_refuses_241 rfl (lv_at hl 9 rfl) ?_
  refine lv_iconst (v := 0) hx hb dL_refuses_242 (by decide) ?_
  refine lv_iconst (v := 0) hx hb dL_refuses_243 (by decide) ?_
  refine mo_i (vx_runSW (As := [.ref (ad 0), .int 2, .int (-1), .int p3, .int 0, .int 0]) (rest := []) ⟨hx, hb, hml, hown, hts⟩ (t_A2_1 l hlt D cyI cyZ ad zb zo zt zm zu zr zl zf (-1) p3 0 0 _ _ rfl (q_rn_t (by decide))) (vx_cwSW 6 hts gL_refuses_L_act rfl rfl rfl (by decide +kernel) ⟨Nat.le_of_ble_eq_true rfl, Nat.le_of_ble_eq_true rfl⟩) (poS hG hz hn hP hD hS hA) rfl rfl hl.1 rfl (lv_room (Nat.le_of_ble_eq_true rfl)) dL_refuses_244 ⟨Nat.le_of_ble_eq_true rfl, Nat.le_of_ble_eq_true rfl⟩) hD hS hA (rfl) (wE.rf) (fun H locs hP hD hS => ?_)
  refine W.widen (k := 7) (n := 42) (Nat.le_of_ble_eq_true rfl) (Nat.le_of_ble_eq_true rfl) ?_
  refine lv_iload hx hb dL_refuses_247 (lv_at hl 12 rfl) ?_
  refine lv_icmp_ne (tgt := 361) hx hb dL_refuses_249 (by decide) (fun c9 => absurd (by decide) c9) (fun _ => ?_)
  refine lv_aload_n hx hb dL_refuses_252 rfl (lv_at hl 7 rfl) ?_
  refine lv_iconst (v := 2) hx hb dL_refuses_253 (by decide) ?_
  refine lv_iconst (v := 1) hx hb dL_refuses_254 (by decide) ?_
  refine lv_iload hx hb dL_refuses_255 (lv_at hl 3 rfl) ?_
  refine lv_iconst (v := (-1)) hx hb dL_refuses_257 (by decide) ?_
  refine lv_iconst (v := 0) hx hb dL_refuses_258 (by decide) ?_
  refine mo_i (vx_runSW (As := [.ref (ad 0), .int 2, .int 1, .int (-1), .int (-1), .int 0]) (rest := []) ⟨hx, hb, hml, hown, hts⟩ (t_A2_1 l hlt D cyI cyZ ad zb zo zt zm zu zr zl zf 1 (-1) (-1) 0 _ _ rfl (q_rn_c (by decide))) (vx_cwSW 6 hts gL_refuses_L_act rfl rfl rfl (by decide +kernel) ⟨Nat.le_of_ble_eq_true rfl, Nat.le_of_ble_eq_true rfl⟩) (poS hG hz hn hP hD hS hA) rfl rfl hl.1 rfl (lv_room (Nat.le_of_ble_eq_true rfl)) dL_refuses_259 ⟨Nat.le_of_ble_eq_true rfl, Nat.le_of_ble_eq_true rfl⟩) hD hS hA (rfl) (wE.rf) (fun H locs hP hD hS => ?_)
  refine W.widen (k := 8) (n := 48) (Nat.le_of_ble_eq_true rfl) (Nat.le_of_ble_eq_true rfl) ?_
  refine lv_iload hx hb dL_refuses_262 (lv_at hl 12 rfl) ?_
  refine lv_icmp_ne (tgt := 361) hx hb dL_refuses_264 (by decide) (fun c9 => absurd (by decide) c9) (fun _ => ?_)
  refine lv_aload_n hx hb dL_refuses_267 rfl (lv_at hl 7 rfl) ?_
  refine lv_iconst (v := 2) hx hb dL_refuses_268 (by decide) ?_
  refine lv_iconst (v := 1) hx hb dL_refuses_269 (by decide) ?_
  refine lv_iload_n hx hb dL_refuses_270 rfl (lv_at hl 9 rfl) ?_
  refine lv_iload hx hb dL_refuses_271 (lv_at hl 1 rfl) ?_
  refine lv_iconst (v := 0) hx hb dL_refuses_273 (by decide) ?_
  refine mo_i (vx_runSW (As := [.ref (ad 0), .int 2, .int 1, .int p3, .int (-1), .int 0]) (rest := []) ⟨hx, hb, hml, hown, hts⟩ (t_A2_2 l hlt D cyI cyZ ad zb zo zt zm zu zr zl zf 1 p3 (-1) 0 _ _ rfl (q_rn_n hc9 (by decide))) (vx_cwSW 6 hts gL_refuses_L_act rfl rfl rfl (by decide +kernel) ⟨Nat.le_of_ble_eq_true rfl, Nat.le_of_ble_eq_true rfl⟩) (poS hG hz hn hP hD hS hA) rfl rfl hl.1 rfl (lv_room (Nat.le_of_ble_eq_true rfl)) dL_refuses_274 ⟨Nat.le_of_ble_eq_true rfl, Nat.le_of_ble_eq_true rfl⟩) hD hS hA (rfl) (wE.rf) (fun H locs hP hD hS => ?_)
  refine W.widen (k := 9) (n := 54) (Nat.le_of_ble_eq_true rfl) (Nat.le_of_ble_eq_true rfl) ?_
  refine lv_iload hx hb dL_refuses_277 (lv_at hl 13 rfl) ?_
  refine lv_icmp_ne (tgt := 361) hx hb dL_refuses_279 (by decide) (fun c9 => absurd (by decide) c9) (fun _ => ?_)
  refine lv_aload_n hx hb dL_refuses_282 rfl (lv_at hl 7 rfl) ?_
  refine lv_iconst (v := 3) hx hb dL_refuses_283 (by decide) ?_
  refine lv_iload hx hb dL_refuses_284 (lv_at hl 5 rfl) ?_
  refine lv_iconst (v := 0) hx hb dL_refuses_286 (by decide) ?_
  refine lv_iconst (v := 0) hx hb dL_refuses_287 (by decide) ?_
  refine lv_iconst (v := 0) hx hb dL_refuses_288 (by decide) ?_
  refine mo_i (vx_runSW (As := [.ref (ad 0), .int 3, .int (-1), .int 0, .int 0, .int 0]) (rest := []) ⟨hx, hb, hml, hown, hts⟩ (t_A3_1 l hlt D cyI cyZ ad zb zo zt zm zu zr zl zf (-1) 0 0 0 _ _ rfl (q_ar_t (by decide))) (vx_cwSW 6 hts gL_refuses_L_act rfl rfl rfl (by decide +kernel) ⟨Nat.le_of_ble_eq_true rfl, Nat.le_of_ble_eq_true rfl⟩) (poS hG hz hn hP hD hS hA) rfl rfl hl.1 rfl (lv_room (Nat.le_of_ble_eq_true rfl)) dL_refuses_289 ⟨Nat.le_of_ble_eq_true rfl, Nat.le_of_ble_eq_true rfl⟩) hD hS hA (rfl) (wE.rf) (fun H locs hP hD hS => ?_)
  refine W.widen (k := 10) (n := 60) (Nat.le_of_ble_eq_true rfl) (Nat.le_of_ble_eq_true rfl) ?_
  refine lv_iload hx hb dL_refuses_292 (lv_at hl 12 rfl) ?_
  refine lv_icmp_ne (tgt := 361) hx hb dL_refuses_294 (by decide) (fun c9 => absurd (by decide) c9) (fun _ => ?_)
  refine lv_aload_n hx hb dL_refuses_297 rfl (lv_at hl 7 rfl) ?_
  refine lv_iconst (v := 3) hx hb dL_refuses_298 (by decide) ?_
  refine lv_iconst (v := 0) hx hb dL_refuses_299 (by decide) ?_
  refine lv_iload hx hb dL_refuses_300 (lv_at hl 2 rfl) ?_
  refine lv_iconst (v := 0) hx hb dL_refuses_302 (by decide) ?_
  refine lv_iconst (v := 0) hx hb dL_refuses_303 (by decide) ?_
  refine mo_i (vx_runSW (As := [.ref (ad 0), .int 3, .int 0, .int (-1), .int 0, .int 0]) (rest := []) ⟨hx, hb, hml, hown, hts⟩ (t_A3_1 l hlt D cyI cyZ ad zb zo zt zm zu zr zl zf 0 (-1) 0 0 _ _ rfl (q_ar_k (by decide))) (vx_cwSW 6 hts gL_refuses_L_act rfl rfl rfl (by decide +kernel) ⟨Nat.le_of_ble_eq_true rfl, Nat.le_of_ble_eq_true rfl⟩) (poS hG hz hn hP hD hS hA) rfl rfl hl.1 rfl (lv_room (Nat.le_of_ble_eq_true rfl)) dL_refuses_304 ⟨Nat.le_of_ble_eq_true rfl, Nat.le_of_ble_eq_true rfl⟩) hD hS hA (rfl) (wE.rf) (fun H locs hP hD hS => ?_)
  refine W.widen (k := 11) (n := 66) (Nat.le_of_ble_eq_true rfl) (Nat.le_of_ble_eq_true rfl) ?_
  refine lv_iload hx hb dL_refuses_307 (lv_at hl 12 rfl) ?_
  refine lv_icmp_ne (tgt := 361) hx hb dL_refuses_309 (by decide) (fun c9 => absurd (by decide) c9) (fun _ => ?_)
  refine lv_aload_n hx hb dL_refuses_312 rfl (lv_at hl 7 rfl) ?_
  refine lv_iconst (v := 3) hx hb dL_refuses_313 (by decide) ?_
  refine lv_iconst (v := 1) hx hb dL_refuses_314 (by decide) ?_
  refine lv_iload_n hx hb dL_refuses_315 rfl (lv_at hl 8 rfl) ?_
  refine lv_iconst (v := 0) hx hb dL_refuses_316 (by decide) ?_
  refine lv_iconst (v := 0) hx hb dL_refuses_317 (by decide) ?_
  refine mo_i (vx_runSW (As := [.ref (ad 0), .int 3, .int 1, .int p2, .int 0, .int 0]) (rest := []) ⟨hx, hb, hml, hown, hts⟩ (t_A3_3 l hlt D cyI cyZ ad zb zo zt zm zu zr zl zf 1 p2 0 0 _ _ rfl (q_ar_s hr9)) (vx_cwSW 6 hts gL_refuses_L_act rfl rfl rfl (by decide +kernel) ⟨Nat.le_of_ble_eq_true rfl, Nat.le_of_ble_eq_true rfl⟩) (poS hG hz hn hP hD hS hA) rfl rfl hl.1 rfl (lv_room (Nat.le_of_ble_eq_true rfl)) dL_refuses_318 ⟨Nat.le_of_ble_eq_true rfl, Nat.le_of_ble_eq_true rfl⟩) hD hS hA (rfl) (wE.rf) (fun H locs hP hD hS => ?_)
  refine W.widen (k := 12) (n := 72) (Nat.le_of_ble_eq_true rfl) (Nat.le_of_ble_eq_true rfl) ?_
  refine lv_sipush (v := (-20003)) hx hb dL_refuses_321 (by decide) ?_
  refine lv_icmp_ne (tgt := 361) hx hb dL_refuses_324 (by decide) (fun c9 => absurd (by decide) c9) (fun _ => ?_)
  refine lv_aload_n hx hb dL_refuses_327 rfl (lv_at hl 7 rfl) ?_
  refine lv_iconst (v := 4) hx hb dL_refuses_328 (by decide) ?_
  refine lv_iload hx hb dL_refuses_329 (lv_at hl 5 rfl) ?_
  refine lv_iload_n hx hb dL_refuses_331 rfl (lv_at hl 8 rfl) ?_
  refine lv_iconst (v := 0) hx hb dL_refuses_332 (by decide) ?_
  refine lv_iconst (v := 0) hx hb dL_refuses_333 (by decide) ?_
  refine mo_i (vx_runSW (As := [.ref (ad 0), .int 4, .int (-1), .int p2, .int 0, .int 0]) (rest := []) ⟨hx, hb, hml, hown, hts⟩ (t_A4_1 l hlt D cyI cyZ ad zb zo zt zm zu zr zl zf (-1) p2 0 0 _ _ rfl (q_rr_t (by decide))) (vx_cwSW 6 hts gL_refuses_L_act rfl rfl rfl (by decide +kernel) ⟨Nat.le_of_ble_eq_true rfl, Nat.le_of_ble_eq_true rfl⟩) (poS hG hz hn hP hD hS hA) rfl rfl hl.1 rfl (lv_room (Nat.le_of_ble_eq_true rfl)) dL_refuses_334 ⟨Nat.le_of_ble_eq_true rfl, Nat.le_of_ble_eq_true rfl⟩) hD hS hA (rfl) (wE.rf) (fun H locs hP hD hS => ?_)
  refine W.widen (k := 13) (n := 78) (Nat.le_of_ble_eq_true rfl) (Nat.le_of_ble_eq_true rfl) ?_
  refine lv_iload hx hb dL_refuses_337 (lv_at hl 12 rfl) ?_
  refine lv_icmp_ne (tgt := 361) hx hb dL_refuses_339 (by decide) (fun c9 => absurd (by decide) c9) (fun _ => ?_)
  refine lv_aload_n hx hb dL_refuses_342 rfl (lv_at hl 7 rfl) ?_
  refine lv_iconst (v := 4) hx hb dL_refuses_343 (by decide) ?_
  refine lv_iconst (v := 1) hx hb dL_refuses_344 (by decide) ?_
  refine lv_iload hx hb dL_refuses_345 (lv_at hl 2 rfl) ?_
  refine lv_iconst (v := 0) hx hb dL_refuses_347 (by decide) ?_
  refine lv_iconst (v := 0) hx hb dL_refuses_348 (by decide) ?_
  refine mo_i (vx_runSW (As := [.ref (ad 0), .int 4, .int 1, .int (-1), .int 0, .int 0]) (rest := []) ⟨hx, hb, hml, hown, hts⟩ (t_A4_1 l hlt D cyI cyZ ad zb zo zt zm zu zr zl zf 1 (-1) 0 0 _ _ rfl (q_rr_k (by decide))) (vx_cwSW 6 hts gL_refuses_L_act rfl rfl rfl (by decide +kernel) ⟨Nat.le_of_ble_eq_true rfl, Nat.le_of_ble_eq_true rfl⟩) (poS hG hz hn hP hD hS hA) rfl rfl hl.1 rfl (lv_room (Nat.le_of_ble_eq_true rfl)) dL_refuses_349 ⟨Nat.le_of_ble_eq_true rfl, Nat.le_of_ble_eq_true rfl⟩) hD hS hA (rfl) (wE.rf) (fun H locs hP hD hS => ?_)
  refine W.widen (k := 14) (n := 84) (Nat.le_of_ble_eq_true rfl) (Nat.le_of_ble_eq_true rfl) ?_
  refine lv_iload hx hb dL_refuses_352 (lv_at hl 12 rfl) ?_
  refine lv_icmp_ne (tgt := 361) hx hb dL_refuses_354 (by decide) (fun c9 => absurd (by decide) c9) (fun _ => ?_)
  refine lv_iconst (v := 1) hx hb dL_refuses_357 (by decide) ?_
  refine lv_goto (tgt := 362) hx hb dL_refuses_358 (by decide) ?_
  refine lv_istore (lv' := [(16, .int 1), (15, .int 0), (14, .int (-1)), (13, .int (-1)), (12, .int (-1)), (11, .int (-1)), (10, .int (-1)), (9, .int (-1)), (0, .ref (ad 0)), (1, .int p2), (2, .int p3), (3, .int zl.1), (4, .int zl.2.1), (5, .int (-20001)), (6, .int (-20002)), (7, .int 2147483647), (8, .int 0)]) hx hb dL_refuses_362 hl (by decide) rfl (fun ls hl => ?_)
  refine lv_iload hx hb dL_refuses_364 (lv_at hl 0 rfl) ?_
  refine lv_if_eq (tgt := 619) hx hb dL_refuses_366 (by decide) (fun c9 => absurd c9 (by decide)) (fun _ => ?_)
  refine lv_aload_n hx hb dL_refuses_369 rfl (lv_at hl 8 rfl) ?_
  refine lv_iconst (v := 5) hx hb dL_refuses_370 (by decide) ?_
  refine lv_iload hx hb dL_refuses_371 (lv_at hl 6 rfl) ?_
  refine lv_iload_n hx hb dL_refuses_373 rfl (lv_at hl 9 rfl) ?_
  refine lv_iload_n hx hb dL_refuses_374 rfl (lv_at hl 10 rfl) ?_
  refine lv_iconst (v := 0) hx hb dL_refuses_375 (by decide) ?_
  refine mo_i (vx_runSW (As := [.ref (ad 0), .int 5, .int (-1), .int p2, .int p3, .int 0]) (rest := []) ⟨hx, hb, hml, hown, hts⟩ (t_A5_1 l hlt D cyI cyZ ad zb zo zt zm zu zr zl zf (-1) p2 p3 0 _ _ rfl (q_st_t (by decide))) (vx_cwSW 6 hts gL_refuses_L_act rfl rfl rfl (by decide +kernel) ⟨Nat.le_of_ble_eq_true rfl, Nat.le_of_ble_eq_true rfl⟩) (poS hG hz hn hP hD hS hA) rfl rfl hl.1 rfl (lv_room (Nat.le_of_ble_eq_true rfl)) dL_refuses_376 ⟨Nat.le_of_ble_eq_true rfl, Nat.le_of_ble_eq_true rfl⟩) hD hS hA (rfl) (wE.rf) (fun H locs hP hD hS => ?_)
  refine W.widen (k := 15) (n := 90) (Nat.le_of_ble_eq_true rfl) (Nat.le_of_ble_eq_true rfl) ?_
  refine lv_iload hx hb dL_refuses_379 (lv_at hl 13 rfl) ?_
  refine lv_icmp_ne (tgt := 619) hx hb dL_refuses_381 (by decide) (fun c9 => absurd (by decide) c9) (fun _ => ?_)
  refine lv_aload_n hx hb dL_refuses_384 rfl (lv_at hl 8 rfl) ?_
  refine lv_iconst (v := 5) hx hb dL_refuses_385 (by decide) ?_
  refine lv_iconst (v := 1) hx hb dL_refuses_386 (by decide) ?_
  refine lv_iload hx hb dL_refuses_387 (lv_at hl 3 rfl) ?_
  refine lv_iload_n hx hb dL_refuses_389 rfl (lv_at hl 10 rfl) ?_
  refine lv_iconst (v := 0) hx hb dL_refuses_390 (by decide) ?_
  refine mo_i (vx_runSW (As := [.ref (ad 0), .int 5, .int 1, .int (-1), .int p3, .int 0]) (rest := []) ⟨hx, hb, hml, hown, hts⟩ (t_A5_1 l hlt D cyI cyZ ad zb zo zt zm zu zr zl zf 1 (-1) p3 0 _ _ rfl (q_st_r (by decide))) (vx_cwSW 6 hts gL_refuses_L_act rfl rfl rfl (by decide +kernel) ⟨Nat.le_of_ble_eq_true rfl, Nat.le_of_ble_eq_true rfl⟩) (poS hG hz hn hP hD hS hA) rfl rfl hl.1 rfl (lv_room (Nat.le_of_ble_eq_true rfl)) dL_refuses_391 ⟨Nat.le_of_ble_eq_true rfl, Nat.le_of_ble_eq_true rfl⟩) hD hS hA (rfl) (wE.rf) (fun H locs hP hD hS => ?_)
  refine W.widen (k := 16) (n := 96) (Nat.le_of_ble_eq_true rfl) (Nat.le_of_ble_eq_true rfl) ?_
  refine lv_iload hx hb dL_refuses_394 (lv_at hl 13 rfl) ?_
  refine lv_icmp_ne (tgt := 619) hx hb dL_refuses_396 (by decide) (fun c9 => absurd (by decide) c9) (fun _ => ?_)
  refine lv_aload_n hx hb dL_refuses_399 rfl (lv_at hl 8 rfl) ?_
  refine lv_iconst (v := 5) hx hb dL_refuses_400 (by decide) ?_
  refine lv_iconst (v := 1) hx hb dL_refuses_401 (by decide) ?_
  refine lv_iload_n hx hb dL_refuses_402 rfl (lv_at hl 9 rfl) ?_
  refine lv_iload hx hb dL_refuses_403 (lv_at hl 4 rfl) ?_
  refine lv_sipush (v := 10000) hx hb dL_refuses_405 (by decide) ?_
  refine mo_i (vx_runSW (As := [.ref (ad 0), .int 5, .int 1, .int p2, .int (-1), .int 10000]) (rest := []) ⟨hx, hb, hml, hown, hts⟩ (t_A5_1 l hlt D cyI cyZ ad zb zo zt zm zu zr zl zf 1 p2 (-1) 10000 _ _ rfl (q_st_c hr9 (by decide))) (vx_cwSW 6 hts gL_refuses_L_act rfl rfl rfl (by decide +kernel) ⟨Nat.le_of_ble_eq_true rfl, Nat.le_of_ble_eq_true rfl⟩) (poS hG hz hn hP hD hS hA) rfl rfl hl.1 rfl (lv_room (Nat.le_of_ble_eq_true rfl)) dL_refuses_408 ⟨Nat.le_of_ble_eq_true rfl, Nat.le_of_ble_eq_true rfl⟩) hD hS hA (rfl) (wE.rf) (fun H locs hP hD hS => ?_)
  refine W.widen (k := 17) (n := 102) (Nat.le_of_ble_eq_true rfl) (Nat.le_of_ble_eq_true rfl) ?_
  refine lv_iload hx hb dL_refuses_411 (lv_at hl 13 rfl) ?_
  refine lv_icmp_ne (tgt := 619) hx hb dL_refuses_413 (by decide) (fun c9 => absurd (by decide) c9) (fun _ => ?_)
  refine lv_aload_n hx hb dL_refuses_416 rfl (lv_at hl 8 rfl) ?_
  refine lv_iconst (v := 5) hx hb dL_refuses_417 (by decide) ?_
  refine lv_iconst (v := 1) hx hb dL_refuses_418 (by decide) ?_
  refine lv_iload_n hx hb dL_refuses_419 rfl (lv_at hl 9 rfl) ?_
  refine lv_iload_n hx hb dL_refuses_420 rfl (lv_at hl 10 rfl) ?_
  refine lv_iload hx hb dL_refuses_421 (lv_at hl 16 rfl) ?_
  refine lv_if_ne (tgt := 432) hx hb dL_refuses_423 (by decide) (fun c9 => absurd (by decide) c9) (fun _ => ?_)
  refine lv_sipush (v := (-10000)) hx hb dL_refuses_426 (by decide) ?_
  refine lv_goto (tgt := 446) hx hb dL_refuses_429 (by decide) ?_
  refine mo_i (vx_runSW (As := [.ref (ad 0), .int 5, .int 1, .int p2, .int p3, .int (-10000)]) (rest := []) ⟨hx, hb, hml, hown, hts⟩ (t_A5_2 l hlt D cyI cyZ ad zb zo zt zm zu zr zl zf 1 p2 p3 (-10000) _ _ rfl (q_st_v hr9 hc9 (by decide))) (vx_cwSW 6 hts gL_refuses_L_act rfl rfl rfl (by decide +kernel) ⟨Nat.le_of_ble_eq_true rfl, Nat.le_of_ble_eq_true rfl⟩) (poS hG hz hn hP hD hS hA) rfl rfl hl.1 rfl (lv_room (Nat.le_of_ble_eq_true rfl)) dL_refuses_446 ⟨Nat.le_of_ble_eq_true rfl, Nat.le_of_ble_eq_true rfl⟩) hD hS hA (rfl) (wE.rf) (fun H locs hP hD hS => ?_)
  refine W.widen (k := 18) (n := 108) (Nat.le_of_ble_eq_true rfl) (Nat.le_of_ble_eq_true rfl) ?_
  refine lv_iload hx hb dL_refuses_449 (lv_at hl 14 rfl) ?_
  refine lv_icmp_ne (tgt := 619) hx hb dL_refuses_451 (by decide) (fun c9 => absurd (by decide) c9) (fun _ => ?_)
  refine lv_aload_n hx hb dL_refuses_454 rfl (lv_at hl 8 rfl) ?_
  refine lv_bipush (v := 6) hx hb dL_refuses_455 (by decide) ?_
  refine lv_iload hx hb dL_refuses_457 (lv_at hl 4 rfl) ?_
  refine lv_bipush (v := 9) hx hb dL_refuses_459 (by decide) ?_
  refine lv_iconst (v := 0) hx hb dL_refuses_461 (by decide) ?_
  refine lv_iconst (v := 0) hx hb dL_refuses_462 (by decide) ?_
  refine mo_i (vx_runSW (As := [.ref (ad 0), .int 6, .int (-1), .int 9, .int 0, .int 0]) (rest := []) ⟨hx, hb, hml, hown, hts⟩ (t_A6_1 l hlt D cyI cyZ ad zb zo zt zm zu zr zl zf (-1) 9 0 0 _ _ rfl (by decide)) (vx_cwSW 6 hts gL_refuses_L_act rfl rfl rfl (by decide +kernel) ⟨Nat.le_of_ble_eq_true rfl, Nat.le_of_ble_eq_true rfl⟩) (poS hG hz hn hP hD hS hA) rfl rfl hl.1 rfl (lv_room (Nat.le_of_ble_eq_true rfl)) dL_refuses_463 ⟨Nat.le_of_ble_eq_true rfl, Nat.le_of_ble_eq_true rfl⟩) hD hS hA (rfl) (wE.rf) (fun H locs hP hD hS => ?_)
  refine W.widen (k := 19) (n := 114) (Nat.le_of_ble_eq_true rfl) (Nat.le_of_ble_eq_true rfl) ?_
  refine lv_iload hx hb dL_refuses_466 (lv_at hl 13 rfl) ?_
  refine lv_icmp_ne (tgt := 619) hx hb dL_refuses_468 (by decide) (fun c9 => absurd (by decide) c9) (fun _ => ?_)
  refine lv_aload_n hx hb dL_refuses_471 rfl (lv_at hl 8 rfl) ?_
  refine lv_bipush (v := 6) hx hb dL_refuses_472 (by decide) ?_
  refine lv_iconst (v := 0) hx hb dL_refuses_474 (by decide) ?_
  refine lv_iload hx hb dL_refuses_475 (lv_at hl 5 rfl) ?_
  refine lv_iconst (v := 0) hx hb dL_refuses_477 (by decide) ?_
  refine lv_iconst (v := 0) hx hb dL_refuses_478 (by decide) ?_
  refine mo_i (vx_runSW (As := [.ref (ad 0), .int 6, .int 0, .int (-1), .int 0, .int 0]) (rest := []) ⟨hx, hb, hml, hown, hts⟩ (t_A6_2 l hlt D cyI cyZ ad zb zo zt zm zu zr zl zf 0 (-1) 0 0 _ _ rfl (by decide)) (vx_cwSW 6 hts gL_refuses_L_act rfl rfl rfl (by decide +kernel) ⟨Nat.le_of_ble_eq_true rfl, Nat.le_of_ble_eq_true rfl⟩) (poS hG hz hn hP hD hS hA) rfl rfl hl.1 rfl (lv_room (Nat.le_of_ble_eq_true rfl)) dL_refuses_479 ⟨Nat.le_of_ble_eq_true rfl, Nat.le_of_ble_eq_true rfl⟩) hD hS hA (rfl) (wE.rf) (fun H locs hP hD hS => ?_)
  refine W.widen (k := 20) (n := 120) (Nat.le_of_ble_eq_true rfl) (Nat.le_of_ble_eq_true rfl) ?_
  refine lv_iload hx hb dL_refuses_482 (lv_at hl 14 rfl) ?_
  refine lv_icmp_ne (tgt := 619) hx hb dL_refuses_484 (by decide) (fun c9 => absurd (by decide) c9) (fun _ => ?_)
  refine lv_aload_n hx hb dL_refuses_487 rfl (lv_at hl 8 rfl) ?_
  refine lv_bipush (v := 7) hx hb dL_refuses_488 (by decide) ?_
  refine lv_iload hx hb dL_refuses_490 (lv_at hl 4 rfl) ?_
  refine lv_iconst (v := 1) hx hb dL_refuses_492 (by decide) ?_
  refine lv_iconst (v := 0) hx hb dL_refuses_493 (by decide) ?_
  refine lv_iconst (v := 0) hx hb dL_refuses_494 (by decide) ?_
  refine mo_i (vx_runSW (As := [.ref (ad 0), .int 7, .int (-1), .int 1, .int 0, .int 0]) (rest := []) ⟨hx, hb, hml, hown, hts⟩ (t_A7_1 l hlt D cyI cyZ ad zb zo zt zm zu zr zl zf (-1) 0 0 _ _ rfl (by decide)) (vx_cwSW 6 hts gL_refuses_L_act rfl rfl rfl (by decide +kernel) ⟨Nat.le_of_ble_eq_true rfl, Nat.le_of_ble_eq_true rfl⟩) (poS hG hz hn hP hD hS hA) rfl rfl hl.1 rfl (lv_room (Nat.le_of_ble_eq_true rfl)) dL_refuses_495 ⟨Nat.le_of_ble_eq_true rfl, Nat.le_of_ble_eq_true rfl⟩) hD hS hA (rfl) (wE.rf) (fun H locs hP hD hS => ?_)
  refine W.widen (k := 21) (n := 126) (Nat.le_of_ble_eq_true rfl) (Nat.le_of_ble_eq_true rfl) ?_
  refine lv_iload hx hb dL_refuses_498 (lv_at hl 13 rfl) ?_
  refine lv_icmp_ne (tgt := 619) hx hb dL_refuses_500 (by decide) (fun c9 => absurd (by decide) c9) (fun _ => ?_)
  refine lv_aload_n hx hb dL_refuses_503 rfl (lv_at hl 8 rfl) ?_
  refine lv_bipush (v := 8) hx hb dL_refuses_504 (by decide) ?_
  refine lv_iload hx hb dL_refuses_506 (lv_at hl 5 rfl) ?_
  refine lv_iconst (v := 0) hx hb dL_refuses_508 (by decide) ?_
  refine lv_iconst (v := 0) hx hb dL_refuses_509 (by decide) ?_
  refine lv_iconst (v := 0) hx hb dL_refuses_510 (by decide) ?_
  refine mo_i (vx_runSW (As := [.ref (ad 0), .int 8, .int (-1), .int 0, .int 0, .int 0]) (rest := []) ⟨hx, hb, hml, hown, hts⟩ (t_A8_1 l hlt D cyI cyZ ad zb zo zt zm zu zr zl zf (-1) 0 0 0 _ _ rfl (by decide)) (vx_cwSW 6 hts gL_refuses_L_act rfl rfl rfl (by decide +kernel) ⟨Nat.le_of_ble_eq_true rfl, Nat.le_of_ble_eq_true rfl⟩) (poS hG hz hn hP hD hS hA) rfl rfl hl.1 rfl (lv_room (Nat.le_of_ble_eq_true rfl)) dL_refuses_511 ⟨Nat.le_of_ble_eq_true rfl, Nat.le_of_ble_eq_true rfl⟩) hD hS hA (rfl) (wE.rf) (fun H locs hP hD hS => ?_)
  refine W.widen (k := 22) (n := 132) (Nat.le_of_ble_eq_true rfl) (Nat.le_of_ble_eq_true rfl) ?_
  refine lv_iload hx hb dL_refuses_514 (lv_at hl 13 rfl) ?_
  refine lv_icmp_ne (tgt := 619) hx hb dL_refuses_516 (by decide) (fun c9 => absurd (by decide) c9) (fun _ => ?_)
  refine lv_aload_n hx hb dL_refuses_519 rfl (lv_at hl 8 rfl) ?_
  refine lv_bipush (v := 9) hx hb dL_refuses_520 (by decide) ?_
  refine lv_iload hx hb dL_refuses_522 (lv_at hl 5 rfl) ?_
  refine lv_iconst (v := 0) hx hb dL_refuses_524 (by decide) ?_
  refine lv_iconst (v := 0) hx hb dL_refuses_525 (by decide) ?_
  refine lv_iconst (v := 0) hx hb dL_refuses_526 (by decide) ?_
  refine mo_i (vx_runSW (As := [.ref (ad 0), .int 9, .int (-1), .int 0, .int 0, .int 0]) (rest := []) ⟨hx, hb, hml, hown, hts⟩ (t_A9_1 l hlt D cyI cyZ ad zb zo zt zm zu zr zl zf (-1) 0 0 0 _ _ rfl (by decide)) (vx_cwSW 6 hts gL_refuses_L_act rfl rfl rfl (by decide +kernel) ⟨Nat.le_of_ble_eq_true rfl, Nat.le_of_ble_eq_true rfl⟩) (poS hG hz hn hP hD hS hA) rfl rfl hl.1 rfl (lv_room (Nat.le_of_ble_eq_true rfl)) dL_refuses_527 ⟨Nat.le_of_ble_eq_true rfl, Nat.le_of_ble_eq_true rfl⟩) hD hS hA (rfl) (wE.rf) (fun H locs hP hD hS => ?_)
  refine W.widen (k := 23) (n := 138) (Nat.le_of_ble_eq_true rfl) (Nat.le_of_ble_eq_true rfl) ?_
  refine lv_iload hx hb dL_refuses_530 (lv_at hl 13 rfl) ?_
  refine lv_icmp_ne (tgt := 619) hx hb dL_refuses_532 (by decide) (fun c9 => absurd (by decide) c9) (fun _ => ?_)
  refine lv_aload_n hx hb dL_refuses_535 rfl (lv_at hl 8 rfl) ?_
  refine lv_bipush (v := 10) hx hb dL_refuses_536 (by decide) ?_
  refine lv_iload hx hb dL_refuses_538 (lv_at hl 5 rfl) ?_
  refine lv_iload_n hx hb dL_refuses_540 rfl (lv_at hl 10 rfl) ?_
  refine lv_iconst (v := 0) hx hb dL_refuses_541 (by decide) ?_
  refine lv_iconst (v := 0) hx hb dL_refuses_542 (by decide) ?_
  refine mo_i (vx_runSW (As := [.ref (ad 0), .int 10, .int (-1), .int p3, .int 0, .int 0]) (rest := []) ⟨hx, hb, hml, hown, hts⟩ (t_A10_1 l hlt D cyI cyZ ad zb zo zt zm zu zr zl zf (-1) p3 0 0 _ _ rfl (q_nm_t (by decide))) (vx_cwSW 6 hts gL_refuses_L_act rfl rfl rfl (by decide +kernel) ⟨Nat.le_of_ble_eq_true rfl, Nat.le_of_ble_eq_true rfl⟩) (poS hG hz hn hP hD hS hA) rfl rfl hl.1 rfl (lv_room (Nat.le_of_ble_eq_true rfl)) dL_refuses_543 ⟨Nat.le_of_ble_eq_true rfl, Nat.le_of_ble_eq_true rfl⟩) hD hS hA (rfl) (wE.rf) (fun H locs hP hD hS => ?_)
  refine W.widen (k := 24) (n := 144) (Nat.le_of_ble_eq_true rfl) (Nat.le_of_ble_eq_true rfl) ?_
  refine lv_iload hx hb dL_refuses_546 (lv_at hl 13 rfl) ?_
  refine lv_icmp_ne (tgt := 619) hx hb dL_refuses_548 (by decide) (fun c9 => absurd (by decide) c9) (fun _ => ?_)
  refine lv_aload_n hx hb dL_refuses_551 rfl (lv_at hl 8 rfl) ?_
  refine lv_bipush (v := 10) hx hb dL_refuses_552 (by decide) ?_
  refine lv_iconst (v := 1) hx hb dL_refuses_554 (by decide) ?_
  refine lv_iload hx hb dL_refuses_555 (lv_at hl 4 rfl) ?_
  refine lv_iconst (v := 0) hx hb dL_refuses_557 (by decide) ?_
  refine lv_iconst (v := 0) hx hb dL_refuses_558 (by decide) ?_
  refine mo_i (vx_runSW (As := [.ref (ad 0), .int 10, .int 1, .int (-1), .int 0, .int 0]) (rest := []) ⟨hx, hb, hml, hown, hts⟩ (t_A10_1 l hlt D cyI cyZ ad zb zo zt zm zu zr zl zf 1 (-1) 0 0 _ _ rfl (q_nm_c (by decide))) (vx_cwSW 6 hts gL_refuses_L_act rfl rfl rfl (by decide +kernel) ⟨Nat.le_of_ble_eq_true rfl, Nat.le_of_ble_eq_true rfl⟩) (poS hG hz hn hP hD hS hA) rfl rfl hl.1 rfl (lv_room (Nat.le_of_ble_eq_true rfl)) dL_refuses_559 ⟨Nat.le_of_ble_eq_true rfl, Nat.le_of_ble_eq_true rfl⟩) hD hS hA (rfl) (wE.rf) (fun H locs hP hD hS => ?_)
  refine W.widen (k := 25) (n := 150) (Nat.le_of_ble_eq_true rfl) (Nat.le_of_ble_eq_true rfl) ?_
  refine lv_iload hx hb dL_refuses_562 (lv_at hl 13 rfl) ?_
  refine lv_icmp_ne (tgt := 619) hx hb dL_refuses_564 (by decide) (fun c9 => absurd (by decide) c9) (fun _ => ?_)
  refine lv_aload_n hx hb dL_refuses_567 rfl (lv_at hl 8 rfl) ?_
  refine lv_bipush (v := 11) hx hb dL_refuses_568 (by decide) ?_
  refine lv_iload hx hb dL_refuses_570 (lv_at hl 5 rfl) ?_
  refine lv_iload_n hx hb dL_refuses_572 rfl (lv_at hl 9 rfl) ?_
  refine lv_iload_n hx hb dL_refuses_573 rfl (lv_at hl 10 rfl) ?_
  refine lv_iconst (v := 0) hx hb dL_refuses_574 (by decide) ?_
  refine mo_i (vx_runSW (As := [.ref (ad 0), .int 11, .int (-1), .int p2, .int p3, .int 0]) (rest := []) ⟨hx, hb, hml, hown, hts⟩ (t_A11_1 l hlt D cyI cyZ ad zb zo zt zm zu zr zl zf (-1) p2 p3 0 _ _ rfl (q_gt_t (by decide))) (vx_cwSW 6 hts gL_refuses_L_act rfl rfl rfl (by decide +kernel) ⟨Nat.le_of_ble_eq_true rfl, Nat.le_of_ble_eq_true rfl⟩) (poS hG hz hn hP hD hS hA) rfl rfl hl.1 rfl (lv_room (Nat.le_of_ble_eq_true rfl)) dL_refuses_575 ⟨Nat.le_of_ble_eq_true rfl, Nat.le_of_ble_eq_true rfl⟩) hD hS hA (rfl) (wE.rf) (fun H locs hP hD hS => ?_)
  refine W.widen (k := 26) (n := 156) (Nat.le_of_ble_eq_true rfl) (Nat.le_of_ble_eq_true rfl) ?_
  refine lv_iload hx hb dL_refuses_578 (lv_at hl 13 rfl) ?_
  refine lv_icmp_ne (tgt := 619) hx hb dL_refuses_580 (by decide) (fun c9 => absurd (by decide) c9) (fun _ => ?_)
  refine lv_aload_n hx hb dL_refuses_583 rfl (lv_at hl 8 rfl) ?_
  refine lv_bipush (v := 11) hx hb dL_refuses_584 (by decide) ?_
  refine lv_iconst (v := 1) hx hb dL_refuses_586 (by decide) ?_
  refine lv_iload hx hb dL_refuses_587 (lv_at hl 3 rfl) ?_
  refine lv_iload_n hx hb dL_refuses_589 rfl (lv_at hl 10 rfl) ?_
  refine lv_iconst (v := 0) hx hb dL_refuses_590 (by decide) ?_
  refine mo_i (vx_runSW (As := [.ref (ad 0), .int 11, .int 1, .int (-1), .int p3, .int 0]) (rest := []) ⟨hx, hb, hml, hown, hts⟩ (t_A11_1 l hlt D cyI cyZ ad zb zo zt zm zu zr zl zf 1 (-1) p3 0 _ _ rfl (q_gt_r (by decide))) (vx_cwSW 6 hts gL_refuses_L_act rfl rfl rfl (by decide +kernel) ⟨Nat.le_of_ble_eq_true rfl, Nat.le_of_ble_eq_true rfl⟩) (poS hG hz hn hP hD hS hA) rfl rfl hl.1 rfl (lv_room (Nat.le_of_ble_eq_true rfl)) dL_refuses_591 ⟨Nat.le_of_ble_eq_true rfl, Nat.le_of_ble_eq_true rfl⟩) hD hS hA (rfl) (wE.rf) (fun H locs hP hD hS => ?_)
  refine W.widen (k := 27) (n := 162) (Nat.le_of_ble_eq_true rfl) (Nat.le_of_ble_eq_true rfl) ?_
  refine lv_iload hx hb dL_refuses_594 (lv_at hl 13 rfl) ?_
  refine lv_icmp_ne (tgt := 619) hx hb dL_refuses_596 (by decide) (fun c9 => absurd (by decide) c9) (fun _ => ?_)
  refine lv_aload_n hx hb dL_refuses_599 rfl (lv_at hl 8 rfl) ?_
  refine lv_bipush (v := 11) hx hb dL_refuses_600 (by decide) ?_
  refine lv_iconst (v := 1) hx hb dL_refuses_602 (by decide) ?_
  refine lv_iload_n hx hb dL_refuses_603 rfl (lv_at hl 9 rfl) ?_
  refine lv_iload hx hb dL_refuses_604 (lv_at hl 4 rfl) ?_
  refine lv_iconst (v := 0) hx hb dL_refuses_606 (by decide) ?_
  refine mo_i (vx_runSW (As := [.ref (ad 0), .int 11, .int 1, .int p2, .int (-1), .int 0]) (rest := []) ⟨hx, hb, hml, hown, hts⟩ (t_A11_1 l hlt D cyI cyZ ad zb zo zt zm zu zr zl zf 1 p2 (-1) 0 _ _ rfl (q_gt_c hr9 (by decide))) (vx_cwSW 6 hts gL_refuses_L_act rfl rfl rfl (by decide +kernel) ⟨Nat.le_of_ble_eq_true rfl, Nat.le_of_ble_eq_true rfl⟩) (poS hG hz hn hP hD hS hA) rfl rfl hl.1 rfl (lv_room (Nat.le_of_ble_eq_true rfl)) dL_refuses_607 ⟨Nat.le_of_ble_eq_true rfl, Nat.le_of_ble_eq_true rfl⟩) hD hS hA (rfl) (wE.rf) (fun H locs hP hD hS => ?_)
  refine W.widen (k := 28) (n := 168) (Nat.le_of_ble_eq_true rfl) (Nat.le_of_ble_eq_true rfl) ?_
  refine lv_iload hx hb dL_refuses_610 (lv_at hl 13 rfl) ?_
  refine lv_icmp_ne (tgt := 619) hx hb dL_refuses_612 (by decide) (fun c9 => absurd (by decide) c9) (fun _ => ?_)
  refine lv_iconst (v := 1) hx hb dL_refuses_615 (by decide) ?_
  refine lv_goto (tgt := 620) hx hb dL_refuses_616 (by decide) ?_
  refine lv_istore (lv' := [(16, .int 1), (15, .int 0), (14, .int (-1)), (13, .int (-1)), (12, .int (-1)), (11, .int (-1)), (10, .int (-1)), (9, .int (-1)), (0, .ref (ad 0)), (1, .int p2), (2, .int p3), (3, .int zl.1), (4, .int zl.2.1), (5, .int (-20001)), (6, .int (-20002)), (7, .int 2147483647), (8, .int 0)]) hx hb dL_refuses_620 hl (by decide) rfl (fun ls hl => ?_)
  refine lv_iload hx hb dL_refuses_622 (lv_at hl 0 rfl) ?_
  refine lv_if_eq (tgt := 695) hx hb dL_refuses_624 (by decide) (fun c9 => absurd c9 (by decide)) (fun _ => ?_)
  refine lv_aload_n hx hb dL_refuses_627 rfl (lv_at hl 8 rfl) ?_
  refine lv_bipush (v := 12) hx hb dL_refuses_628 (by decide) ?_
  refine lv_iload hx hb dL_refuses_630 (lv_at hl 1 rfl) ?_
  refine lv_iconst (v := 0) hx hb dL_refuses_632 (by decide) ?_
  refine lv_iconst (v := 0) hx hb dL_refuses_633 (by decide) ?_
  refine lv_iconst (v := 0) hx hb dL_refuses_634 (by decide) ?_
  refine mo_i (vx_runSW (As := [.ref (ad 0), .int 12, .int 0, .int 0, .int 0, .int 0]) (rest := []) ⟨hx, hb, hml, hown, hts⟩ (t_A12_1 l hlt D cyI cyZ ad zb zo zt zm zu zr zl zf 0 0 0 0 _ _ rfl (by decide)) (vx_cwSW 6 hts gL_refuses_L_act rfl rfl rfl (by decide +kernel) ⟨Nat.le_of_ble_eq_true rfl, Nat.le_of_ble_eq_true rfl⟩) (poS hG hz hn hP hD hS hA) rfl rfl hl.1 rfl (lv_room (Nat.le_of_ble_eq_true rfl)) dL_refuses_635 ⟨Nat.le_of_ble_eq_true rfl, Nat.le_of_ble_eq_true rfl⟩) hD hS hA (rfl) (wE.rf) (fun H locs hP hD hS => ?_)
  refine W.widen (k := 29) (n := 174) (Nat.le_of_ble_eq_true rfl) (Nat.le_of_ble_eq_true rfl) ?_
  refine lv_iload hx hb dL_refuses_638 (lv_at hl 13 rfl) ?_
  refine lv_icmp_ne (tgt := 695) hx hb dL_refuses_640 (by decide) (fun c9 => absurd (by decide) c9) (fun _ => ?_)
  refine lv_aload_n hx hb dL_refuses_643 rfl (lv_at hl 8 rfl) ?_
  refine lv_bipush (v := 14) hx hb dL_refuses_644 (by decide) ?_
  refine lv_iload hx hb dL_refuses_646 (lv_at hl 3 rfl) ?_
  refine lv_iconst (v := 0) hx hb dL_refuses_648 (by decide) ?_
  refine lv_iconst (v := 0) hx hb dL_refuses_649 (by decide) ?_
  refine lv_iconst (v := 0) hx hb dL_refuses_650 (by decide) ?_
  refine mo_i (vx_runSW (As := [.ref (ad 0), .int 14, .int (-1), .int 0, .int 0, .int 0]) (rest := []) ⟨hx, hb, hml, hown, hts⟩ (t_A14_1 l hlt D cyI cyZ ad zb zo zt zm zu zr zl zf (-1) 0 0 0 _ _ rfl (q_by_k (by decide))) (vx_cwSW 6 hts gL_refuses_L_act rfl rfl rfl (by decide +kernel) ⟨Nat.le_of_ble_eq_true rfl, Nat.le_of_ble_eq_true rfl⟩) (poS hG hz hn hP hD hS hA) rfl rfl hl.1 rfl (lv_room (Nat.le_of_ble_eq_true rfl)) dL_refuses_651 ⟨Nat.le_of_ble_eq_true rfl, Nat.le_of_ble_eq_true rfl⟩) hD hS hA (rfl) (wE.rf) (fun H locs hP hD hS => ?_)
  refine W.widen (k := 30) (n := 180) (Nat.le_of_ble_eq_true rfl) (Nat.le_of_ble_eq_true rfl) ?_
  refine lv_iload hx hb dL_refuses_654 (lv_at hl 13 rfl) ?_
  refine lv_icmp_ne (tgt := 695) hx hb dL_refuses_656 (by decide) (fun c9 => absurd (by decide) c9) (fun _ => ?_)
  refine lv_aload_n hx hb dL_refuses_659 rfl (lv_at hl 8 rfl) ?_
  refine lv_bipush (v := 14) hx hb dL_refuses_660 (by decide) ?_
  refine lv_iconst (v := 0) hx hb dL_refuses_662 (by decide) ?_
  refine lv_iload hx hb dL_refuses_663 (lv_at hl 4 rfl) ?_
  refine lv_iconst (v := 0) hx hb dL_refuses_665 (by decide) ?_
  refine lv_iconst (v := 0) hx hb dL_refuses_666 (by decide) ?_
  refine mo_i (vx_runSW (As := [.ref (ad 0), .int 14, .int 0, .int (-1), .int 0, .int 0]) (rest := []) ⟨hx, hb, hml, hown, hts⟩ (t_A14_1 l hlt D cyI cyZ ad zb zo zt zm zu zr zl zf 0 (-1) 0 0 _ _ rfl (q_by_c (by decide))) (vx_cwSW 6 hts gL_refuses_L_act rfl rfl rfl (by decide +kernel) ⟨Nat.le_of_ble_eq_true rfl, Nat.le_of_ble_eq_true rfl⟩) (poS hG hz hn hP hD hS hA) rfl rfl hl.1 rfl (lv_room (Nat.le_of_ble_eq_true rfl)) dL_refuses_667 ⟨Nat.le_of_ble_eq_true rfl, Nat.le_of_ble_eq_true rfl⟩) hD hS hA (rfl) (wE.rf) (fun H locs hP hD hS => ?_)
  refine W.widen (k := 31) (n := 186) (Nat.le_of_ble_eq_true rfl) (Nat.le_of_ble_eq_true rfl) ?_
  refine lv_iload hx hb dL_refuses_670 (lv_at hl 13 rfl) ?_
  refine lv_icmp_ne (tgt := 695) hx hb dL_refuses_672 (by decide) (fun c9 => absurd (by decide) c9) (fun _ => ?_)
  refine lv_aload_n hx hb dL_refuses_675 rfl (lv_at hl 8 rfl) ?_
  refine lv_bipush (v := 18) hx hb dL_refuses_676 (by decide) ?_
  refine lv_iconst (v := 0) hx hb dL_refuses_678 (by decide) ?_
  refine lv_iload hx hb dL_refuses_679 (lv_at hl 1 rfl) ?_
  refine lv_iconst (v := 0) hx hb dL_refuses_681 (by decide) ?_
  refine lv_iconst (v := 0) hx hb dL_refuses_682 (by decide) ?_
  refine mo_i (vx_runSW (As := [.ref (ad 0), .int 18, .int 0, .int 0, .int 0, .int 0]) (rest := []) ⟨hx, hb, hml, hown, hts⟩ (t_A18_1 l hlt D cyI cyZ ad zb zo zt zm zu zr zl zf 0 0 0 0 _ _ rfl (q_se_s (by decide))) (vx_cwSW 6 hts gL_refuses_L_act rfl rfl rfl (by decide +kernel) ⟨Nat.le_of_ble_eq_true rfl, Nat.le_of_ble_eq_true rfl⟩) (poS hG hz hn hP hD hS hA) rfl rfl hl.1 rfl (lv_room (Nat.le_of_ble_eq_true rfl)) dL_refuses_683 ⟨Nat.le_of_ble_eq_true rfl, Nat.le_of_ble_eq_true rfl⟩) hD hS hA (rfl) (wE.rf) (fun H locs hP hD hS => ?_)
  refine W.widen (k := 32) (n := 192) (Nat.le_of_ble_eq_true rfl) (Nat.le_of_ble_eq_true rfl) ?_
  refine lv_iload hx hb dL_refuses_686 (lv_at hl 13 rfl) ?_
  refine lv_icmp_ne (tgt := 695) hx hb dL_refuses_688 (by decide) (fun c9 => absurd (by decide) c9) (fun _ => ?_)
  refine lv_iconst (v := 1) hx hb dL_refuses_691 (by decide) ?_
  refine lv_goto (tgt := 696) hx hb dL_refuses_692 (by decide) ?_
  refine lv_istore (lv' := [(16, .int 1), (15, .int 0), (14, .int (-1)), (13, .int (-1)), (12, .int (-1)), (11, .int (-1)), (10, .int (-1)), (9, .int (-1)), (0, .ref (ad 0)), (1, .int p2), (2, .int p3), (3, .int zl.1), (4, .int zl.2.1), (5, .int (-20001)), (6, .int (-20002)), (7, .int 2147483647), (8, .int 0)]) hx hb dL_refuses_696 hl (by decide) rfl (fun ls hl => ?_)
  refine lv_bipush (v := 15) hx hb dL_refuses_698 (by decide) ?_
  refine lv_istore (lv' := [(17, .int 15), (16, .int 1), (15, .int 0), (14, .int (-1)), (13, .int (-1)), (12, .int (-1)), (11, .int (-1)), (10, .int (-1)), (9, .int (-1)), (0, .ref (ad 0)), (1, .int p2), (2, .int p3), (3, .int zl.1), (4, .int zl.2.1), (5, .int (-20001)), (6, .int (-20002)), (7, .int 2147483647), (8, .int 0)]) hx hb dL_refuses_700 hl (by decide) rfl (fun ls hl => ?_)
  refine lv_iload hx hb dL_refuses_702 (lv_at hl 0 rfl) ?_
  refine lv_bipush (v := 19) hx hb dL_refuses_704 (by decide) ?_
  refine lv_icmp_ge (tgt := 753) hx hb dL_refuses_706 (by decide) (fun c9 => absurd c9 (by decide)) (fun _ => ?_)
  refine lv_iload hx hb dL_refuses_709 (lv_at hl 1 rfl) ?_
  refine lv_if_eq (tgt := 744) hx hb dL_refuses_711 (by decide) (fun c9 => absurd c9 (by decide)) (fun _ => ?_)
  refine lv_aload_n hx hb dL_refuses_714 rfl (lv_at hl 9 rfl) ?_
  refine lv_iload hx hb dL_refuses_715 (lv_at hl 0 rfl) ?_
  refine lv_iload hx hb dL_refuses_717 (lv_at hl 17 rfl) ?_
  refine lv_iconst (v := 1) hx hb dL_refuses_719 (by decide) ?_
  refine lv_icmp_ne (tgt := 727) hx hb dL_refuses_720 (by decide) (fun _ => ?_) (fun c9 => absurd c9 (by decide))
  refine lv_iload hx hb dL_refuses_727 (lv_at hl 8 rfl) ?_
  refine lv_iconst (v := 1) hx hb dL_refuses_729 (by decide) ?_
  refine lv_iconst (v := 0) hx hb dL_refuses_730 (by decide) ?_
  refine lv_iconst (v := 0) hx hb dL_refuses_731 (by decide) ?_
  refine mo_i (vx_runSW (As := [.ref (ad 0), .int 15, .int (-1), .int 1, .int 0, .int 0]) (rest := []) ⟨hx, hb, hml, hown, hts⟩ (t_A15_1 l hlt D cyI cyZ ad zb zo zt zm zu zr zl zf (-1) 1 0 0 _ _ rfl (q_ki (Or.inl (by decide)))) (vx_cwSW 6 hts gL_refuses_L_act rfl rfl rfl (by decide +kernel) ⟨Nat.le_of_ble_eq_true rfl, Nat.le_of_ble_eq_true rfl⟩) (poS hG hz hn hP hD hS hA) rfl rfl hl.1 rfl (lv_room (Nat.le_of_ble_eq_true rfl)) dL_refuses_732 ⟨Nat.le_of_ble_eq_true rfl, Nat.le_of_ble_eq_true rfl⟩) hD hS hA (rfl) (wE.rf) (fun H locs hP hD hS => ?_)
  refine W.widen (k := 33) (n := 198) (Nat.le_of_ble_eq_true rfl) (Nat.le_of_ble_eq_true rfl) ?_
  refine lv_iload hx hb dL_refuses_735 (lv_at hl 14 rfl) ?_
  refine lv_icmp_ne (tgt := 744) hx hb dL_refuses_737 (by decide) (fun c9 => absurd (by decide) c9) (fun _ => ?_)
  refine lv_iconst (v := 1) hx hb dL_refuses_740 (by decide) ?_
  refine lv_goto (tgt := 745) hx hb dL_refuses_741 (by decide) ?_
  refine lv_istore (lv' := [(16, .int 1), (17, .int 15), (15, .int 0), (14, .int (-1)), (13, .int (-1)), (12, .int (-1)), (11, .int (-1)), (10, .int (-1)), (9, .int (-1)), (0, .ref (ad 0)), (1, .int p2), (2, .int p3), (3, .int zl.1), (4, .int zl.2.1), (5, .int (-20001)), (6, .int (-20002)), (7, .int 2147483647), (8, .int 0)]) hx hb dL_refuses_745 hl (by decide) rfl (fun ls hl => ?_)
  refine lv_iinc (v := 16) (lv' := [(17, .int 16), (16, .int 1), (15, .int 0), (14, .int (-1)), (13, .int (-1)), (12, .int (-1)), (11, .int (-1)), (10, .int (-1)), (9, .int (-1)), (0, .ref (ad 0)), (1, .int p2), (2, .int p3), (3, .int zl.1), (4, .int zl.2.1), (5, .int (-20001)), (6, .int (-20002)), (7, .int 2147483647), (8, .int 0)]) hx hb dL_refuses_747 hl (k := 1) rfl (by decide) (by decide) rfl (fun ls hl => ?_)
  refine lv_goto (tgt := 702) hx hb dL_refuses_750 (by decide) ?_
  refine lv_iload hx hb dL_refuses_702 (lv_at hl 0 rfl) ?_
  refine lv_bipush (v := 19) hx hb dL_refuses_704 (by decide) ?_
  refine lv_icmp_ge (tgt := 753) hx hb dL_refuses_706 (by decide) (fun c9 => absurd c9 (by decide)) (fun _ => ?_)
  refine lv_iload hx hb dL_refuses_709 (lv_at hl 1 rfl) ?_
  refine lv_if_eq (tgt := 744) hx hb dL_refuses_711 (by decide) (fun c9 => absurd c9 (by decide)) (fun _ => ?_)
  refine lv_aload_n hx hb dL_refuses_714 rfl (lv_at hl 9 rfl) ?_
  refine lv_iload hx hb dL_refuses_715 (lv_at hl 0 rfl) ?_
  refine lv_iload hx hb dL_refuses_717 (lv_at hl 17 rfl) ?_
  refine lv_iconst (v := 1) hx hb dL_refuses_719 (by decide) ?_
  refine lv_icmp_ne (tgt := 727) hx hb dL_refuses_720 (by decide) (fun _ => ?_) (fun c9 => absurd c9 (by decide))
  refine lv_iload hx hb dL_refuses_727 (lv_at hl 8 rfl) ?_
  refine lv_iconst (v := 1) hx hb dL_refuses_729 (by decide) ?_
  refine lv_iconst (v := 0) hx hb dL_refuses_730 (by decide) ?_
  refine lv_iconst (v := 0) hx hb dL_refuses_731 (by decide) ?_
  refine mo_i (vx_runSW (As := [.ref (ad 0), .int 16, .int (-1), .int 1, .int 0, .int 0]) (rest := []) ⟨hx, hb, hml, hown, hts⟩ (t_A16_1 l hlt D cyI cyZ ad zb zo zt zm zu zr zl zf (-1) 1 0 0 _ _ rfl (q_ke (Or.inl (by decide)))) (vx_cwSW 6 hts gL_refuses_L_act rfl rfl rfl (by decide +kernel) ⟨Nat.le_of_ble_eq_true rfl, Nat.le_of_ble_eq_true rfl⟩) (poS hG hz hn hP hD hS hA) rfl rfl hl.1 rfl (lv_room (Nat.le_of_ble_eq_true rfl)) dL_refuses_732 ⟨Nat.le_of_ble_eq_true rfl, Nat.le_of_ble_eq_true rfl⟩) hD hS hA (rfl) (wE.rf) (fun H locs hP hD hS => ?_)
  refine W.widen (k := 34) (n := 204) (Nat.le_of_ble_eq_true rfl) (Nat.le_of_ble_eq_true rfl) ?_
  refine lv_iload hx hb dL_refuses_735 (lv_at hl 14 rfl) ?_
  refine lv_icmp_ne (tgt := 744) hx hb dL_refuses_737 (by decide) (fun c9 => absurd (by decide) c9) (fun _ => ?_)
  refine lv_iconst (v := 1) hx hb dL_refuses_740 (by decide) ?_
  refine lv_goto (tgt := 745) hx hb dL_refuses_741 (by decide) ?_
  refine lv_istore (lv' := [(16, .int 1), (17, .int 16), (15, .int 0), (14, .int (-1)), (13, .int (-1)), (12, .int (-1)), (11, .int (-1)), (10, .int (-1)), (9, .int (-1)), (0, .ref (ad 0)), (1, .int p2), (2, .int p3), (3, .int zl.1), (4, .int zl.2.1), (5, .int (-20001)), (6, .int (-20002)), (7, .int 2147483647), (8, .int 0)]) hx hb dL_refuses_745 hl (by decide) rfl (fun ls hl => ?_)
  refine lv_iinc (v := 17) (lv' := [(17, .int 17), (16, .int 1), (15, .int 0), (14, .int (-1)), (13, .int (-1)), (12, .int (-1)), (11, .int (-1)), (10, .int (-1)), (9, .int (-1)), (0, .ref (ad 0)), (1, .int p2), (2, .int p3), (3, .int zl.1), (4, .int zl.2.1), (5, .int (-20001)), (6, .int (-20002)), (7, .int 2147483647), (8, .int 0)]) hx hb dL_refuses_747 hl (k := 1) rfl (by decide) (by decide) rfl (fun ls hl => ?_)
  refine lv_goto (tgt := 702) hx hb dL_refuses_750 (by decide) ?_
  refine lv_iload hx hb dL_refuses_702 (lv_at hl 0 rfl) ?_
  refine lv_bipush (v := 19) hx hb dL_refuses_704 (by decide) ?_
  refine lv_icmp_ge (tgt := 753) hx hb dL_refuses_706 (by decide) (fun c9 => absurd c9 (by decide)) (fun _ => ?_)
  refine lv_iload hx hb dL_refuses_709 (lv_at hl 1 rfl) ?_
  refine lv_if_eq (tgt := 744) hx hb dL_refuses_711 (by decide) (fun c9 => absurd c9 (by decide)) (fun _ => ?_)
  refine lv_aload_n hx hb dL_refuses_714 rfl (lv_at hl 9 rfl) ?_
  refine lv_iload hx hb dL_refuses_715 (lv_at hl 0 rfl) ?_
  refine lv_iload hx hb dL_refuses_717 (lv_at hl 17 rfl) ?_
  refine lv_iconst (v := 1) hx hb dL_refuses_719 (by decide) ?_
  refine lv_icmp_ne (tgt := 727) hx hb dL_refuses_720 (by decide) (fun _ => ?_) (fun c9 => absurd c9 (by decide))
  refine lv_iload hx hb dL_refuses_727 (lv_at hl 8 rfl) ?_
  refine lv_iconst (v := 1) hx hb dL_refuses_729 (by decide) ?_
  refine lv_iconst (v := 0) hx hb dL_refuses_730 (by decide) ?_
  refine lv_iconst (v := 0) hx hb dL_refuses_731 (by decide) ?_
  refine mo_i (vx_runSW (As := [.ref (ad 0), .int 17, .int (-1), .int 1, .int 0, .int 0]) (rest := []) ⟨hx, hb, hml, hown, hts⟩ (t_A17_1 l hlt D cyI cyZ ad zb zo zt zm zu zr zl zf (-1) 1 0 0 _ _ rfl (q_co (Or.inl (by decide)))) (vx_cwSW 6 hts gL_refuses_L_act rfl rfl rfl (by decide +kernel) ⟨Nat.le_of_ble_eq_true rfl, Nat.le_of_ble_eq_true rfl⟩) (poS hG hz hn hP hD hS hA) rfl rfl hl.1 rfl (lv_room (Nat.le_of_ble_eq_true rfl)) dL_refuses_732 ⟨Nat.le_of_ble_eq_true rfl, Nat.le_of_ble_eq_true rfl⟩) hD hS hA (rfl) (wE.rf) (fun H locs hP hD hS => ?_)
  refine W.widen (k := 35) (n := 210) (Nat.le_of_ble_eq_true rfl) (Nat.le_of_ble_eq_true rfl) ?_
  refine lv_iload hx hb dL_refuses_735 (lv_at hl 14 rfl) ?_
  refine lv_icmp_ne (tgt := 744) hx hb dL_refuses_737 (by decide) (fun c9 => absurd (by decide) c9) (fun _ => ?_)
  refine lv_iconst (v := 1) hx hb dL_refuses_740 (by decide) ?_
  refine lv_goto (tgt := 745) hx hb dL_refuses_741 (by decide) ?_
  refine lv_istore (lv' := [(16, .int 1), (17, .int 17), (15, .int 0), (14, .int (-1)), (13, .int (-1)), (12, .int (-1)), (11, .int (-1)), (10, .int (-1)), (9, .int (-1)), (0, .ref (ad 0)), (1, .int p2), (2, .int p3), (3, .int zl.1), (4, .int zl.2.1), (5, .int (-20001)), (6, .int (-20002)), (7, .int 2147483647), (8, .int 0)]) hx hb dL_refuses_745 hl (by decide) rfl (fun ls hl => ?_)
  refine lv_iinc (v := 18) (lv' := [(17, .int 18), (16, .int 1), (15, .int 0), (14, .int (-1)), (13, .int (-1)), (12, .int (-1)), (11, .int (-1)), (10, .int (-1)), (9, .int (-1)), (0, .ref (ad 0)), (1, .int p2), (2, .int p3), (3, .int zl.1), (4, .int zl.2.1), (5, .int (-20001)), (6, .int (-20002)), (7, .int 2147483647), (8, .int 0)]) hx hb dL_refuses_747 hl (k := 1) rfl (by decide) (by decide) rfl (fun ls hl => ?_)
  refine lv_goto (tgt := 702) hx hb dL_refuses_750 (by decide) ?_
  refine lv_iload hx hb dL_refuses_702 (lv_at hl 0 rfl) ?_
  refine lv_bipush (v := 19) hx hb dL_refuses_704 (by decide) ?_
  refine lv_icmp_ge (tgt := 753) hx hb dL_refuses_706 (by decide) (fun c9 => absurd c9 (by decide)) (fun _ => ?_)
  refine lv_iload hx hb dL_refuses_709 (lv_at hl 1 rfl) ?_
  refine lv_if_eq (tgt := 744) hx hb dL_refuses_711 (by decide) (fun c9 => absurd c9 (by decide)) (fun _ => ?_)
  refine lv_aload_n hx hb dL_refuses_714 rfl (lv_at hl 9 rfl) ?_
  refine lv_iload hx hb dL_refuses_715 (lv_at hl 0 rfl) ?_
  refine lv_iload hx hb dL_refuses_717 (lv_at hl 17 rfl) ?_
  refine lv_iconst (v := 1) hx hb dL_refuses_719 (by decide) ?_
  refine lv_icmp_ne (tgt := 727) hx hb dL_refuses_720 (by decide) (fun _ => ?_) (fun c9 => absurd c9 (by decide))
  refine lv_iload hx hb dL_refuses_727 (lv_at hl 8 rfl) ?_
  refine lv_iconst (v := 1) hx hb dL_refuses_729 (by decide) ?_
  refine lv_iconst (v := 0) hx hb dL_refuses_730 (by decide) ?_
  refine lv_iconst (v := 0) hx hb dL_refuses_731 (by decide) ?_
  refine mo_i (vx_runSW (As := [.ref (ad 0), .int 18, .int (-1), .int 1, .int 0, .int 0]) (rest := []) ⟨hx, hb, hml, hown, hts⟩ (t_A18_1 l hlt D cyI cyZ ad zb zo zt zm zu zr zl zf (-1) 1 0 0 _ _ rfl (q_se (Or.inl (by decide)))) (vx_cwSW 6 hts gL_refuses_L_act rfl rfl rfl (by decide +kernel) ⟨Nat.le_of_ble_eq_true rfl, Nat.le_of_ble_eq_true rfl⟩) (poS hG hz hn hP hD hS hA) rfl rfl hl.1 rfl (lv_room (Nat.le_of_ble_eq_true rfl)) dL_refuses_732 ⟨Nat.le_of_ble_eq_true rfl, Nat.le_of_ble_eq_true rfl⟩) hD hS hA (rfl) (wE.rf) (fun H locs hP hD hS => ?_)
  refine W.widen (k := 36) (n := 216) (Nat.le_of_ble_eq_true rfl) (Nat.le_of_ble_eq_true rfl) ?_
  refine lv_iload hx hb dL_refuses_735 (lv_at hl 14 rfl) ?_
  refine lv_icmp_ne (tgt := 744) hx hb dL_refuses_737 (by decide) (fun c9 => absurd (by decide) c9) (fun _ => ?_)
  refine lv_iconst (v := 1) hx hb dL_refuses_740 (by decide) ?_
  refine lv_goto (tgt := 745) hx hb dL_refuses_741 (by decide) ?_
  refine lv_istore (lv' := [(16, .int 1), (17, .int 18), (15, .int 0), (14, .int (-1)), (13, .int (-1)), (12, .int (-1)), (11, .int (-1)), (10, .int (-1)), (9, .int (-1)), (0, .ref (ad 0)), (1, .int p2), (2, .int p3), (3, .int zl.1), (4, .int zl.2.1), (5, .int (-20001)), (6, .int (-20002)), (7, .int 2147483647), (8, .int 0)]) hx hb dL_refuses_745 hl (by decide) rfl (fun ls hl => ?_)
  refine lv_iinc (v := 19) (lv' := [(17, .int 19), (16, .int 1), (15, .int 0), (14, .int (-1)), (13, .int (-1)), (12, .int (-1)), (11, .int (-1)), (10, .int (-1)), (9, .int (-1)), (0, .ref (ad 0)), (1, .int p2), (2, .int p3), (3, .int zl.1), (4, .int zl.2.1), (5, .int (-20001)), (6, .int (-20002)), (7, .int 2147483647), (8, .int 0)]) hx hb dL_refuses_747 hl (k := 1) rfl (by decide) (by decide) rfl (fun ls hl => ?_)
  refine lv_goto (tgt := 702) hx hb dL_refuses_750 (by decide) ?_
  refine lv_iload hx hb dL_refuses_702 (lv_at hl 0 rfl) ?_
  refine lv_bipush (v := 19) hx hb dL_refuses_704 (by decide) ?_
  refine lv_icmp_ge (tgt := 753) hx hb dL_refuses_706 (by decide) (fun _ => ?_) (fun c9 => absurd (by decide) c9)
  refine lv_iload hx hb dL_refuses_753 (lv_at hl 1 rfl) ?_
  refine lv_if_ne (tgt := 760) hx hb dL_refuses_755 (by decide) (fun _ => ?_) (fun c9 => absurd c9 (by decide))
  refine lv_iinc (v := 1) (lv' := [(8, .int 1), (17, .int 19), (16, .int 1), (15, .int 0), (14, .int (-1)), (13, .int (-1)), (12, .int (-1)), (11, .int (-1)), (10, .int (-1)), (9, .int (-1)), (0, .ref (ad 0)), (1, .int p2), (2, .int p3), (3, .int zl.1), (4, .int zl.2.1), (5, .int (-20001)), (6, .int (-20002)), (7, .int 2147483647)]) hx hb dL_refuses_760 hl (k := 17) rfl (by decide) (by decide) rfl (fun ls hl => ?_)
  refine lv_goto (tgt := 28) hx hb dL_refuses_763 (by decide) ?_
  exact KK H locs ls hP hD hS (lv_sub hl [10, 11, 12, 13, 14, 15, 16, 17, 0] rfl)
set_option maxHeartbeats 8000000 in
set_option maxRecDepth 100000 in
theorem rf_1 {p : Program} {l : Launch} {e : Env} {s : State} {m : MethodId} {args : Array Value} {below : List Frame} {meth : Method} {c : Code} {Q : State → Prop} (hlt : l.stackTraces = false) {D : va_G} {cyI cyZ : ClassId} {ad : Nat → Nat} {zb : Tr} {zo : Tr} {zt : Tr} {zm : Tr} {zu : Nat → Int32} {zr : Nat → Int32} {zl : Lr} {zf : Int32} {p2 p3 : Int32} {A : Nat → Prop} (hr9 : ¬ f_X1_hasRow zo p2 = 0) (hc9 : ¬ f_X1_hasColumn zo p3 = 0) (hx : p.tables.exec = Jvm.exec) (hb : c.code = cL_refuses) (hml : c.maxLocals = 18) (hown : s.vm.findClass RL = some m.cls) (hts : ∀ w ∈ wsL_refuses, w.before args s = true) (hG : gP D cyI cyZ s) (hz : zqA A s s.heap) (hn : zn s) (hA : ∀ q : Nat, s.heap.size ≤ q → A q)
    (KK : ∀ (H : Heap) (locs : List Loc) (ls : Array Slot), va_P D vwCl (wZ cyI cyZ ad zb zo zt zm zu zr zl zf) H → va_D A (wZ cyI cyZ ad zb zo zt zm zu zr zl zf) → va_S A s.heap H locs → lv_has ls 18 [(0, .ref (ad 0)), (1, .int p2), (2, .int p3), (3, .int zl.1), (4, .int zl.2.1), (5, .int (-20001)), (6, .int (-20002)), (7, .int 2147483647), (8, .int 2)] → W p l e (headSpec wsL_refuses ({ frames := 10, cells := 144, slots := 864, locals := 194 } : Room)).room s m args below meth c H locs 72 432 Q (F0 m 28 ls [])) : ∀ (H : Heap) (locs : List Loc) (ls : Array Slot), va_P D vwCl (wZ cyI cyZ ad zb zo zt zm zu zr zl zf) H → va_D A (wZ cyI cyZ ad zb zo zt zm zu zr zl zf) → va_S A s.heap H locs → lv_has ls 18 [(0, .ref (ad 0)), (1, .int p2), (2, .int p3), (3, .int zl.1), (4, .int zl.2.1), (5, .int (-20001)), (6, .int (-20002)), (7, .int 2147483647), (8, .int 1)] → W p l e (headSpec wsL_refuses ({ frames := 10, cells := 144, slots := 864, locals := 194 } : Room)).room s m args below meth c H locs 36 216 Q (F0 m 28 ls []) := by
  intro H locs ls hP hD hS hl
  refine lv_iload hx hb dL_refuses_28 (lv_at hl 8 rfl) ?_
  refine lv_iconst (v := 4) hx hb dL_refuses_30 (by decide) ?_
  refine lv_icmp_ge (tgt := 766) hx hb dL_refuses_31 (by decide) (fun c9 => absurd c9 (by decide)) (fun _ => ?_)
  refine lv_iload hx hb dL_refuses_34 (lv_at hl 8 rfl) ?_
  refine lv_if_ne (tgt := 43) hx hb dL_refuses_36 (by decide) (fun _ => ?_) (fun c9 => absurd c9 (by decide))
  refine lv_iload hx hb dL_refuses_43 (lv_at hl 8 rfl) ?_
  refine lv_iconst (v := 2) hx hb dL_refuses_45 (by decide) ?_
  refine lv_icmp_ne (tgt := 54) hx hb dL_refuses_46 (by decide) (fun _ => ?_) (fun c9 => absurd c9 (by decide))
  refine lv_iload hx hb dL_refuses_54 (lv_at hl 7 rfl) ?_
  refine lv_ineg hx hb dL_refuses_56 ?_
  refine W.eq (g2 := F0 m 57 ls (.int (-2147483647) :: [])) (congrArg (fun z => F0 m 57 ls (.int z :: [])) (show -2147483647 = (-2147483647) by decide)) ?_
  refine lv_iconst (v := 1) hx hb dL_refuses_57 (by decide) ?_
  refine lv_isub hx hb dL_refuses_58 ?_
  refine W.eq (g2 := F0 m 59 ls (.int (-2147483648) :: [])) (congrArg (fun z => F0 m 59 ls (.int z :: [])) (show (-2147483647) - 1 = (-2147483648) by decide)) ?_
  refine lv_istore (lv' := [(9, .int (-2147483648)), (0, .ref (ad 0)), (1, .int p2), (2, .int p3), (3, .int zl.1), (4, .int zl.2.1), (5, .int (-20001)), (6, .int (-20002)), (7, .int 2147483647), (8, .int 1)]) hx hb dL_refuses_59 hl (by decide) rfl (fun ls hl => ?_)
  refine lv_iload hx hb dL_refuses_61 (lv_at hl 9 rfl) ?_
  refine lv_iconst (v := 1) hx hb dL_refuses_63 (by decide) ?_
  refine lv_icmp_ne (tgt := 71) hx hb dL_refuses_64 (by decide) (fun c9 => absurd (by decide) c9) (fun _ => ?_)
  refine lv_iconst (v := 3) hx hb dL_refuses_67 (by decide) ?_
  refine lv_goto (tgt := 73) hx hb dL_refuses_68 (by decide) ?_
  refine lv_istore (lv' := [(10, .int 3), (9, .int (-2147483648)), (0, .ref (ad 0)), (1, .int p2), (2, .int p3), (3, .int zl.1), (4, .int zl.2.1), (5, .int (-20001)), (6, .int (-20002)), (7, .int 2147483647), (8, .int 1)]) hx hb dL_refuses_73 hl (by decide) rfl (fun ls hl => ?_)
  refine lv_iload hx hb dL_refuses_75 (lv_at hl 10 rfl) ?_
  refine lv_iconst (v := 1) hx hb dL_refuses_77 (by decide) ?_
  refine lv_icmp_ne (tgt := 85) hx hb dL_refuses_78 (by decide) (fun c9 => absurd (by decide) c9) (fun _ => ?_)
  refine lv_iconst (v := 4) hx hb dL_refuses_81 (by decide) ?_
  refine lv_goto (tgt := 87) hx hb dL_refuses_82 (by decide) ?_
  refine lv_istore (lv' := [(11, .int 4), (10, .int 3), (9, .int (-2147483648)), (0, .ref (ad 0)), (1, .int p2), (2, .int p3), (3, .int zl.1), (4, .int zl.2.1), (5, .int (-20001)), (6, .int (-20002)), (7, .int 2147483647), (8, .int 1)]) hx hb dL_refuses_87 hl (by decide) rfl (fun ls hl => ?_)
  refine lv_iload hx hb dL_refuses_89 (lv_at hl 11 rfl) ?_
  refine lv_iconst (v := 1) hx hb dL_refuses_91 (by decide) ?_
  refine lv_icmp_ne (tgt := 100) hx hb dL_refuses_92 (by decide) (fun c9 => absurd (by decide) c9) (fun _ => ?_)
  refine lv_bipush (v := 8) hx hb dL_refuses_95 (by decide) ?_
  refine lv_goto (tgt := 102) hx hb dL_refuses_97 (by decide) ?_
  refine lv_istore (lv' := [(12, .int 8), (11, .int 4), (10, .int 3), (9, .int (-2147483648)), (0, .ref (ad 0)), (1, .int p2), (2, .int p3), (3, .int zl.1), (4, .int zl.2.1), (5, .int (-20001)), (6, .int (-20002)), (7, .int 2147483647), (8, .int 1)]) hx hb dL_refuses_102 hl (by decide) rfl (fun ls hl => ?_)
  refine lv_iload hx hb dL_refuses_104 (lv_at hl 12 rfl) ?_
  refine lv_iconst (v := 1) hx hb dL_refuses_106 (by decide) ?_
  refine lv_icmp_ne (tgt := 115) hx hb dL_refuses_107 (by decide) (fun c9 => absurd (by decide) c9) (fun _ => ?_)
  refine lv_bipush (v := 24) hx hb dL_refuses_110 (by decide) ?_
  refine lv_goto (tgt := 117) hx hb dL_refuses_112 (by decide) ?_
  refine lv_istore (lv' := [(13, .int 24), (12, .int 8), (11, .int 4), (10, .int 3), (9, .int (-2147483648)), (0, .ref (ad 0)), (1, .int p2), (2, .int p3), (3, .int zl.1), (4, .int zl.2.1), (5, .int (-20001)), (6, .int (-20002)), (7, .int 2147483647), (8, .int 1)]) hx hb dL_refuses_117 hl (by decide) rfl (fun ls hl => ?_)
  refine lv_iload hx hb dL_refuses_119 (lv_at hl 13 rfl) ?_
  refine lv_iconst (v := 1) hx hb dL_refuses_121 (by decide) ?_
  refine lv_icmp_ne (tgt := 130) hx hb dL_refuses_122 (by decide) (fun c9 => absurd (by decide) c9) (fun _ => ?_)
  refine lv_bipush (v := 100) hx hb dL_refuses_125 (by decide) ?_
  refine lv_goto (tgt := 132) hx hb dL_refuses_127 (by decide) ?_
  refine lv_istore (lv' := [(14, .int 100), (13, .int 24), (12, .int 8), (11, .int 4), (10, .int 3), (9, .int (-2147483648)), (0, .ref (ad 0)), (1, .int p2), (2, .int p3), (3, .int zl.1), (4, .int zl.2.1), (5, .int (-20001)), (6, .int (-20002)), (7, .int 2147483647), (8, .int 1)]) hx hb dL_refuses_132 hl (by decide) rfl (fun ls hl => ?_)
  refine lv_iload hx hb dL_refuses_134 (lv_at hl 14 rfl) ?_
  refine lv_if_ne (tgt := 143) hx hb dL_refuses_136 (by decide) (fun _ => ?_) (fun c9 => absurd c9 (by decide))
  refine lv_iload hx hb dL_refuses_143 (lv_at hl 4 rfl) ?_
  refine lv_istore (lv' := [(15, .int 3), (14, .int 100), (13, .int 24), (12, .int 8), (11, .int 4), (10, .int 3), (9, .int (-2147483648)), (0, .ref (ad 0)), (1, .int p2), (2, .int p3), (3, .int zl.1), (4, .int zl.2.1), (5, .int (-20001)), (6, .int (-20002)), (7, .int 2147483647), (8, .int 1)]) hx hb dL_refuses_145 hl (by decide) rfl (fun ls hl => ?_)
  refine lv_aload_n hx hb dL_refuses_147 rfl (lv_at hl 7 rfl) ?_
  refine lv_iconst (v := 0) hx hb dL_refuses_148 (by decide) ?_
  refine lv_iload hx hb dL_refuses_149 (lv_at hl 5 rfl) ?_
  refine lv_iconst (v := 0) hx hb dL_refuses_151 (by decide) ?_
  refine lv_iconst (v := 0) hx hb dL_refuses_152 (by decide) ?_
  refine lv_iconst (v := 0) hx hb dL_refuses_153 (by decide) ?_
  refine mo_i (vx_runSW (As := [.ref (ad 0), .int 0, .int 3, .int 0, .int 0, .int 0]) (rest := []) ⟨hx, hb, hml, hown, hts⟩ (t_A0_1 l hlt D cyI cyZ ad zb zo zt zm zu zr zl zf 3 0 0 0 _ _ rfl (q_ac_t (by decide))) (vx_cwSW 6 hts gL_refuses_L_act rfl rfl rfl (by decide +kernel) ⟨Nat.le_of_ble_eq_true rfl, Nat.le_of_ble_eq_true rfl⟩) (poS hG hz hn hP hD hS hA) rfl rfl hl.1 rfl (lv_room (Nat.le_of_ble_eq_true rfl)) dL_refuses_154 ⟨Nat.le_of_ble_eq_true rfl, Nat.le_of_ble_eq_true rfl⟩) hD hS hA (rfl) (wE.rf) (fun H locs hP hD hS => ?_)
  refine W.widen (k := 37) (n := 222) (Nat.le_of_ble_eq_true rfl) (Nat.le_of_ble_eq_true rfl) ?_
  refine lv_iload hx hb dL_refuses_157 (lv_at hl 12 rfl) ?_
  refine lv_icmp_ne (tgt := 361) hx hb dL_refuses_159 (by decide) (fun c9 => absurd (by decide) c9) (fun _ => ?_)
  refine lv_aload_n hx hb dL_refuses_162 rfl (lv_at hl 7 rfl) ?_
  refine lv_iconst (v := 0) hx hb dL_refuses_163 (by decide) ?_
  refine lv_iconst (v := 0) hx hb dL_refuses_164 (by decide) ?_
  refine lv_iload hx hb dL_refuses_165 (lv_at hl 3 rfl) ?_
  refine lv_iconst (v := (-1)) hx hb dL_refuses_167 (by decide) ?_
  refine lv_iconst (v := 0) hx hb dL_refuses_168 (by decide) ?_
  refine mo_i (vx_runSW (As := [.ref (ad 0), .int 0, .int 0, .int 8, .int (-1), .int 0]) (rest := []) ⟨hx, hb, hml, hown, hts⟩ (t_A0_1 l hlt D cyI cyZ ad zb zo zt zm zu zr zl zf 0 8 (-1) 0 _ _ rfl (q_ac_c (by decide))) (vx_cwSW 6 hts gL_refuses_L_act rfl rfl rfl (by decide +kernel) ⟨Nat.le_of_ble_eq_true rfl, Nat.le_of_ble_eq_true rfl⟩) (poS hG hz hn hP hD hS hA) rfl rfl hl.1 rfl (lv_room (Nat.le_of_ble_eq_true rfl)) dL_refuses_169 ⟨Nat.le_of_ble_eq_true rfl, Nat.le_of_ble_eq_true rfl⟩) hD hS hA (rfl) (wE.rf) (fun H locs hP hD hS => ?_)
  refine W.widen (k := 38) (n := 228) (Nat.le_of_ble_eq_true rfl) (Nat.le_of_ble_eq_true rfl) ?_
  refine lv_iload hx hb dL_refuses_172 (lv_at hl 12 rfl) ?_
  refine lv_icmp_ne (tgt := 361) hx hb dL_refuses_174 (by decide) (fun c9 => absurd (by decide) c9) (fun _ => ?_)
  refine lv_aload_n hx hb dL_refuses_177 rfl (lv_at hl 7 rfl) ?_
  refine lv_iconst (v := 0) hx hb dL_refuses_178 (by decide) ?_
  refine lv_iconst (v := 1) hx hb dL_refuses_179 (by decide) ?_
  refine lv_iload_n hx hb dL_refuses_180 rfl (lv_at hl 9 rfl) ?_
  refine lv_iload hx hb dL_refuses_181 (lv_at hl 1 rfl) ?_
  refine lv_iconst (v := 0) hx hb dL_refuses_183 (by decide) ?_
  refine mo_i (vx_runSW (As := [.ref (ad 0), .int 0, .int 1, .int p3, .int 100, .int 0]) (rest := []) ⟨hx, hb, hml, hown, hts⟩ (t_A0_2 l hlt D cyI cyZ ad zb zo zt zm zu zr zl zf 1 p3 100 0 _ _ rfl (q_ac_n hc9 (by decide))) (vx_cwSW 6 hts gL_refuses_L_act rfl rfl rfl (by decide +kernel) ⟨Nat.le_of_ble_eq_true rfl, Nat.le_of_ble_eq_true rfl⟩) (poS hG hz hn hP hD hS hA) rfl rfl hl.1 rfl (lv_room (Nat.le_of_ble_eq_true rfl)) dL_refuses_184 ⟨Nat.le_of_ble_eq_true rfl, Nat.le_of_ble_eq_true rfl⟩) hD hS hA (rfl) (wE.rf) (fun H locs hP hD hS => ?_)
  refine W.widen (k := 39) (n := 234) (Nat.le_of_ble_eq_true rfl) (Nat.le_of_ble_eq_true rfl) ?_
  refine lv_iload hx hb dL_refuses_187 (lv_at hl 13 rfl) ?_
  refine lv_icmp_ne (tgt := 361) hx hb dL_refuses_189 (by decide) (fun c9 => absurd (by decide) c9) (fun _ => ?_)
  refine lv_aload_n hx hb dL_refuses_192 rfl (lv_at hl 7 rfl) ?_
  refine lv_iconst (v := 0) hx hb dL_refuses_193 (by decide) ?_
  refine lv_iconst (v := 1) hx hb dL_refuses_194 (by decide) ?_
  refine lv_iload_n hx hb dL_refuses_195 rfl (lv_at hl 9 rfl) ?_
  refine lv_iconst (v := 5) hx hb dL_refuses_196 (by decide) ?_
  refine lv_iconst (v := 0) hx hb dL_refuses_197 (by decide) ?_
  refine mo_i (vx_runSW (As := [.ref (ad 0), .int 0, .int 1, .int p3, .int 5, .int 0]) (rest := []) ⟨hx, hb, hml, hown, hts⟩ (t_A0_3 l hlt D cyI cyZ ad zb zo zt zm zu zr zl zf 1 p3 5 0 _ _ rfl (q_ac_s hc9)) (vx_cwSW 6 hts gL_refuses_L_act rfl rfl rfl (by decide +kernel) ⟨Nat.le_of_ble_eq_true rfl, Nat.le_of_ble_eq_true rfl⟩) (poS hG hz hn hP hD hS hA) rfl rfl hl.1 rfl (lv_room (Nat.le_of_ble_eq_true rfl)) dL_refuses_198 ⟨Nat.le_of_ble_eq_true rfl, Nat.le_of_ble_eq_true rfl⟩) hD hS hA (rfl) (wE.rf) (fun H locs hP hD hS => ?_)
  refine W.widen (k := 40) (n := 240) (Nat.le_of_ble_eq_true rfl) (Nat.le_of_ble_eq_true rfl) ?_
  refine lv_sipush (v := (-20003)) hx hb dL_refuses_201 (by decide) ?_
  refine lv_icmp_ne (tgt := 361) hx hb dL_refuses_204 (by decide) (fun c9 => absurd (by decide) c9) (fun _ => ?_)
  refine lv_aload_n hx hb dL_refuses_207 rfl (lv_at hl 7 rfl) ?_
  refine lv_iconst (v := 1) hx hb dL_refuses_208 (by decide) ?_
  refine lv_iload hx hb dL_refuses_209 (lv_at hl 5 rfl) ?_
  refine lv_iload_n hx hb dL_refuses_211 rfl (lv_at hl 9 rfl) ?_
  refine lv_iconst (v := 0) hx hb dL_refuses_212 (by decide) ?_
  refine lv_iconst (v := 0) hx hb dL_refuses_213 (by decide) ?_
  refine mo_i (vx_runSW (As := [.ref (ad 0), .int 1, .int 3, .int p3, .int 0, .int 0]) (rest := []) ⟨hx, hb, hml, hown, hts⟩ (t_A1_1 l hlt D cyI cyZ ad zb zo zt zm zu zr zl zf 3 p3 0 0 _ _ rfl (q_dc_t (by decide))) (vx_cwSW 6 hts gL_refuses_L_act rfl rfl rfl (by decide +kernel) ⟨Nat.le_of_ble_eq_true rfl, Nat.le_of_ble_eq_true rfl⟩) (poS hG hz hn hP hD hS hA) rfl rfl hl.1 rfl (lv_room (Nat.le_of_ble_eq_true rfl)) dL_refuses_214 ⟨Nat.le_of_ble_eq_true rfl, Nat.le_of_ble_eq_true rfl⟩) hD hS hA (rfl) (wE.rf) (fun H locs hP hD hS => ?_)
  refine W.widen (k := 41) (n := 246) (Nat.le_of_ble_eq_true rfl) (Nat.le_of_ble_eq_true rfl) ?_
  refine lv_iload hx hb dL_refuses_217 (lv_at hl 12 rfl) ?_
  refine lv_icmp_ne (tgt := 361) hx hb dL_refuses_219 (by decide) (fun c9 => absurd (by decide) c9) (fun _ => ?_)
  refine lv_aload_n hx hb dL_refuses_222 rfl (lv_at hl 7 rfl) ?_
  refine lv_iconst (v := 1) hx hb dL_refuses_223 (by decide) ?_
  refine lv_iconst (v := 1) hx hb dL_refuses_224 (by decide) ?_
  refine lv_iload hx hb dL_refuses_225 (lv_at hl 3 rfl) ?_
  refine lv_iconst (v := 0) hx hb dL_refuses_227 (by decide) ?_
  refine lv_iconst (v := 0) hx hb dL_refuses_228 (by decide) ?_
  refine mo_i (vx_runSW (As := [.ref (ad 0), .int 1, .int 1, .int 8, .int 0, .int 0]) (rest := []) ⟨hx, hb, hml, hown, hts⟩ (t_A1_1 l hlt D cyI cyZ ad zb zo zt zm zu zr zl zf 1 8 0 0 _ _ rfl (q_dc_c (by decide))) (vx_cwSW 6 hts gL_refuses_L_act rfl rfl rfl (by decide +kernel) ⟨Nat.le_of_ble_eq_true rfl, Nat.le_of_ble_eq_true rfl⟩) (poS hG hz hn hP hD hS hA) rfl rfl hl.1 rfl (lv_room (Nat.le_of_ble_eq_true rfl)) dL_refuses_229 ⟨Nat.le_of_ble_eq_true rfl, Nat.le_of_ble_eq_true rfl⟩) hD hS hA (rfl) (wE.rf) (fun H locs hP hD hS => ?_)
  refine W.widen (k := 42) (n := 252) (Nat.le_of_ble_eq_true rfl) (Nat.le_of_ble_eq_true rfl) ?_
  refine lv_iload hx hb dL_refuses_232 (lv_at hl 12 rfl) ?_
  refine lv_icmp_ne (tgt := 361) hx hb dL_refuses_234 (by decide) (fun c9 => absurd (by decide) c9) (fun _ => ?_)
  refine lv_aload_n hx hb dL_refuses_237 rfl (lv_at hl 7 rfl) ?_
  refine lv_iconst (v := 2) hx hb dL_refuses_238 (by decide) ?_
  refine lv_iload hx hb dL_refuses_239 (lv_at hl 5 rfl) ?_
  refine lv_iload_n hx hb dL_refuses_241 rfl (lv_at hl 9 rfl) ?_
  refine lv_iconst (v := 0) hx hb dL_refuses_242 (by decide) ?_
  refine lv_iconst (v := 0) hx hb dL_refuses_243 (by decide) ?_
  refine mo_i (vx_runSW (As := [.ref (ad 0), .int 2, .int 3, .int p3, .int 0, .int 0]) (rest := []) ⟨hx, hb, hml, hown, hts⟩ (t_A2_1 l hlt D cyI cyZ ad zb zo zt zm zu zr zl zf 3 p3 0 0 _ _ rfl (q_rn_t (by decide))) (vx_cwSW 6 hts gL_refuses_L_act rfl rfl rfl (by decide +kernel) ⟨Nat.le_of_ble_eq_true rfl, Nat.le_of_ble_eq_true rfl⟩) (poS hG hz hn hP hD hS hA) rfl rfl hl.1 rfl (lv_room (Nat.le_of_ble_eq_true rfl)) dL_refuses_244 ⟨Nat.le_of_ble_eq_true rfl, Nat.le_of_ble_eq_true rfl⟩) hD hS hA (rfl) (wE.rf) (fun H locs hP hD hS => ?_)
  refine W.widen (k := 43) (n := 258) (Nat.le_of_ble_eq_true rfl) (Nat.le_of_ble_eq_true rfl) ?_
  refine lv_iload hx hb dL_refuses_247 (lv_at hl 12 rfl) ?_
  refine lv_icmp_ne (tgt := 361) hx hb dL_refuses_249 (by decide) (fun c9 => absurd (by decide) c9) (fun _ => ?_)
  refine lv_aload_n hx hb dL_refuses_252 rfl (lv_at hl 7 rfl) ?_
  refine lv_iconst (v := 2) hx hb dL_refuses_253 (by decide) ?_
  refine lv_iconst (v := 1) hx hb dL_refuses_254 (by decide) ?_
  refine lv_iload hx hb dL_refuses_255 (lv_at hl 3 rfl) ?_
  refine lv_iconst (v := (-1)) hx hb dL_refuses_257 (by decide) ?_
  refine lv_iconst (v := 0) hx hb dL_refuses_258 (by decide) ?_
  refine mo_i (vx_runSW (As := [.ref (ad 0), .int 2, .int 1, .int 8, .int (-1), .int 0]) (rest := []) ⟨hx, hb, hml, hown, hts⟩ (t_A2_1 l hlt D cyI cyZ ad zb zo zt zm zu zr zl zf 1 8 (-1) 0 _ _ rfl (q_rn_c (by decide))) (vx_cwSW 6 hts gL_refuses_L_act rfl rfl rfl (by decide +kernel) ⟨Nat.le_of_ble_eq_true rfl, Nat.le_of_ble_eq_true rfl⟩) (poS hG hz hn hP hD hS hA) rfl rfl hl.1 rfl (lv_room (Nat.le_of_ble_eq_true rfl)) dL_refuses_259 ⟨Nat.le_of_ble_eq_true rfl, Nat.le_of_ble_eq_true rfl⟩) hD hS hA (rfl) (wE.rf) (fun H locs hP hD hS => ?_)
  refine W.widen (k := 44) (n := 264) (Nat.le_of_ble_eq_true rfl) (Nat.le_of_ble_eq_true rfl) ?_
  refine lv_iload hx hb dL_refuses_262 (lv_at hl 12 rfl) ?_
  refine lv_icmp_ne (tgt := 361) hx hb dL_refuses_264 (by decide) (fun c9 => absurd (by decide) c9) (fun _ => ?_)
  refine lv_aload_n hx hb dL_refuses_267 rfl (lv_at hl 7 rfl) ?_
  refine lv_iconst (v := 2) hx hb dL_refuses_268 (by decide) ?_
  refine lv_iconst (v := 1) hx hb dL_refuses_269 (by decide) ?_
  refine lv_iload_n hx hb dL_refuses_270 rfl (lv_at hl 9 rfl) ?_
  refine lv_iload hx hb dL_refuses_271 (lv_at hl 1 rfl) ?_
  refine lv_iconst (v := 0) hx hb dL_refuses_273 (by decide) ?_
  refine mo_i (vx_runSW (As := [.ref (ad 0), .int 2, .int 1, .int p3, .int 100, .int 0]) (rest := []) ⟨hx, hb, hml, hown, hts⟩ (t_A2_2 l hlt D cyI cyZ ad zb zo zt zm zu zr zl zf 1 p3 100 0 _ _ rfl (q_rn_n hc9 (by decide))) (vx_cwSW 6 hts gL_refuses_L_act rfl rfl rfl (by decide +kernel) ⟨Nat.le_of_ble_eq_true rfl, Nat.le_of_ble_eq_true rfl⟩) (poS hG hz hn hP hD hS hA) rfl rfl hl.1 rfl (lv_room (Nat.le_of_ble_eq_true rfl)) dL_refuses_274 ⟨Nat.le_of_ble_eq_true rfl, Nat.le_of_ble_eq_true rfl⟩) hD hS hA (rfl) (wE.rf) (fun H locs hP hD hS => ?_)
  refine W.widen (k := 45) (n := 270) (Nat.le_of_ble_eq_true rfl) (Nat.le_of_ble_eq_true rfl) ?_
  refine lv_iload hx hb dL_refuses_277 (lv_at hl 13 rfl) ?_
  refine lv_icmp_ne (tgt := 361) hx hb dL_refuses_279 (by decide) (fun c9 => absurd (by decide) c9) (fun _ => ?_)
  refine lv_aload_n hx hb dL_refuses_282 rfl (lv_at hl 7 rfl) ?_
  refine lv_iconst (v := 3) hx hb dL_refuses_283 (by decide) ?_
  refine lv_iload hx hb dL_refuses_284 (lv_at hl 5 rfl) ?_
  refine lv_iconst (v := 0) hx hb dL_refuses_286 (by decide) ?_
  refine lv_iconst (v := 0) hx hb dL_refuses_287 (by decide) ?_
  refine lv_iconst (v := 0) hx hb dL_refuses_288 (by decide) ?_
  refine mo_i (vx_runSW (As := [.ref (ad 0), .int 3, .int 3, .int 0, .int 0, .int 0]) (rest := []) ⟨hx, hb, hml, hown, hts⟩ (t_A3_1 l hlt D cyI cyZ ad zb zo zt zm zu zr zl zf 3 0 0 0 _ _ rfl (q_ar_t (by decide))) (vx_cwSW 6 hts gL_refuses_L_act rfl rfl rfl (by decide +kernel) ⟨Nat.le_of_ble_eq_true rfl, Nat.le_of_ble_eq_true rfl⟩) (poS hG hz hn hP hD hS hA) rfl rfl hl.1 rfl (lv_room (Nat.le_of_ble_eq_true rfl)) dL_refuses_289 ⟨Nat.le_of_ble_eq_true rfl, Nat.le_of_ble_eq_true rfl⟩) hD hS hA (rfl) (wE.rf) (fun H locs hP hD hS => ?_)
  refine W.widen (k := 46) (n := 276) (Nat.le_of_ble_eq_true rfl) (Nat.le_of_ble_eq_true rfl) ?_
  refine lv_iload hx hb dL_refuses_292 (lv_at hl 12 rfl) ?_
  refine lv_icmp_ne (tgt := 361) hx hb dL_refuses_294 (by decide) (fun c9 => absurd (by decide) c9) (fun _ => ?_)
  refine lv_aload_n hx hb dL_refuses_297 rfl (lv_at hl 7 rfl) ?_
  refine lv_iconst (v := 3) hx hb dL_refuses_298 (by decide) ?_
  refine lv_iconst (v := 0) hx hb dL_refuses_299 (by decide) ?_
  refine lv_iload hx hb dL_refuses_300 (lv_at hl 2 rfl) ?_
  refine lv_iconst (v := 0) hx hb dL_refuses_302 (by decide) ?_
  refine lv_iconst (v := 0) hx hb dL_refuses_303 (by decide) ?_
  refine mo_i (vx_runSW (As := [.ref (ad 0), .int 3, .int 0, .int 24, .int 0, .int 0]) (rest := []) ⟨hx, hb, hml, hown, hts⟩ (t_A3_1 l hlt D cyI cyZ ad zb zo zt zm zu zr zl zf 0 24 0 0 _ _ rfl (q_ar_k (by decide))) (vx_cwSW 6 hts gL_refuses_L_act rfl rfl rfl (by decide +kernel) ⟨Nat.le_of_ble_eq_true rfl, Nat.le_of_ble_eq_true rfl⟩) (poS hG hz hn hP hD hS hA) rfl rfl hl.1 rfl (lv_room (Nat.le_of_ble_eq_true rfl)) dL_refuses_304 ⟨Nat.le_of_ble_eq_true rfl, Nat.le_of_ble_eq_true rfl⟩) hD hS hA (rfl) (wE.rf) (fun H locs hP hD hS => ?_)
  refine W.widen (k := 47) (n := 282) (Nat.le_of_ble_eq_true rfl) (Nat.le_of_ble_eq_true rfl) ?_
  refine lv_iload hx hb dL_refuses_307 (lv_at hl 12 rfl) ?_
  refine lv_icmp_ne (tgt := 361) hx hb dL_refuses_309 (by decide) (fun c9 => absurd (by decide) c9) (fun _ => ?_)
  refine lv_aload_n hx hb dL_refuses_312 rfl (lv_at hl 7 rfl) ?_
  refine lv_iconst (v := 3) hx hb dL_refuses_313 (by decide) ?_
  refine lv_iconst (v := 1) hx hb dL_refuses_314 (by decide) ?_
  refine lv_iload_n hx hb dL_refuses_315 rfl (lv_at hl 8 rfl) ?_
  refine lv_iconst (v := 0) hx hb dL_refuses_316 (by decide) ?_
  refine lv_iconst (v := 0) hx hb dL_refuses_317 (by decide) ?_
  refine mo_i (vx_runSW (As := [.ref (ad 0), .int 3, .int 1, .int p2, .int 0, .int 0]) (rest := []) ⟨hx, hb, hml, hown, hts⟩ (t_A3_3 l hlt D cyI cyZ ad zb zo zt zm zu zr zl zf 1 p2 0 0 _ _ rfl (q_ar_s hr9)) (vx_cwSW 6 hts gL_refuses_L_act rfl rfl rfl (by decide +kernel) ⟨Nat.le_of_ble_eq_true rfl, Nat.le_of_ble_eq_true rfl⟩) (poS hG hz hn hP hD hS hA) rfl rfl hl.1 rfl (lv_room (Nat.le_of_ble_eq_true rfl)) dL_refuses_318 ⟨Nat.le_of_ble_eq_true rfl, Nat.le_of_ble_eq_true rfl⟩) hD hS hA (rfl) (wE.rf) (fun H locs hP hD hS => ?_)
  refine W.widen (k := 48) (n := 288) (Nat.le_of_ble_eq_true rfl) (Nat.le_of_ble_eq_true rfl) ?_
  refine lv_sipush (v := (-20003)) hx hb dL_refuses_321 (by decide) ?_
  refine lv_icmp_ne (tgt := 361) hx hb dL_refuses_324 (by decide) (fun c9 => absurd (by decide) c9) (fun _ => ?_)
  refine lv_aload_n hx hb dL_refuses_327 rfl (lv_at hl 7 rfl) ?_
  refine lv_iconst (v := 4) hx hb dL_refuses_328 (by decide) ?_
  refine lv_iload hx hb dL_refuses_329 (lv_at hl 5 rfl) ?_
  refine lv_iload_n hx hb dL_refuses_331 rfl (lv_at hl 8 rfl) ?_
  refine lv_iconst (v := 0) hx hb dL_refuses_332 (by decide) ?_
  refine lv_iconst (v := 0) hx hb dL_refuses_333 (by decide) ?_
  refine mo_i (vx_runSW (As := [.ref (ad 0), .int 4, .int 3, .int p2, .int 0, .int 0]) (rest := []) ⟨hx, hb, hml, hown, hts⟩ (t_A4_1 l hlt D cyI cyZ ad zb zo zt zm zu zr zl zf 3 p2 0 0 _ _ rfl (q_rr_t (by decide))) (vx_cwSW 6 hts gL_refuses_L_act rfl rfl rfl (by decide +kernel) ⟨Nat.le_of_ble_eq_true rfl, Nat.le_of_ble_eq_true rfl⟩) (poS hG hz hn hP hD hS hA) rfl rfl hl.1 rfl (lv_room (Nat.le_of_ble_eq_true rfl)) dL_refuses_334 ⟨Nat.le_of_ble_eq_true rfl, Nat.le_of_ble_eq_true rfl⟩) hD hS hA (rfl) (wE.rf) (fun H locs hP hD hS => ?_)
  refine W.widen (k := 49) (n := 294) (Nat.le_of_ble_eq_true rfl) (Nat.le_of_ble_eq_true rfl) ?_
  refine lv_iload hx hb dL_refuses_337 (lv_at hl 12 rfl) ?_
  refine lv_icmp_ne (tgt := 361) hx hb dL_refuses_339 (by decide) (fun c9 => absurd (by decide) c9) (fun _ => ?_)
  refine lv_aload_n hx hb dL_refuses_342 rfl (lv_at hl 7 rfl) ?_
  refine lv_iconst (v := 4) hx hb dL_refuses_343 (by decide) ?_
  refine lv_iconst (v := 1) hx hb dL_refuses_344 (by decide) ?_
  refine lv_iload hx hb dL_refuses_345 (lv_at hl 2 rfl) ?_
  refine lv_iconst (v := 0) hx hb dL_refuses_347 (by decide) ?_
  refine lv_iconst (v := 0) hx hb dL_refuses_348 (by decide) ?_
  refine mo_i (vx_runSW (As := [.ref (ad 0), .int 4, .int 1, .int 24, .int 0, .int 0]) (rest := []) ⟨hx, hb, hml, hown, hts⟩ (t_A4_1 l hlt D cyI cyZ ad zb zo zt zm zu zr zl zf 1 24 0 0 _ _ rfl (q_rr_k (by decide))) (vx_cwSW 6 hts gL_refuses_L_act rfl rfl rfl (by decide +kernel) ⟨Nat.le_of_ble_eq_true rfl, Nat.le_of_ble_eq_true rfl⟩) (poS hG hz hn hP hD hS hA) rfl rfl hl.1 rfl (lv_room (Nat.le_of_ble_eq_true rfl)) dL_refuses_349 ⟨Nat.le_of_ble_eq_true rfl, Nat.le_of_ble_eq_true rfl⟩) hD hS hA (rfl) (wE.rf) (fun H locs hP hD hS => ?_)
  refine W.widen (k := 50) (n := 300) (Nat.le_of_ble_eq_true rfl) (Nat.le_of_ble_eq_true rfl) ?_
  refine lv_iload hx hb dL_refuses_352 (lv_at hl 12 rfl) ?_
  refine lv_icmp_ne (tgt := 361) hx hb dL_refuses_354 (by decide) (fun c9 => absurd (by decide) c9) (fun _ => ?_)
  refine lv_iconst (v := 1) hx hb dL_refuses_357 (by decide) ?_
  refine lv_goto (tgt := 362) hx hb dL_refuses_358 (by decide) ?_
  refine lv_istore (lv' := [(16, .int 1), (15, .int 3), (14, .int 100), (13, .int 24), (12, .int 8), (11, .int 4), (10, .int 3), (9, .int (-2147483648)), (0, .ref (ad 0)), (1, .int p2), (2, .int p3), (3, .int zl.1), (4, .int zl.2.1), (5, .int (-20001)), (6, .int (-20002)), (7, .int 2147483647), (8, .int 1)]) hx hb dL_refuses_362 hl (by decide) rfl (fun ls hl => ?_)
  refine lv_iload hx hb dL_refuses_364 (lv_at hl 0 rfl) ?_
  refine lv_if_eq (tgt := 619) hx hb dL_refuses_366 (by decide) (fun c9 => absurd c9 (by decide)) (fun _ => ?_)
  refine lv_aload_n hx hb dL_refuses_369 rfl (lv_at hl 8 rfl) ?_
  refine lv_iconst (v := 5) hx hb dL_refuses_370 (by decide) ?_
  refine lv_iload hx hb dL_refuses_371 (lv_at hl 6 rfl) ?_
  refine lv_iload_n hx hb dL_refuses_373 rfl (lv_at hl 9 rfl) ?_
  refine lv_iload_n hx hb dL_refuses_374 rfl (lv_at hl 10 rfl) ?_
  refine lv_iconst (v := 0) hx hb dL_refuses_375 (by decide) ?_
  refine mo_i (vx_runSW (As := [.ref (ad 0), .int 5, .int 3, .int p2, .int p3, .int 0]) (rest := []) ⟨hx, hb, hml, hown, hts⟩ (t_A5_1 l hlt D cyI cyZ ad zb zo zt zm zu zr zl zf 3 p2 p3 0 _ _ rfl (q_st_t (by decide))) (vx_cwSW 6 hts gL_refuses_L_act rfl rfl rfl (by decide +kernel) ⟨Nat.le_of_ble_eq_true rfl, Nat.le_of_ble_eq_true rfl⟩) (poS hG hz hn hP hD hS hA) rfl rfl hl.1 rfl (lv_room (Nat.le_of_ble_eq_true rfl)) dL_refuses_376 ⟨Nat.le_of_ble_eq_true rfl, Nat.le_of_ble_eq_true rfl⟩) hD hS hA (rfl) (wE.rf) (fun H locs hP hD hS => ?_)
  refine W.widen (k := 51) (n := 306) (Nat.le_of_ble_eq_true rfl) (Nat.le_of_ble_eq_true rfl) ?_
  refine lv_iload hx hb dL_refuses_379 (lv_at hl 13 rfl) ?_
  refine lv_icmp_ne (tgt := 619) hx hb dL_refuses_381 (by decide) (fun c9 => absurd (by decide) c9) (fun _ => ?_)
  refine lv_aload_n hx hb dL_refuses_384 rfl (lv_at hl 8 rfl) ?_
  refine lv_iconst (v := 5) hx hb dL_refuses_385 (by decide) ?_
  refine lv_iconst (v := 1) hx hb dL_refuses_386 (by decide) ?_
  refine lv_iload hx hb dL_refuses_387 (lv_at hl 3 rfl) ?_
  refine lv_iload_n hx hb dL_refuses_389 rfl (lv_at hl 10 rfl) ?_
  refine lv_iconst (v := 0) hx hb dL_refuses_390 (by decide) ?_
  refine mo_i (vx_runSW (As := [.ref (ad 0), .int 5, .int 1, .int 24, .int p3, .int 0]) (rest := []) ⟨hx, hb, hml, hown, hts⟩ (t_A5_1 l hlt D cyI cyZ ad zb zo zt zm zu zr zl zf 1 24 p3 0 _ _ rfl (q_st_r (by decide))) (vx_cwSW 6 hts gL_refuses_L_act rfl rfl rfl (by decide +kernel) ⟨Nat.le_of_ble_eq_true rfl, Nat.le_of_ble_eq_true rfl⟩) (poS hG hz hn hP hD hS hA) rfl rfl hl.1 rfl (lv_room (Nat.le_of_ble_eq_true rfl)) dL_refuses_391 ⟨Nat.le_of_ble_eq_true rfl, Nat.le_of_ble_eq_true rfl⟩) hD hS hA (rfl) (wE.rf) (fun H locs hP hD hS => ?_)
  refine W.widen (k := 52) (n := 312) (Nat.le_of_ble_eq_true rfl) (Nat.le_of_ble_eq_true rfl) ?_
  refine lv_iload hx hb dL_refuses_394 (lv_at hl 13 rfl) ?_
  refine lv_icmp_ne (tgt := 619) hx hb dL_refuses_396 (by decide) (fun c9 => absurd (by decide) c9) (fun _ => ?_)
  refine lv_aload_n hx hb dL_refuses_399 rfl (lv_at hl 8 rfl) ?_
  refine lv_iconst (v := 5) hx hb dL_refuses_400 (by decide) ?_
  refine lv_iconst (v := 1) hx hb dL_refuses_401 (by decide) ?_
  refine lv_iload_n hx hb dL_refuses_402 rfl (lv_at hl 9 rfl) ?_
  refine lv_iload hx hb dL_refuses_403 (lv_at hl 4 rfl) ?_
  refine lv_sipush (v := 10000) hx hb dL_refuses_405 (by decide) ?_
  refine mo_i (vx_runSW (As := [.ref (ad 0), .int 5, .int 1, .int p2, .int 8, .int 10000]) (rest := []) ⟨hx, hb, hml, hown, hts⟩ (t_A5_1 l hlt D cyI cyZ ad zb zo zt zm zu zr zl zf 1 p2 8 10000 _ _ rfl (q_st_c hr9 (by decide))) (vx_cwSW 6 hts gL_refuses_L_act rfl rfl rfl (by decide +kernel) ⟨Nat.le_of_ble_eq_true rfl, Nat.le_of_ble_eq_true rfl⟩) (poS hG hz hn hP hD hS hA) rfl rfl hl.1 rfl (lv_room (Nat.le_of_ble_eq_true rfl)) dL_refuses_408 ⟨Nat.le_of_ble_eq_true rfl, Nat.le_of_ble_eq_true rfl⟩) hD hS hA (rfl) (wE.rf) (fun H locs hP hD hS => ?_)
  refine W.widen (k := 53) (n := 318) (Nat.le_of_ble_eq_true rfl) (Nat.le_of_ble_eq_true rfl) ?_
  refine lv_iload hx hb dL_refuses_411 (lv_at hl 13 rfl) ?_
  refine lv_icmp_ne (tgt := 619) hx hb dL_refuses_413 (by decide) (fun c9 => absurd (by decide) c9) (fun _ => ?_)
  refine lv_aload_n hx hb dL_refuses_416 rfl (lv_at hl 8 rfl) ?_
  refine lv_iconst (v := 5) hx hb dL_refuses_417 (by decide) ?_
  refine lv_iconst (v := 1) hx hb dL_refuses_418 (by decide) ?_
  refine lv_iload_n hx hb dL_refuses_419 rfl (lv_at hl 9 rfl) ?_
  refine lv_iload_n hx hb dL_refuses_420 rfl (lv_at hl 10 rfl) ?_
  refine lv_iload hx hb dL_refuses_421 (lv_at hl 16 rfl) ?_
  refine lv_if_ne (tgt := 432) hx hb dL_refuses_423 (by decide) (fun _ => ?_) (fun c9 => absurd c9 (by decide))
  refine lv_iload hx hb dL_refuses_432 (lv_at hl 16 rfl) ?_
  refine lv_iconst (v := 1) hx hb dL_refuses_434 (by decide) ?_
  refine lv_icmp_ne (tgt := 444) hx hb dL_refuses_435 (by decide) (fun c9 => absurd (by decide) c9) (fun _ => ?_)
  refine lv_sipush (v := 10000) hx hb dL_refuses_438 (by decide) ?_
  refine lv_goto (tgt := 446) hx hb dL_refuses_441 (by decide) ?_
  refine mo_i (vx_runSW (As := [.ref (ad 0), .int 5, .int 1, .int p2, .int p3, .int 10000]) (rest := []) ⟨hx, hb, hml, hown, hts⟩ (t_A5_2 l hlt D cyI cyZ ad zb zo zt zm zu zr zl zf 1 p2 p3 10000 _ _ rfl (q_st_v hr9 hc9 (by decide))) (vx_cwSW 6 hts gL_refuses_L_act rfl rfl rfl (by decide +kernel) ⟨Nat.le_of_ble_eq_true rfl, Nat.le_of_ble_eq_true rfl⟩) (poS hG hz hn hP hD hS hA) rfl rfl hl.1 rfl (lv_room (Nat.le_of_ble_eq_true rfl)) dL_refuses_446 ⟨Nat.le_of_ble_eq_true rfl, Nat.le_of_ble_eq_true rfl⟩) hD hS hA (rfl) (wE.rf) (fun H locs hP hD hS => ?_)
  refine W.widen (k := 54) (n := 324) (Nat.le_of_ble_eq_true rfl) (Nat.le_of_ble_eq_true rfl) ?_
  refine lv_iload hx hb dL_refuses_449 (lv_at hl 14 rfl) ?_
  refine lv_icmp_ne (tgt := 619) hx hb dL_refuses_451 (by decide) (fun c9 => absurd (by decide) c9) (fun _ => ?_)
  refine lv_aload_n hx hb dL_refuses_454 rfl (lv_at hl 8 rfl) ?_
  refine lv_bipush (v := 6) hx hb dL_refuses_455 (by decide) ?_
  refine lv_iload hx hb dL_refuses_457 (lv_at hl 4 rfl) ?_
  refine lv_bipush (v := 9) hx hb dL_refuses_459 (by decide) ?_
  refine lv_iconst (v := 0) hx hb dL_refuses_461 (by decide) ?_
  refine lv_iconst (v := 0) hx hb dL_refuses_462 (by decide) ?_
  refine mo_i (vx_runSW (As := [.ref (ad 0), .int 6, .int 8, .int 9, .int 0, .int 0]) (rest := []) ⟨hx, hb, hml, hown, hts⟩ (t_A6_1 l hlt D cyI cyZ ad zb zo zt zm zu zr zl zf 8 9 0 0 _ _ rfl (by decide)) (vx_cwSW 6 hts gL_refuses_L_act rfl rfl rfl (by decide +kernel) ⟨Nat.le_of_ble_eq_true rfl, Nat.le_of_ble_eq_true rfl⟩) (poS hG hz hn hP hD hS hA) rfl rfl hl.1 rfl (lv_room (Nat.le_of_ble_eq_true rfl)) dL_refuses_463 ⟨Nat.le_of_ble_eq_true rfl, Nat.le_of_ble_eq_true rfl⟩) hD hS hA (rfl) (wE.rf) (fun H locs hP hD hS => ?_)
  refine W.widen (k := 55) (n := 330) (Nat.le_of_ble_eq_true rfl) (Nat.le_of_ble_eq_true rfl) ?_
  refine lv_iload hx hb dL_refuses_466 (lv_at hl 13 rfl) ?_
  refine lv_icmp_ne (tgt := 619) hx hb dL_refuses_468 (by decide) (fun c9 => absurd (by decide) c9) (fun _ => ?_)
  refine lv_aload_n hx hb dL_refuses_471 rfl (lv_at hl 8 rfl) ?_
  refine lv_bipush (v := 6) hx hb dL_refuses_472 (by decide) ?_
  refine lv_iconst (v := 0) hx hb dL_refuses_474 (by decide) ?_
  refine lv_iload hx hb dL_refuses_475 (lv_at hl 5 rfl) ?_
  refine lv_iconst (v := 0) hx hb dL_refuses_477 (by decide) ?_
  refine lv_iconst (v := 0) hx hb dL_refuses_478 (by decide) ?_
  refine mo_i (vx_runSW (As := [.ref (ad 0), .int 6, .int 0, .int 4, .int 0, .int 0]) (rest := []) ⟨hx, hb, hml, hown, hts⟩ (t_A6_2 l hlt D cyI cyZ ad zb zo zt zm zu zr zl zf 0 4 0 0 _ _ rfl (by decide)) (vx_cwSW 6 hts gL_refuses_L_act rfl rfl rfl (by decide +kernel) ⟨Nat.le_of_ble_eq_true rfl, Nat.le_of_ble_eq_true rfl⟩) (poS hG hz hn hP hD hS hA) rfl rfl hl.1 rfl (lv_room (Nat.le_of_ble_eq_true rfl)) dL_refuses_479 ⟨Nat.le_of_ble_eq_true rfl, Nat.le_of_ble_eq_true rfl⟩) hD hS hA (rfl) (wE.rf) (fun H locs hP hD hS => ?_)
  refine W.widen (k := 56) (n := 336) (Nat.le_of_ble_eq_true rfl) (Nat.le_of_ble_eq_true rfl) ?_
  refine lv_iload hx hb dL_refuses_482 (lv_at hl 14 rfl) ?_
  refine lv_icmp_ne (tgt := 619) hx hb dL_refuses_484 (by decide) (fun c9 => absurd (by decide) c9) (fun _ => ?_)
  refine lv_aload_n hx hb dL_refuses_487 rfl (lv_at hl 8 rfl) ?_
  refine lv_bipush (v := 7) hx hb dL_refuses_488 (by decide) ?_
  refine lv_iload hx hb dL_refuses_490 (lv_at hl 4 rfl) ?_
  refine lv_iconst (v := 1) hx hb dL_refuses_492 (by decide) ?_
  refine lv_iconst (v := 0) hx hb dL_refuses_493 (by decide) ?_
  refine lv_iconst (v := 0) hx hb dL_refuses_494 (by decide) ?_
  refine mo_i (vx_runSW (As := [.ref (ad 0), .int 7, .int 8, .int 1, .int 0, .int 0]) (rest := []) ⟨hx, hb, hml, hown, hts⟩ (t_A7_1 l hlt D cyI cyZ ad zb zo zt zm zu zr zl zf 8 0 0 _ _ rfl (by decide)) (vx_cwSW 6 hts gL_refuses_L_act rfl rfl rfl (by decide +kernel) ⟨Nat.le_of_ble_eq_true rfl, Nat.le_of_ble_eq_true rfl⟩) (poS hG hz hn hP hD hS hA) rfl rfl hl.1 rfl (lv_room (Nat.le_of_ble_eq_true rfl)) dL_refuses_495 ⟨Nat.le_of_ble_eq_true rfl, Nat.le_of_ble_eq_true rfl⟩) hD hS hA (rfl) (wE.rf) (fun H locs hP hD hS => ?_)
  refine W.widen (k := 57) (n := 342) (Nat.le_of_ble_eq_true rfl) (Nat.le_of_ble_eq_true rfl) ?_
  refine lv_iload hx hb dL_refuses_498 (lv_at hl 13 rfl) ?_
  refine lv_icmp_ne (tgt := 619) hx hb dL_refuses_500 (by decide) (fun c9 => absurd (by decide) c9) (fun _ => ?_)
  refine lv_aload_n hx hb dL_refuses_503 rfl (lv_at hl 8 rfl) ?_
  refine lv_bipush (v := 8) hx hb dL_refuses_504 (by decide) ?_
  refine lv_iload hx hb dL_refuses_506 (lv_at hl 5 rfl) ?_
  refine lv_iconst (v := 0) hx hb dL_refuses_508 (by decide) ?_
  refine lv_iconst (v := 0) hx hb dL_refuses_509 (by decide) ?_
  refine lv_iconst (v := 0) hx hb dL_refuses_510 (by decide) ?_
  refine mo_i (vx_runSW (As := [.ref (ad 0), .int 8, .int 4, .int 0, .int 0, .int 0]) (rest := []) ⟨hx, hb, hml, hown, hts⟩ (t_A8_1 l hlt D cyI cyZ ad zb zo zt zm zu zr zl zf 4 0 0 0 _ _ rfl (by decide)) (vx_cwSW 6 hts gL_refuses_L_act rfl rfl rfl (by decide +kernel) ⟨Nat.le_of_ble_eq_true rfl, Nat.le_of_ble_eq_true rfl⟩) (poS hG hz hn hP hD hS hA) rfl rfl hl.1 rfl (lv_room (Nat.le_of_ble_eq_true rfl)) dL_refuses_511 ⟨Nat.le_of_ble_eq_true rfl, Nat.le_of_ble_eq_true rfl⟩) hD hS hA (rfl) (wE.rf) (fun H locs hP hD hS => ?_)
  refine W.widen (k := 58) (n := 348) (Nat.le_of_ble_eq_true rfl) (Nat.le_of_ble_eq_true rfl) ?_
  refine lv_iload hx hb dL_refuses_514 (lv_at hl 13 rfl) ?_
  refine lv_icmp_ne (tgt := 619) hx hb dL_refuses_516 (by decide) (fun c9 => absurd (by decide) c9) (fun _ => ?_)
  refine lv_aload_n hx hb dL_refuses_519 rfl (lv_at hl 8 rfl) ?_
  refine lv_bipush (v := 9) hx hb dL_refuses_520 (by decide) ?_
  refine lv_iload hx hb dL_refuses_522 (lv_at hl 5 rfl) ?_
  refine lv_iconst (v := 0) hx hb dL_refuses_524 (by decide) ?_
  refine lv_iconst (v := 0) hx hb dL_refuses_525 (by decide) ?_
  refine lv_iconst (v := 0) hx hb dL_refuses_526 (by decide) ?_
  refine mo_i (vx_runSW (As := [.ref (ad 0), .int 9, .int 4, .int 0, .int 0, .int 0]) (rest := []) ⟨hx, hb, hml, hown, hts⟩ (t_A9_1 l hlt D cyI cyZ ad zb zo zt zm zu zr zl zf 4 0 0 0 _ _ rfl (by decide)) (vx_cwSW 6 hts gL_refuses_L_act rfl rfl rfl (by decide +kernel) ⟨Nat.le_of_ble_eq_true rfl, Nat.le_of_ble_eq_true rfl⟩) (poS hG hz hn hP hD hS hA) rfl rfl hl.1 rfl (lv_room (Nat.le_of_ble_eq_true rfl)) dL_refuses_527 ⟨Nat.le_of_ble_eq_true rfl, Nat.le_of_ble_eq_true rfl⟩) hD hS hA (rfl) (wE.rf) (fun H locs hP hD hS => ?_)
  refine W.widen (k := 59) (n := 354) (Nat.le_of_ble_eq_true rfl) (Nat.le_of_ble_eq_true rfl) ?_
  refine lv_iload hx hb dL_refuses_530 (lv_at hl 13 rfl) ?_
  refine lv_icmp_ne (tgt := 619) hx hb dL_refuses_532 (by decide) (fun c9 => absurd (by decide) c9) (fun _ => ?_)
  refine lv_aload_n hx hb dL_refuses_535 rfl (lv_at hl 8 rfl) ?_
  refine lv_bipush (v := 10) hx hb dL_refuses_536 (by decide) ?_
  refine lv_iload hx hb dL_refuses_538 (lv_at hl 5 rfl) ?_
  refine lv_iload_n hx hb dL_refuses_540 rfl (lv_at hl 10 rfl) ?_
  refine lv_iconst (v := 0) hx hb dL_refuses_541 (by decide) ?_
  refine lv_iconst (v := 0) hx hb dL_refuses_542 (by decide) ?_
  refine mo_i (vx_runSW (As := [.ref (ad 0), .int 10, .int 4, .int p3, .int 0, .int 0]) (rest := []) ⟨hx, hb, hml, hown, hts⟩ (t_A10_1 l hlt D cyI cyZ ad zb zo zt zm zu zr zl zf 4 p3 0 0 _ _ rfl (q_nm_t (by decide))) (vx_cwSW 6 hts gL_refuses_L_act rfl rfl rfl (by decide +kernel) ⟨Nat.le_of_ble_eq_true rfl, Nat.le_of_ble_eq_true rfl⟩) (poS hG hz hn hP hD hS hA) rfl rfl hl.1 rfl (lv_room (Nat.le_of_ble_eq_true rfl)) dL_refuses_543 ⟨Nat.le_of_ble_eq_true rfl, Nat.le_of_ble_eq_true rfl⟩) hD hS hA (rfl) (wE.rf) (fun H locs hP hD hS => ?_)
  refine W.widen (k := 60) (n := 360) (Nat.le_of_ble_eq_true rfl) (Nat.le_of_ble_eq_true rfl) ?_
  refine lv_iload hx hb dL_refuses_546 (lv_at hl 13 rfl) ?_
  refine lv_icmp_ne (tgt := 619) hx hb dL_refuses_548 (by decide) (fun c9 => absurd (by decide) c9) (fun _ => ?_)
  refine lv_aload_n hx hb dL_refuses_551 rfl (lv_at hl 8 rfl) ?_
  refine lv_bipush (v := 10) hx hb dL_refuses_552 (by decide) ?_
  refine lv_iconst (v := 1) hx hb dL_refuses_554 (by decide) ?_
  refine lv_iload hx hb dL_refuses_555 (lv_at hl 4 rfl) ?_
  refine lv_iconst (v := 0) hx hb dL_refuses_557 (by decide) ?_
  refine lv_iconst (v := 0) hx hb dL_refuses_558 (by decide) ?_
  refine mo_i (vx_runSW (As := [.ref (ad 0), .int 10, .int 1, .int 8, .int 0, .int 0]) (rest := []) ⟨hx, hb, hml, hown, hts⟩ (t_A10_1 l hlt D cyI cyZ ad zb zo zt zm zu zr zl zf 1 8 0 0 _ _ rfl (q_nm_c (by decide))) (vx_cwSW 6 hts gL_refuses_L_act rfl rfl rfl (by decide +kernel) ⟨Nat.le_of_ble_eq_true rfl, Nat.le_of_ble_eq_true rfl⟩) (poS hG hz hn hP hD hS hA) rfl rfl hl.1 rfl (lv_room (Nat.le_of_ble_eq_true rfl)) dL_refuses_559 ⟨Nat.le_of_ble_eq_true rfl, Nat.le_of_ble_eq_true rfl⟩) hD hS hA (rfl) (wE.rf) (fun H locs hP hD hS => ?_)
  refine W.widen (k := 61) (n := 366) (Nat.le_of_ble_eq_true rfl) (Nat.le_of_ble_eq_true rfl) ?_
  refine lv_iload hx hb dL_refuses_562 (lv_at hl 13 rfl) ?_
  refine lv_icmp_ne (tgt := 619) hx hb dL_refuses_564 (by decide) (fun c9 => absurd (by decide) c9) (fun _ => ?_)
  refine lv_aload_n hx hb dL_refuses_567 rfl (lv_at hl 8 rfl) ?_
  refine lv_bipush (v := 11) hx hb dL_refuses_568 (by decide) ?_
  refine lv_iload hx hb dL_refuses_570 (lv_at hl 5 rfl) ?_
  refine lv_iload_n hx hb dL_refuses_572 rfl (lv_at hl 9 rfl) ?_
  refine lv_iload_n hx hb dL_refuses_573 rfl (lv_at hl 10 rfl) ?_
  refine lv_iconst (v := 0) hx hb dL_refuses_574 (by decide) ?_
  refine mo_i (vx_runSW (As := [.ref (ad 0), .int 11, .int 4, .int p2, .int p3, .int 0]) (rest := []) ⟨hx, hb, hml, hown, hts⟩ (t_A11_1 l hlt D cyI cyZ ad zb zo zt zm zu zr zl zf 4 p2 p3 0 _ _ rfl (q_gt_t (by decide))) (vx_cwSW 6 hts gL_refuses_L_act rfl rfl rfl (by decide +kernel) ⟨Nat.le_of_ble_eq_true rfl, Nat.le_of_ble_eq_true rfl⟩) (poS hG hz hn hP hD hS hA) rfl rfl hl.1 rfl (lv_room (Nat.le_of_ble_eq_true rfl)) dL_refuses_575 ⟨Nat.le_of_ble_eq_true rfl, Nat.le_of_ble_eq_true rfl⟩) hD hS hA (rfl) (wE.rf) (fun H locs hP hD hS => ?_)
  refine W.widen (k := 62) (n := 372) (Nat.le_of_ble_eq_true rfl) (Nat.le_of_ble_eq_true rfl) ?_
  refine lv_iload hx hb dL_refuses_578 (lv_at hl 13 rfl) ?_
  refine lv_icmp_ne (tgt := 619) hx hb dL_refuses_580 (by decide) (fun c9 => absurd (by decide) c9) (fun _ => ?_)
  refine lv_aload_n hx hb dL_refuses_583 rfl (lv_at hl 8 rfl) ?_
  refine lv_bipush (v := 11) hx hb dL_refuses_584 (by decide) ?_
  refine lv_iconst (v := 1) hx hb dL_refuses_586 (by decide) ?_
  refine lv_iload hx hb dL_refuses_587 (lv_at hl 3 rfl) ?_
  refine lv_iload_n hx hb dL_refuses_589 rfl (lv_at hl 10 rfl) ?_
  refine lv_iconst (v := 0) hx hb dL_refuses_590 (by decide) ?_
  refine mo_i (vx_runSW (As := [.ref (ad 0), .int 11, .int 1, .int 24, .int p3, .int 0]) (rest := []) ⟨hx, hb, hml, hown, hts⟩ (t_A11_1 l hlt D cyI cyZ ad zb zo zt zm zu zr zl zf 1 24 p3 0 _ _ rfl (q_gt_r (by decide))) (vx_cwSW 6 hts gL_refuses_L_act rfl rfl rfl (by decide +kernel) ⟨Nat.le_of_ble_eq_true rfl, Nat.le_of_ble_eq_true rfl⟩) (poS hG hz hn hP hD hS hA) rfl rfl hl.1 rfl (lv_room (Nat.le_of_ble_eq_true rfl)) dL_refuses_591 ⟨Nat.le_of_ble_eq_true rfl, Nat.le_of_ble_eq_true rfl⟩) hD hS hA (rfl) (wE.rf) (fun H locs hP hD hS => ?_)
  refine W.widen (k := 63) (n := 378) (Nat.le_of_ble_eq_true rfl) (Nat.le_of_ble_eq_true rfl) ?_
  refine lv_iload hx hb dL_refuses_594 (lv_at hl 13 rfl) ?_
  refine lv_icmp_ne (tgt := 619) hx hb dL_refuses_596 (by decide) (fun c9 => absurd (by decide) c9) (fun _ => ?_)
  refine lv_aload_n hx hb dL_refuses_599 rfl (lv_at hl 8 rfl) ?_
  refine lv_bipush (v := 11) hx hb dL_refuses_600 (by decide) ?_
  refine lv_iconst (v := 1) hx hb dL_refuses_602 (by decide) ?_
  refine lv_iload_n hx hb dL_refuses_603 rfl (lv_at hl 9 rfl) ?_
  refine lv_iload hx hb dL_refuses_604 (lv_at hl 4 rfl) ?_
  refine lv_iconst (v := 0) hx hb dL_refuses_606 (by decide) ?_
  refine mo_i (vx_runSW (As := [.ref (ad 0), .int 11, .int 1, .int p2, .int 8, .int 0]) (rest := []) ⟨hx, hb, hml, hown, hts⟩ (t_A11_1 l hlt D cyI cyZ ad zb zo zt zm zu zr zl zf 1 p2 8 0 _ _ rfl (q_gt_c hr9 (by decide))) (vx_cwSW 6 hts gL_refuses_L_act rfl rfl rfl (by decide +kernel) ⟨Nat.le_of_ble_eq_true rfl, Nat.le_of_ble_eq_true rfl⟩) (poS hG hz hn hP hD hS hA) rfl rfl hl.1 rfl (lv_room (Nat.le_of_ble_eq_true rfl)) dL_refuses_607 ⟨Nat.le_of_ble_eq_true rfl, Nat.le_of_ble_eq_true rfl⟩) hD hS hA (rfl) (wE.rf) (fun H locs hP hD hS => ?_)
  refine W.widen (k := 64) (n := 384) (Nat.le_of_ble_eq_true rfl) (Nat.le_of_ble_eq_true rfl) ?_
  refine lv_iload hx hb dL_refuses_610 (lv_at hl 13 rfl) ?_
  refine lv_icmp_ne (tgt := 619) hx hb dL_refuses_612 (by decide) (fun c9 => absurd (by decide) c9) (fun _ => ?_)
  refine lv_iconst (v := 1) hx hb dL_refuses_615 (by decide) ?_
  refine lv_goto (tgt := 620) hx hb dL_refuses_616 (by decide) ?_
  refine lv_istore (lv' := [(16, .int 1), (15, .int 3), (14, .int 100), (13, .int 24), (12, .int 8), (11, .int 4), (10, .int 3), (9, .int (-2147483648)), (0, .ref (ad 0)), (1, .int p2), (2, .int p3), (3, .int zl.1), (4, .int zl.2.1), (5, .int (-20001)), (6, .int (-20002)), (7, .int 2147483647), (8, .int 1)]) hx hb dL_refuses_620 hl (by decide) rfl (fun ls hl => ?_)
  refine lv_iload hx hb dL_refuses_622 (lv_at hl 0 rfl) ?_
  refine lv_if_eq (tgt := 695) hx hb dL_refuses_624 (by decide) (fun c9 => absurd c9 (by decide)) (fun _ => ?_)
  refine lv_aload_n hx hb dL_refuses_627 rfl (lv_at hl 8 rfl) ?_
  refine lv_bipush (v := 12) hx hb dL_refuses_628 (by decide) ?_
  refine lv_iload hx hb dL_refuses_630 (lv_at hl 1 rfl) ?_
  refine lv_iconst (v := 0) hx hb dL_refuses_632 (by decide) ?_
  refine lv_iconst (v := 0) hx hb dL_refuses_633 (by decide) ?_
  refine lv_iconst (v := 0) hx hb dL_refuses_634 (by decide) ?_
  refine mo_i (vx_runSW (As := [.ref (ad 0), .int 12, .int 3, .int 0, .int 0, .int 0]) (rest := []) ⟨hx, hb, hml, hown, hts⟩ (t_A12_1 l hlt D cyI cyZ ad zb zo zt zm zu zr zl zf 3 0 0 0 _ _ rfl (by decide)) (vx_cwSW 6 hts gL_refuses_L_act rfl rfl rfl (by decide +kernel) ⟨Nat.le_of_ble_eq_true rfl, Nat.le_of_ble_eq_true rfl⟩) (poS hG hz hn hP hD hS hA) rfl rfl hl.1 rfl (lv_room (Nat.le_of_ble_eq_true rfl)) dL_refuses_635 ⟨Nat.le_of_ble_eq_true rfl, Nat.le_of_ble_eq_true rfl⟩) hD hS hA (rfl) (wE.rf) (fun H locs hP hD hS => ?_)
  refine W.widen (k := 65) (n := 390) (Nat.le_of_ble_eq_true rfl) (Nat.le_of_ble_eq_true rfl) ?_
  refine lv_iload hx hb dL_refuses_638 (lv_at hl 13 rfl) ?_
  refine lv_icmp_ne (tgt := 695) hx hb dL_refuses_640 (by decide) (fun c9 => absurd (by decide) c9) (fun _ => ?_)
  refine lv_aload_n hx hb dL_refuses_643 rfl (lv_at hl 8 rfl) ?_
  refine lv_bipush (v := 14) hx hb dL_refuses_644 (by decide) ?_
  refine lv_iload hx hb dL_refuses_646 (lv_at hl 3 rfl) ?_
  refine lv_iconst (v := 0) hx hb dL_refuses_648 (by decide) ?_
  refine lv_iconst (v := 0) hx hb dL_refuses_649 (by decide) ?_
  refine lv_iconst (v := 0) hx hb dL_refuses_650 (by decide) ?_
  refine mo_i (vx_runSW (As := [.ref (ad 0), .int 14, .int 24, .int 0, .int 0, .int 0]) (rest := []) ⟨hx, hb, hml, hown, hts⟩ (t_A14_1 l hlt D cyI cyZ ad zb zo zt zm zu zr zl zf 24 0 0 0 _ _ rfl (q_by_k (by decide))) (vx_cwSW 6 hts gL_refuses_L_act rfl rfl rfl (by decide +kernel) ⟨Nat.le_of_ble_eq_true rfl, Nat.le_of_ble_eq_true rfl⟩) (poS hG hz hn hP hD hS hA) rfl rfl hl.1 rfl (lv_room (Nat.le_of_ble_eq_true rfl)) dL_refuses_651 ⟨Nat.le_of_ble_eq_true rfl, Nat.le_of_ble_eq_true rfl⟩) hD hS hA (rfl) (wE.rf) (fun H locs hP hD hS => ?_)
  refine W.widen (k := 66) (n := 396) (Nat.le_of_ble_eq_true rfl) (Nat.le_of_ble_eq_true rfl) ?_
  refine lv_iload hx hb dL_refuses_654 (lv_at hl 13 rfl) ?_
  refine lv_icmp_ne (tgt := 695) hx hb dL_refuses_656 (by decide) (fun c9 => absurd (by decide) c9) (fun _ => ?_)
  refine lv_aload_n hx hb dL_refuses_659 rfl (lv_at hl 8 rfl) ?_
  refine lv_bipush (v := 14) hx hb dL_refuses_660 (by decide) ?_
  refine lv_iconst (v := 0) hx hb dL_refuses_662 (by decide) ?_
  refine lv_iload hx hb dL_refuses_663 (lv_at hl 4 rfl) ?_
  refine lv_iconst (v := 0) hx hb dL_refuses_665 (by decide) ?_
  refine lv_iconst (v := 0) hx hb dL_refuses_666 (by decide) ?_
  refine mo_i (vx_runSW (As := [.ref (ad 0), .int 14, .int 0, .int 8, .int 0, .int 0]) (rest := []) ⟨hx, hb, hml, hown, hts⟩ (t_A14_1 l hlt D cyI cyZ ad zb zo zt zm zu zr zl zf 0 8 0 0 _ _ rfl (q_by_c (by decide))) (vx_cwSW 6 hts gL_refuses_L_act rfl rfl rfl (by decide +kernel) ⟨Nat.le_of_ble_eq_true rfl, Nat.le_of_ble_eq_true rfl⟩) (poS hG hz hn hP hD hS hA) rfl rfl hl.1 rfl (lv_room (Nat.le_of_ble_eq_true rfl)) dL_refuses_667 ⟨Nat.le_of_ble_eq_true rfl, Nat.le_of_ble_eq_true rfl⟩) hD hS hA (rfl) (wE.rf) (fun H locs hP hD hS => ?_)
  refine W.widen (k := 67) (n := 402) (Nat.le_of_ble_eq_true rfl) (Nat.le_of_ble_eq_true rfl) ?_
  refine lv_iload hx hb dL_refuses_670 (lv_at hl 13 rfl) ?_
  refine lv_icmp_ne (tgt := 695) hx hb dL_refuses_672 (by decide) (fun c9 => absurd (by decide) c9) (fun _ => ?_)
  refine lv_aload_n hx hb dL_refuses_675 rfl (lv_at hl 8 rfl) ?_
  refine lv_bipush (v := 18) hx hb dL_refuses_676 (by decide) ?_
  refine lv_iconst (v := 0) hx hb dL_refuses_678 (by decide) ?_
  refine lv_iload hx hb dL_refuses_679 (lv_at hl 1 rfl) ?_
  refine lv_iconst (v := 0) hx hb dL_refuses_681 (by decide) ?_
  refine lv_iconst (v := 0) hx hb dL_refuses_682 (by decide) ?_
  refine mo_i (vx_runSW (As := [.ref (ad 0), .int 18, .int 0, .int 3, .int 0, .int 0]) (rest := []) ⟨hx, hb, hml, hown, hts⟩ (t_A18_1 l hlt D cyI cyZ ad zb zo zt zm zu zr zl zf 0 3 0 0 _ _ rfl (q_se_s (by decide))) (vx_cwSW 6 hts gL_refuses_L_act rfl rfl rfl (by decide +kernel) ⟨Nat.le_of_ble_eq_true rfl, Nat.le_of_ble_eq_true rfl⟩) (poS hG hz hn hP hD hS hA) rfl rfl hl.1 rfl (lv_room (Nat.le_of_ble_eq_true rfl)) dL_refuses_683 ⟨Nat.le_of_ble_eq_true rfl, Nat.le_of_ble_eq_true rfl⟩) hD hS hA (rfl) (wE.rf) (fun H locs hP hD hS => ?_)
  refine W.widen (k := 68) (n := 408) (Nat.le_of_ble_eq_true rfl) (Nat.le_of_ble_eq_true rfl) ?_
  refine lv_iload hx hb dL_refuses_686 (lv_at hl 13 rfl) ?_
  refine lv_icmp_ne (tgt := 695) hx hb dL_refuses_688 (by decide) (fun c9 => absurd (by decide) c9) (fun _ => ?_)
  refine lv_iconst (v := 1) hx hb dL_refuses_691 (by decide) ?_
  refine lv_goto (tgt := 696) hx hb dL_refuses_692 (by decide) ?_
  refine lv_istore (lv' := [(16, .int 1), (15, .int 3), (14, .int 100), (13, .int 24), (12, .int 8), (11, .int 4), (10, .int 3), (9, .int (-2147483648)), (0, .ref (ad 0)), (1, .int p2), (2, .int p3), (3, .int zl.1), (4, .int zl.2.1), (5, .int (-20001)), (6, .int (-20002)), (7, .int 2147483647), (8, .int 1)]) hx hb dL_refuses_696 hl (by decide) rfl (fun ls hl => ?_)
  refine lv_bipush (v := 15) hx hb dL_refuses_698 (by decide) ?_
  refine lv_istore (lv' := [(17, .int 15), (16, .int 1), (15, .int 3), (14, .int 100), (13, .int 24), (12, .int 8), (11, .int 4), (10, .int 3), (9, .int (-2147483648)), (0, .ref (ad 0)), (1, .int p2), (2, .int p3), (3, .int zl.1), (4, .int zl.2.1), (5, .int (-20001)), (6, .int (-20002)), (7, .int 2147483647), (8, .int 1)]) hx hb dL_refuses_700 hl (by decide) rfl (fun ls hl => ?_)
  refine lv_iload hx hb dL_refuses_702 (lv_at hl 0 rfl) ?_
  refine lv_bipush (v := 19) hx hb dL_refuses_704 (by decide) ?_
  refine lv_icmp_ge (tgt := 753) hx hb dL_refuses_706 (by decide) (fun c9 => absurd c9 (by decide)) (fun _ => ?_)
  refine lv_iload hx hb dL_refuses_709 (lv_at hl 1 rfl) ?_
  refine lv_if_eq (tgt := 744) hx hb dL_refuses_711 (by decide) (fun c9 => absurd c9 (by decide)) (fun _ => ?_)
  refine lv_aload_n hx hb dL_refuses_714 rfl (lv_at hl 9 rfl) ?_
  refine lv_iload hx hb dL_refuses_715 (lv_at hl 0 rfl) ?_
  refine lv_iload hx hb dL_refuses_717 (lv_at hl 17 rfl) ?_
  refine lv_iconst (v := 1) hx hb dL_refuses_719 (by decide) ?_
  refine lv_icmp_ne (tgt := 727) hx hb dL_refuses_720 (by decide) (fun c9 => absurd (by decide) c9) (fun _ => ?_)
  refine lv_iload_n hx hb dL_refuses_723 rfl (lv_at hl 12 rfl) ?_
  refine lv_goto (tgt := 729) hx hb dL_refuses_724 (by decide) ?_
  refine lv_iconst (v := 1) hx hb dL_refuses_729 (by decide) ?_
  refine lv_iconst (v := 0) hx hb dL_refuses_730 (by decide) ?_
  refine lv_iconst (v := 0) hx hb dL_refuses_731 (by decide) ?_
  refine mo_i (vx_runSW (As := [.ref (ad 0), .int 15, .int zl.1, .int 1, .int 0, .int 0]) (rest := []) ⟨hx, hb, hml, hown, hts⟩ (t_A15_1 l hlt D cyI cyZ ad zb zo zt zm zu zr zl zf zl.1 1 0 0 _ _ rfl (q_ki (Or.inr (Int32.le_refl _)))) (vx_cwSW 6 hts gL_refuses_L_act rfl rfl rfl (by decide +kernel) ⟨Nat.le_of_ble_eq_true rfl, Nat.le_of_ble_eq_true rfl⟩) (poS hG hz hn hP hD hS hA) rfl rfl hl.1 rfl (lv_room (Nat.le_of_ble_eq_true rfl)) dL_refuses_732 ⟨Nat.le_of_ble_eq_true rfl, Nat.le_of_ble_eq_true rfl⟩) hD hS hA (rfl) (wE.rf) (fun H locs hP hD hS => ?_)
  refine W.widen (k := 69) (n := 414) (Nat.le_of_ble_eq_true rfl) (Nat.le_of_ble_eq_true rfl) ?_
  refine lv_iload hx hb dL_refuses_735 (lv_at hl 14 rfl) ?_
  refine lv_icmp_ne (tgt := 744) hx hb dL_refuses_737 (by decide) (fun c9 => absurd (by decide) c9) (fun _ => ?_)
  refine lv_iconst (v := 1) hx hb dL_refuses_740 (by decide) ?_
  refine lv_goto (tgt := 745) hx hb dL_refuses_741 (by decide) ?_
  refine lv_istore (lv' := [(16, .int 1), (17, .int 15), (15, .int 3), (14, .int 100), (13, .int 24), (12, .int 8), (11, .int 4), (10, .int 3), (9, .int (-2147483648)), (0, .ref (ad 0)), (1, .int p2), (2, .int p3), (3, .int zl.1), (4, .int zl.2.1), (5, .int (-20001)), (6, .int (-20002)), (7, .int 2147483647), (8, .int 1)]) hx hb dL_refuses_745 hl (by decide) rfl (fun ls hl => ?_)
  refine lv_iinc (v := 16) (lv' := [(17, .int 16), (16, .int 1), (15, .int 3), (14, .int 100), (13, .int 24), (12, .int 8), (11, .int 4), (10, .int 3), (9, .int (-2147483648)), (0, .ref (ad 0)), (1, .int p2), (2, .int p3), (3, .int zl.1), (4, .int zl.2.1), (5, .int (-20001)), (6, .int (-20002)), (7, .int 2147483647), (8, .int 1)]) hx hb dL_refuses_747 hl (k := 1) rfl (by decide) (by decide) rfl (fun ls hl => ?_)
  refine lv_goto (tgt := 702) hx hb dL_refuses_750 (by decide) ?_
  refine lv_iload hx hb dL_refuses_702 (lv_at hl 0 rfl) ?_
  refine lv_bipush (v := 19) hx hb dL_refuses_704 (by decide) ?_
  refine lv_icmp_ge (tgt := 753) hx hb dL_refuses_706 (by decide) (fun c9 => absurd c9 (by decide)) (fun _ => ?_)
  refine lv_iload hx hb dL_refuses_709 (lv_at hl 1 rfl) ?_
  refine lv_if_eq (tgt := 744) hx hb dL_refuses_711 (by decide) (fun c9 => absurd c9 (by decide)) (fun _ => ?_)
  refine lv_aload_n hx hb dL_refuses_714 rfl (lv_at hl 9 rfl) ?_
  refine lv_iload hx hb dL_refuses_715 (lv_at hl 0 rfl) ?_
  refine lv_iload hx hb dL_refuses_717 (lv_at hl 17 rfl) ?_
  refine lv_iconst (v := 1) hx hb dL_refuses_719 (by decide) ?_
  refine lv_icmp_ne (tgt := 727) hx hb dL_refuses_720 (by decide) (fun c9 => absurd (by decide) c9) (fun _ => ?_)
  refine lv_iload_n hx hb dL_refuses_723 rfl (lv_at hl 12 rfl) ?_
  refine lv_goto (tgt := 729) hx hb dL_refuses_724 (by decide) ?_
  refine lv_iconst (v := 1) hx hb dL_refuses_729 (by decide) ?_
  refine lv_iconst (v := 0) hx hb dL_refuses_730 (by decide) ?_
  refine lv_iconst (v := 0) hx hb dL_refuses_731 (by decide) ?_
  refine mo_i (vx_runSW (As := [.ref (ad 0), .int 16, .int zl.1, .int 1, .int 0, .int 0]) (rest := []) ⟨hx, hb, hml, hown, hts⟩ (t_A16_1 l hlt D cyI cyZ ad zb zo zt zm zu zr zl zf zl.1 1 0 0 _ _ rfl (q_ke (Or.inr (Int32.le_refl _)))) (vx_cwSW 6 hts gL_refuses_L_act rfl rfl rfl (by decide +kernel) ⟨Nat.le_of_ble_eq_true rfl, Nat.le_of_ble_eq_true rfl⟩) (poS hG hz hn hP hD hS hA) rfl rfl hl.1 rfl (lv_room (Nat.le_of_ble_eq_true rfl)) dL_refuses_732 ⟨Nat.le_of_ble_eq_true rfl, Nat.le_of_ble_eq_true rfl⟩) hD hS hA (rfl) (wE.rf) (fun H locs hP hD hS => ?_)
  refine W.widen (k := 70) (n := 420) (Nat.le_of_ble_eq_true rfl) (Nat.le_of_ble_eq_true rfl) ?_
  refine lv_iload hx hb dL_refuses_735 (lv_at hl 14 rfl) ?_
  refine lv_icmp_ne (tgt := 744) hx hb dL_refuses_737 (by decide) (fun c9 => absurd (by decide) c9) (fun _ => ?_)
  refine lv_iconst (v := 1) hx hb dL_refuses_740 (by decide) ?_
  refine lv_goto (tgt := 745) hx hb dL_refuses_741 (by decide) ?_
  refine lv_istore (lv' := [(16, .int 1), (17, .int 16), (15, .int 3), (14, .int 100), (13, .int 24), (12, .int 8), (11, .int 4), (10, .int 3), (9, .int (-2147483648)), (0, .ref (ad 0)), (1, .int p2), (2, .int p3), (3, .int zl.1), (4, .int zl.2.1), (5, .int (-20001)), (6, .int (-20002)), (7, .int 2147483647), (8, .int 1)]) hx hb dL_refuses_745 hl (by decide) rfl (fun ls hl => ?_)
  refine lv_iinc (v := 17) (lv' := [(17, .int 17), (16, .int 1), (15, .int 3), (14, .int 100), (13, .int 24), (12, .int 8), (11, .int 4), (10, .int 3), (9, .int (-2147483648)), (0, .ref (ad 0)), (1, .int p2), (2, .int p3), (3, .int zl.1), (4, .int zl.2.1), (5, .int (-20001)), (6, .int (-20002)), (7, .int 2147483647), (8, .int 1)]) hx hb dL_refuses_747 hl (k := 1) rfl (by decide) (by decide) rfl (fun ls hl => ?_)
  refine lv_goto (tgt := 702) hx hb dL_refuses_750 (by decide) ?_
  refine lv_iload hx hb dL_refuses_702 (lv_at hl 0 rfl) ?_
  refine lv_bipush (v := 19) hx hb dL_refuses_704 (by decide) ?_
  refine lv_icmp_ge (tgt := 753) hx hb dL_refuses_706 (by decide) (fun c9 => absurd c9 (by decide)) (fun _ => ?_)
  refine lv_iload hx hb dL_refuses_709 (lv_at hl 1 rfl) ?_
  refine lv_if_eq (tgt := 744) hx hb dL_refuses_711 (by decide) (fun c9 => absurd c9 (by decide)) (fun _ => ?_)
  refine lv_aload_n hx hb dL_refuses_714 rfl (lv_at hl 9 rfl) ?_
  refine lv_iload hx hb dL_refuses_715 (lv_at hl 0 rfl) ?_
  refine lv_iload hx hb dL_refuses_717 (lv_at hl 17 rfl) ?_
  refine lv_iconst (v := 1) hx hb dL_refuses_719 (by decide) ?_
  refine lv_icmp_ne (tgt := 727) hx hb dL_refuses_720 (by decide) (fun c9 => absurd (by decide) c9) (fun _ => ?_)
  refine lv_iload_n hx hb dL_refuses_723 rfl (lv_at hl 12 rfl) ?_
  refine lv_goto (tgt := 729) hx hb dL_refuses_724 (by decide) ?_
  refine lv_iconst (v := 1) hx hb dL_refuses_729 (by decide) ?_
  refine lv_iconst (v := 0) hx hb dL_refuses_730 (by decide) ?_
  refine lv_iconst (v := 0) hx hb dL_refuses_731 (by decide) ?_
  refine mo_i (vx_runSW (As := [.ref (ad 0), .int 17, .int zl.1, .int 1, .int 0, .int 0]) (rest := []) ⟨hx, hb, hml, hown, hts⟩ (t_A17_1 l hlt D cyI cyZ ad zb zo zt zm zu zr zl zf zl.1 1 0 0 _ _ rfl (q_co (Or.inr (Int32.le_refl _)))) (vx_cwSW 6 hts gL_refuses_L_act rfl rfl rfl (by decide +kernel) ⟨Nat.le_of_ble_eq_true rfl, Nat.le_of_ble_eq_true rfl⟩) (poS hG hz hn hP hD hS hA) rfl rfl hl.1 rfl (lv_room (Nat.le_of_ble_eq_true rfl)) dL_refuses_732 ⟨Nat.le_of_ble_eq_true rfl, Nat.le_of_ble_eq_true rfl⟩) hD hS hA (rfl) (wE.rf) (fun H locs hP hD hS => ?_)
  refine W.widen (k := 71) (n := 426) (Nat.le_of_ble_eq_true rfl) (Nat.le_of_ble_eq_true rfl) ?_
  refine lv_iload hx hb dL_refuses_735 (lv_at hl 14 rfl) ?_
  refine lv_icmp_ne (tgt := 744) hx hb dL_refuses_737 (by decide) (fun c9 => absurd (by decide) c9) (fun _ => ?_)
  refine lv_iconst (v := 1) hx hb dL_refuses_740 (by decide) ?_
  refine lv_goto (tgt := 745) hx hb dL_refuses_741 (by decide) ?_
  refine lv_istore (lv' := [(16, .int 1), (17, .int 17), (15, .int 3), (14, .int 100), (13, .int 24), (12, .int 8), (11, .int 4), (10, .int 3), (9, .int (-2147483648)), (0, .ref (ad 0)), (1, .int p2), (2, .int p3), (3, .int zl.1), (4, .int zl.2.1), (5, .int (-20001)), (6, .int (-20002)), (7, .int 2147483647), (8, .int 1)]) hx hb dL_refuses_745 hl (by decide) rfl (fun ls hl => ?_)
  refine lv_iinc (v := 18) (lv' := [(17, .int 18), (16, .int 1), (15, .int 3), (14, .int 100), (13, .int 24), (12, .int 8), (11, .int 4), (10, .int 3), (9, .int (-2147483648)), (0, .ref (ad 0)), (1, .int p2), (2, .int p3), (3, .int zl.1), (4, .int zl.2.1), (5, .int (-20001)), (6, .int (-20002)), (7, .int 2147483647), (8, .int 1)]) hx hb dL_refuses_747 hl (k := 1) rfl (by decide) (by decide) rfl (fun ls hl => ?_)
  refine lv_goto (tgt := 702) hx hb dL_refuses_750 (by decide) ?_
  refine lv_iload hx hb dL_refuses_702 (lv_at hl 0 rfl) ?_
  refine lv_bipush (v := 19) hx hb dL_refuses_704 (by decide) ?_
  refine lv_icmp_ge (tgt := 753) hx hb dL_refuses_706 (by decide) (fun c9 => absurd c9 (by decide)) (fun _ => ?_)
  refine lv_iload hx hb dL_refuses_709 (lv_at hl 1 rfl) ?_
  refine lv_if_eq (tgt := 744) hx hb dL_refuses_711 (by decide) (fun c9 => absurd c9 (by decide)) (fun _ => ?_)
  refine lv_aload_n hx hb dL_refuses_714 rfl (lv_at hl 9 rfl) ?_
  refine lv_iload hx hb dL_refuses_715 (lv_at hl 0 rfl) ?_
  refine lv_iload hx hb dL_refuses_717 (lv_at hl 17 rfl) ?_
  refine lv_iconst (v := 1) hx hb dL_refuses_719 (by decide) ?_
  refine lv_icmp_ne (tgt := 727) hx hb dL_refuses_720 (by decide) (fun c9 => absurd (by decide) c9) (fun _ => ?_)
  refine lv_iload_n hx hb dL_refuses_723 rfl (lv_at hl 12 rfl) ?_
  refine lv_goto (tgt := 729) hx hb dL_refuses_724 (by decide) ?_
  refine lv_iconst (v := 1) hx hb dL_refuses_729 (by decide) ?_
  refine lv_iconst (v := 0) hx hb dL_refuses_730 (by decide) ?_
  refine lv_iconst (v := 0) hx hb dL_refuses_731 (by decide) ?_
  refine mo_i (vx_runSW (As := [.ref (ad 0), .int 18, .int zl.1, .int 1, .int 0, .int 0]) (rest := []) ⟨hx, hb, hml, hown, hts⟩ (t_A18_1 l hlt D cyI cyZ ad zb zo zt zm zu zr zl zf zl.1 1 0 0 _ _ rfl (q_se (Or.inr (Int32.le_refl _)))) (vx_cwSW 6 hts gL_refuses_L_act rfl rfl rfl (by decide +kernel) ⟨Nat.le_of_ble_eq_true rfl, Nat.le_of_ble_eq_true rfl⟩) (poS hG hz hn hP hD hS hA) rfl rfl hl.1 rfl (lv_room (Nat.le_of_ble_eq_true rfl)) dL_refuses_732 ⟨Nat.le_of_ble_eq_true rfl, Nat.le_of_ble_eq_true rfl⟩) hD hS hA (rfl) (wE.rf) (fun H locs hP hD hS => ?_)
  refine W.widen (k := 72) (n := 432) (Nat.le_of_ble_eq_true rfl) (Nat.le_of_ble_eq_true rfl) ?_
  refine lv_iload hx hb dL_refuses_735 (lv_at hl 14 rfl) ?_
  refine lv_icmp_ne (tgt := 744) hx hb dL_refuses_737 (by decide) (fun c9 => absurd (by decide) c9) (fun _ => ?_)
  refine lv_iconst (v := 1) hx hb dL_refuses_740 (by decide) ?_
  refine lv_goto (tgt := 745) hx hb dL_refuses_741 (by decide) ?_
  refine lv_istore (lv' := [(16, .int 1), (17, .int 18), (15, .int 3), (14, .int 100), (13, .int 24), (12, .int 8), (11, .int 4), (10, .int 3), (9, .int (-2147483648)), (0, .ref (ad 0)), (1, .int p2), (2, .int p3), (3, .int zl.1), (4, .int zl.2.1), (5, .int (-20001)), (6, .int (-20002)), (7, .int 2147483647), (8, .int 1)]) hx hb dL_refuses_745 hl (by decide) rfl (fun ls hl => ?_)
  refine lv_iinc (v := 19) (lv' := [(17, .int 19), (16, .int 1), (15, .int 3), (14, .int 100), (13, .int 24), (12, .int 8), (11, .int 4), (10, .int 3), (9, .int (-2147483648)), (0, .ref (ad 0)), (1, .int p2), (2, .int p3), (3, .int zl.1), (4, .int zl.2.1), (5, .int (-20001)), (6, .int (-20002)), (7, .int 2147483647), (8, .int 1)]) hx hb dL_refuses_747 hl (k := 1) rfl (by decide) (by decide) rfl (fun ls hl => ?_)
  refine lv_goto (tgt := 702) hx hb dL_refuses_750 (by decide) ?_
  refine lv_iload hx hb dL_refuses_702 (lv_at hl 0 rfl) ?_
  refine lv_bipush (v := 19) hx hb dL_refuses_704 (by decide) ?_
  refine lv_icmp_ge (tgt := 753) hx hb dL_refuses_706 (by decide) (fun _ => ?_) (fun c9 => absurd (by decide) c9)
  refine lv_iload hx hb dL_refuses_753 (lv_at hl 1 rfl) ?_
  refine lv_if_ne (tgt := 760) hx hb dL_refuses_755 (by decide) (fun _ => ?_) (fun c9 => absurd c9 (by decide))
  refine lv_iinc (v := 2) (lv' := [(8, .int 2), (17, .int 19), (16, .int 1), (15, .int 3), (14, .int 100), (13, .int 24), (12, .int 8), (11, .int 4), (10, .int 3), (9, .int (-2147483648)), (0, .ref (ad 0)), (1, .int p2), (2, .int p3), (3, .int zl.1), (4, .int zl.2.1), (5, .int (-20001)), (6, .int (-20002)), (7, .int 2147483647)]) hx hb dL_refuses_760 hl (k := 17) rfl (by decide) (by decide) rfl (fun ls hl => ?_)
  refine lv_goto (tgt := 28) hx hb dL_refuses_763 (by decide) ?_
  exact KK H locs ls hP hD hS (lv_sub hl [10, 11, 12, 13, 14, 15, 16, 17, 0] rfl)
set_option maxHeartbeats 8000000 in
set_option maxRecDepth 100000 in
theorem rf_2 {p : Program} {l : Launch} {e : Env} {s : State} {m : MethodId} {args : Array Value} {below : List Frame} {meth : Method} {c : Code} {Q : State → Prop} (hlt : l.stackTraces = false) {D : va_G} {cyI cyZ : ClassId} {ad : Nat → Nat} {zb : Tr} {zo : Tr} {zt : Tr} {zm : Tr} {zu : Nat → Int32} {zr : Nat → Int32} {zl : Lr} {zf : Int32} {p2 p3 : Int32} {A : Nat → Prop} (hr9 : ¬ f_X1_hasRow zo p2 = 0) (hc9 : ¬ f_X1_hasColumn zo p3 = 0) (hx : p.tables.exec = Jvm.exec) (hb : c.code = cL_refuses) (hml : c.maxLocals = 18) (hown : s.vm.findClass RL = some m.cls) (hts : ∀ w ∈ wsL_refuses, w.before args s = true) (hG : gP D cyI cyZ s) (hz : zqA A s s.heap) (hn : zn s) (hA : ∀ q : Nat, s.heap.size ≤ q → A q)
    (KK : ∀ (H : Heap) (locs : List Loc) (ls : Array Slot), va_P D vwCl (wZ cyI cyZ ad zb zo zt zm zu zr zl zf) H → va_D A (wZ cyI cyZ ad zb zo zt zm zu zr zl zf) → va_S A s.heap H locs → lv_has ls 18 [(0, .ref (ad 0)), (1, .int p2), (2, .int p3), (3, .int zl.1), (4, .int zl.2.1), (5, .int (-20001)), (6, .int (-20002)), (7, .int 2147483647), (8, .int 3)] → W p l e (headSpec wsL_refuses ({ frames := 10, cells := 144, slots := 864, locals := 194 } : Room)).room s m args below meth c H locs 108 648 Q (F0 m 28 ls [])) : ∀ (H : Heap) (locs : List Loc) (ls : Array Slot), va_P D vwCl (wZ cyI cyZ ad zb zo zt zm zu zr zl zf) H → va_D A (wZ cyI cyZ ad zb zo zt zm zu zr zl zf) → va_S A s.heap H locs → lv_has ls 18 [(0, .ref (ad 0)), (1, .int p2), (2, .int p3), (3, .int zl.1), (4, .int zl.2.1), (5, .int (-20001)), (6, .int (-20002)), (7, .int 2147483647), (8, .int 2)] → W p l e (headSpec wsL_refuses ({ frames := 10, cells := 144, slots := 864, locals := 194 } : Room)).room s m args below meth c H locs 72 432 Q (F0 m 28 ls []) := by
  intro H locs ls hP hD hS hl
  refine lv_iload hx hb dL_refuses_28 (lv_at hl 8 rfl) ?_
  refine lv_iconst (v := 4) hx hb dL_refuses_30 (by decide) ?_
  refine lv_icmp_ge (tgt := 766) hx hb dL_refuses_31 (by decide) (fun c9 => absurd c9 (by decide)) (fun _ => ?_)
  refine lv_iload hx hb dL_refuses_34 (lv_at hl 8 rfl) ?_
  refine lv_if_ne (tgt := 43) hx hb dL_refuses_36 (by decide) (fun _ => ?_) (fun c9 => absurd c9 (by decide))
  refine lv_iload hx hb dL_refuses_43 (lv_at hl 8 rfl) ?_
  refine lv_iconst (v := 2) hx hb dL_refuses_45 (by decide) ?_
  refine lv_icmp_ne (tgt := 54) hx hb dL_refuses_46 (by decide) (fun c9 => absurd (by decide) c9) (fun _ => ?_)
  refine lv_iload hx hb dL_refuses_49 (lv_at hl 7 rfl) ?_
  refine lv_goto (tgt := 59) hx hb dL_refuses_51 (by decide) ?_
  refine lv_istore (lv' := [(9, .int 2147483647), (0, .ref (ad 0)), (1, .int p2), (2, .int p3), (3, .int zl.1), (4, .int zl.2.1), (5, .int (-20001)), (6, .int (-20002)), (7, .int 2147483647), (8, .int 2)]) hx hb dL_refuses_59 hl (by decide) rfl (fun ls hl => ?_)
  refine lv_iload hx hb dL_refuses_61 (lv_at hl 9 rfl) ?_
  refine lv_iconst (v := 1) hx hb dL_refuses_63 (by decide) ?_
  refine lv_icmp_ne (tgt := 71) hx hb dL_refuses_64 (by decide) (fun _ => ?_) (fun c9 => absurd c9 (by decide))
  refine lv_iload hx hb dL_refuses_71 (lv_at hl 0 rfl) ?_
  refine lv_istore (lv' := [(10, .int 2147483647), (9, .int 2147483647), (0, .ref (ad 0)), (1, .int p2), (2, .int p3), (3, .int zl.1), (4, .int zl.2.1), (5, .int (-20001)), (6, .int (-20002)), (7, .int 2147483647), (8, .int 2)]) hx hb dL_refuses_73 hl (by decide) rfl (fun ls hl => ?_)
  refine lv_iload hx hb dL_refuses_75 (lv_at hl 10 rfl) ?_
  refine lv_iconst (v := 1) hx hb dL_refuses_77 (by decide) ?_
  refine lv_icmp_ne (tgt := 85) hx hb dL_refuses_78 (by decide) (fun _ => ?_) (fun c9 => absurd c9 (by decide))
  refine lv_iload hx hb dL_refuses_85 (lv_at hl 1 rfl) ?_
  refine lv_istore (lv' := [(11, .int 2147483647), (10, .int 2147483647), (9, .int 2147483647), (0, .ref (ad 0)), (1, .int p2), (2, .int p3), (3, .int zl.1), (4, .int zl.2.1), (5, .int (-20001)), (6, .int (-20002)), (7, .int 2147483647), (8, .int 2)]) hx hb dL_refuses_87 hl (by decide) rfl (fun ls hl => ?_)
  refine lv_iload hx hb dL_refuses_89 (lv_at hl 11 rfl) ?_
  refine lv_iconst (v := 1) hx hb dL_refuses_91 (by decide) ?_
  refine lv_icmp_ne (tgt := 100) hx hb dL_refuses_92 (by decide) (fun _ => ?_) (fun c9 => absurd c9 (by decide))
  refine lv_iload hx hb dL_refuses_100 (lv_at hl 2 rfl) ?_
  refine lv_istore (lv' := [(12, .int 2147483647), (11, .int 2147483647), (10, .int 2147483647), (9, .int 2147483647), (0, .ref (ad 0)), (1, .int p2), (2, .int p3), (3, .int zl.1), (4, .int zl.2.1), (5, .int (-20001)), (6, .int (-20002)), (7, .int 2147483647), (8, .int 2)]) hx hb dL_refuses_102 hl (by decide) rfl (fun ls hl => ?_)
  refine lv_iload hx hb dL_refuses_104 (lv_at hl 12 rfl) ?_
  refine lv_iconst (v := 1) hx hb dL_refuses_106 (by decide) ?_
  refine lv_icmp_ne (tgt := 115) hx hb dL_refuses_107 (by decide) (fun _ => ?_) (fun c9 => absurd c9 (by decide))
  refine lv_iload hx hb dL_refuses_115 (lv_at hl 3 rfl) ?_
  refine lv_istore (lv' := [(13, .int 2147483647), (12, .int 2147483647), (11, .int 2147483647), (10, .int 2147483647), (9, .int 2147483647), (0, .ref (ad 0)), (1, .int p2), (2, .int p3), (3, .int zl.1), (4, .int zl.2.1), (5, .int (-20001)), (6, .int (-20002)), (7, .int 2147483647), (8, .int 2)]) hx hb dL_refuses_117 hl (by decide) rfl (fun ls hl => ?_)
  refine lv_iload hx hb dL_refuses_119 (lv_at hl 13 rfl) ?_
  refine lv_iconst (v := 1) hx hb dL_refuses_121 (by decide) ?_
  refine lv_icmp_ne (tgt := 130) hx hb dL_refuses_122 (by decide) (fun _ => ?_) (fun c9 => absurd c9 (by decide))
  refine lv_iload hx hb dL_refuses_130 (lv_at hl 4 rfl) ?_
  refine lv_istore (lv' := [(14, .int 2147483647), (13, .int 2147483647), (12, .int 2147483647), (11, .int 2147483647), (10, .int 2147483647), (9, .int 2147483647), (0, .ref (ad 0)), (1, .int p2), (2, .int p3), (3, .int zl.1), (4, .int zl.2.1), (5, .int (-20001)), (6, .int (-20002)), (7, .int 2147483647), (8, .int 2)]) hx hb dL_refuses_132 hl (by decide) rfl (fun ls hl => ?_)
  refine lv_iload hx hb dL_refuses_134 (lv_at hl 14 rfl) ?_
  refine lv_if_ne (tgt := 143) hx hb dL_refuses_136 (by decide) (fun _ => ?_) (fun c9 => absurd c9 (by decide))
  refine lv_iload hx hb dL_refuses_143 (lv_at hl 4 rfl) ?_
  refine lv_istore (lv' := [(15, .int 2147483647), (14, .int 2147483647), (13, .int 2147483647), (12, .int 2147483647), (11, .int 2147483647), (10, .int 2147483647), (9, .int 2147483647), (0, .ref (ad 0)), (1, .int p2), (2, .int p3), (3, .int zl.1), (4, .int zl.2.1), (5, .int (-20001)), (6, .int (-20002)), (7, .int 2147483647), (8, .int 2)]) hx hb dL_refuses_145 hl (by decide) rfl (fun ls hl => ?_)
  refine lv_aload_n hx hb dL_refuses_147 rfl (lv_at hl 7 rfl) ?_
  refine lv_iconst (v := 0) hx hb dL_refuses_148 (by decide) ?_
  refine lv_iload hx hb dL_refuses_149 (lv_at hl 5 rfl) ?_
  refine lv_iconst (v := 0) hx hb dL_refuses_151 (by decide) ?_
  refine lv_iconst (v := 0) hx hb dL_refuses_152 (by decide) ?_
  refine lv_iconst (v := 0) hx hb dL_refuses_153 (by decide) ?_
  refine mo_i (vx_runSW (As := [.ref (ad 0), .int 0, .int 2147483647, .int 0, .int 0, .int 0]) (rest := []) ⟨hx, hb, hml, hown, hts⟩ (t_A0_1 l hlt D cyI cyZ ad zb zo zt zm zu zr zl zf 2147483647 0 0 0 _ _ rfl (q_ac_t (by decide))) (vx_cwSW 6 hts gL_refuses_L_act rfl rfl rfl (by decide +kernel) ⟨Nat.le_of_ble_eq_true rfl, Nat.le_of_ble_eq_true rfl⟩) (poS hG hz hn hP hD hS hA) rfl rfl hl.1 rfl (lv_room (Nat.le_of_ble_eq_true rfl)) dL_refuses_154 ⟨Nat.le_of_ble_eq_true rfl, Nat.le_of_ble_eq_true rfl⟩) hD hS hA (rfl) (wE.rf) (fun H locs hP hD hS => ?_)
  refine W.widen (k := 73) (n := 438) (Nat.le_of_ble_eq_true rfl) (Nat.le_of_ble_eq_true rfl) ?_
  refine lv_iload hx hb dL_refuses_157 (lv_at hl 12 rfl) ?_
  refine lv_icmp_ne (tgt := 361) hx hb dL_refuses_159 (by decide) (fun c9 => absurd (by decide) c9) (fun _ => ?_)
  refine lv_aload_n hx hb dL_refuses_162 rfl (lv_at hl 7 rfl) ?_
  refine lv_iconst (v := 0) hx hb dL_refuses_163 (by decide) ?_
  refine lv_iconst (v := 0) hx hb dL_refuses_164 (by decide) ?_
  refine lv_iload hx hb dL_refuses_165 (lv_at hl 3 rfl) ?_
  refine lv_iconst (v := (-1)) hx hb dL_refuses_167 (by decide) ?_
  refine lv_iconst (v := 0) hx hb dL_refuses_168 (by decide) ?_
  refine mo_i (vx_runSW (As := [.ref (ad 0), .int 0, .int 0, .int 2147483647, .int (-1), .int 0]) (rest := []) ⟨hx, hb, hml, hown, hts⟩ (t_A0_1 l hlt D cyI cyZ ad zb zo zt zm zu zr zl zf 0 2147483647 (-1) 0 _ _ rfl (q_ac_c (by decide))) (vx_cwSW 6 hts gL_refuses_L_act rfl rfl rfl (by decide +kernel) ⟨Nat.le_of_ble_eq_true rfl, Nat.le_of_ble_eq_true rfl⟩) (poS hG hz hn hP hD hS hA) rfl rfl hl.1 rfl (lv_room (Nat.le_of_ble_eq_true rfl)) dL_refuses_169 ⟨Nat.le_of_ble_eq_true rfl, Nat.le_of_ble_eq_true rfl⟩) hD hS hA (rfl) (wE.rf) (fun H locs hP hD hS => ?_)
  refine W.widen (k := 74) (n := 444) (Nat.le_of_ble_eq_true rfl) (Nat.le_of_ble_eq_true rfl) ?_
  refine lv_iload hx hb dL_refuses_172 (lv_at hl 12 rfl) ?_
  refine lv_icmp_ne (tgt := 361) hx hb dL_refuses_174 (by decide) (fun c9 => absurd (by decide) c9) (fun _ => ?_)
  refine lv_aload_n hx hb dL_refuses_177 rfl (lv_at hl 7 rfl) ?_
  refine lv_iconst (v := 0) hx hb dL_refuses_178 (by decide) ?_
  refine lv_iconst (v := 1) hx hb dL_refuses_179 (by decide) ?_
  refine lv_iload_n hx hb dL_refuses_180 rfl (lv_at hl 9 rfl) ?_
  refine lv_iload hx hb dL_refuses_181 (lv_at hl 1 rfl) ?_
  refine lv_iconst (v := 0) hx hb dL_refuses_183 (by decide) ?_
  refine mo_i (vx_runSW (As := [.ref (ad 0), .int 0, .int 1, .int p3, .int 2147483647, .int 0]) (rest := []) ⟨hx, hb, hml, hown, hts⟩ (t_A0_2 l hlt D cyI cyZ ad zb zo zt zm zu zr zl zf 1 p3 2147483647 0 _ _ rfl (q_ac_n hc9 (by decide))) (vx_cwSW 6 hts gL_refuses_L_act rfl rfl rfl (by decide +kernel) ⟨Nat.le_of_ble_eq_true rfl, Nat.le_of_ble_eq_true rfl⟩) (poS hG hz hn hP hD hS hA) rfl rfl hl.1 rfl (lv_room (Nat.le_of_ble_eq_true rfl)) dL_refuses_184 ⟨Nat.le_of_ble_eq_true rfl, Nat.le_of_ble_eq_true rfl⟩) hD hS hA (rfl) (wE.rf) (fun H locs hP hD hS => ?_)
  refine W.widen (k := 75) (n := 450) (Nat.le_of_ble_eq_true rfl) (Nat.le_of_ble_eq_true rfl) ?_
  refine lv_iload hx hb dL_refuses_187 (lv_at hl 13 rfl) ?_
  refine lv_icmp_ne (tgt := 361) hx hb dL_refuses_189 (by decide) (fun c9 => absurd (by decide) c9) (fun _ => ?_)
  refine lv_aload_n hx hb dL_refuses_192 rfl (lv_at hl 7 rfl) ?_
  refine lv_iconst (v := 0) hx hb dL_refuses_193 (by decide) ?_
  refine lv_iconst (v := 1) hx hb dL_refuses_194 (by decide) ?_
  refine lv_iload_n hx hb dL_refuses_195 rfl (lv_at hl 9 rfl) ?_
  refine lv_iconst (v := 5) hx hb dL_refuses_196 (by decide) ?_
  refine lv_iconst (v := 0) hx hb dL_refuses_197 (by decide) ?_
  refine mo_i (vx_runSW (As := [.ref (ad 0), .int 0, .int 1, .int p3, .int 5, .int 0]) (rest := []) ⟨hx, hb, hml, hown, hts⟩ (t_A0_3 l hlt D cyI cyZ ad zb zo zt zm zu zr zl zf 1 p3 5 0 _ _ rfl (q_ac_s hc9)) (vx_cwSW 6 hts gL_refuses_L_act rfl rfl rfl (by decide +kernel) ⟨Nat.le_of_ble_eq_true rfl, Nat.le_of_ble_eq_true rfl⟩) (poS hG hz hn hP hD hS hA) rfl rfl hl.1 rfl (lv_room (Nat.le_of_ble_eq_true rfl)) dL_refuses_198 ⟨Nat.le_of_ble_eq_true rfl, Nat.le_of_ble_eq_true rfl⟩) hD hS hA (rfl) (wE.rf) (fun H locs hP hD hS => ?_)
  refine W.widen (k := 76) (n := 456) (Nat.le_of_ble_eq_true rfl) (Nat.le_of_ble_eq_true rfl) ?_
  refine lv_sipush (v := (-20003)) hx hb dL_refuses_201 (by decide) ?_
  refine lv_icmp_ne (tgt := 361) hx hb dL_refuses_204 (by decide) (fun c9 => absurd (by decide) c9) (fun _ => ?_)
  refine lv_aload_n hx hb dL_refuses_207 rfl (lv_at hl 7 rfl) ?_
  refine lv_iconst (v := 1) hx hb dL_refuses_208 (by decide) ?_
  refine lv_iload hx hb dL_refuses_209 (lv_at hl 5 rfl) ?_
  refine lv_iload_n hx hb dL_refuses_211 rfl (lv_at hl 9 rfl) ?_
  refine lv_iconst (v := 0) hx hb dL_refuses_212 (by decide) ?_
  refine lv_iconst (v := 0) hx hb dL_refuses_213 (by decide) ?_
  refine mo_i (vx_runSW (As := [.ref (ad 0), .int 1, .int 2147483647, .int p3, .int 0, .int 0]) (rest := []) ⟨hx, hb, hml, hown, hts⟩ (t_A1_1 l hlt D cyI cyZ ad zb zo zt zm zu zr zl zf 2147483647 p3 0 0 _ _ rfl (q_dc_t (by decide))) (vx_cwSW 6 hts gL_refuses_L_act rfl rfl rfl (by decide +kernel) ⟨Nat.le_of_ble_eq_true rfl, Nat.le_of_ble_eq_true rfl⟩) (poS hG hz hn hP hD hS hA) rfl rfl hl.1 rfl (lv_room (Nat.le_of_ble_eq_true rfl)) dL_refuses_214 ⟨Nat.le_of_ble_eq_true rfl, Nat.le_of_ble_eq_true rfl⟩) hD hS hA (rfl) (wE.rf) (fun H locs hP hD hS => ?_)
  refine W.widen (k := 77) (n := 462) (Nat.le_of_ble_eq_true rfl) (Nat.le_of_ble_eq_true rfl) ?_
  refine lv_iload hx hb dL_refuses_217 (lv_at hl 12 rfl) ?_
  refine lv_icmp_ne (tgt := 361) hx hb dL_refuses_219 (by decide) (fun c9 => absurd (by decide) c9) (fun _ => ?_)
  refine lv_aload_n hx hb dL_refuses_222 rfl (lv_at hl 7 rfl) ?_
  refine lv_iconst (v := 1) hx hb dL_refuses_223 (by decide) ?_
  refine lv_iconst (v := 1) hx hb dL_refuses_224 (by decide) ?_
  refine lv_iload hx hb dL_refuses_225 (lv_at hl 3 rfl) ?_
  refine lv_iconst (v := 0) hx hb dL_refuses_227 (by decide) ?_
  refine lv_iconst (v := 0) hx hb dL_refuses_228 (by decide) ?_
  refine mo_i (vx_runSW (As := [.ref (ad 0), .int 1, .int 1, .int 2147483647, .int 0, .int 0]) (rest := []) ⟨hx, hb, hml, hown, hts⟩ (t_A1_1 l hlt D cyI cyZ ad zb zo zt zm zu zr zl zf 1 2147483647 0 0 _ _ rfl (q_dc_c (by decide))) (vx_cwSW 6 hts gL_refuses_L_act rfl rfl rfl (by decide +kernel) ⟨Nat.le_of_ble_eq_true rfl, Nat.le_of_ble_eq_true rfl⟩) (poS hG hz hn hP hD hS hA) rfl rfl hl.1 rfl (lv_room (Nat.le_of_ble_eq_true rfl)) dL_refuses_229 ⟨Nat.le_of_ble_eq_true rfl, Nat.le_of_ble_eq_true rfl⟩) hD hS hA (rfl) (wE.rf) (fun H locs hP hD hS => ?_)
  refine W.widen (k := 78) (n := 468) (Nat.le_of_ble_eq_true rfl) (Nat.le_of_ble_eq_true rfl) ?_
  refine lv_iload hx hb dL_refuses_232 (lv_at hl 12 rfl) ?_
  refine lv_icmp_ne (tgt := 361) hx hb dL_refuses_234 (by decide) (fun c9 => absurd (by decide) c9) (fun _ => ?_)
  refine lv_aload_n hx hb dL_refuses_237 rfl (lv_at hl 7 rfl) ?_
  refine lv_iconst (v := 2) hx hb dL_refuses_238 (by decide) ?_
  refine lv_iload hx hb dL_refuses_239 (lv_at hl 5 rfl) ?_
  refine lv_iload_n hx hb dL_refuses_241 rfl (lv_at hl 9 rfl) ?_
  refine lv_iconst (v := 0) hx hb dL_refuses_242 (by decide) ?_
  refine lv_iconst (v := 0) hx hb dL_refuses_243 (by decide) ?_
  refine mo_i (vx_runSW (As := [.ref (ad 0), .int 2, .int 2147483647, .int p3, .int 0, .int 0]) (rest := []) ⟨hx, hb, hml, hown, hts⟩ (t_A2_1 l hlt D cyI cyZ ad zb zo zt zm zu zr zl zf 2147483647 p3 0 0 _ _ rfl (q_rn_t (by decide))) (vx_cwSW 6 hts gL_refuses_L_act rfl rfl rfl (by decide +kernel) ⟨Nat.le_of_ble_eq_true rfl, Nat.le_of_ble_eq_true rfl⟩) (poS hG hz hn hP hD hS hA) rfl rfl hl.1 rfl (lv_room (Nat.le_of_ble_eq_true rfl)) dL_refuses_244 ⟨Nat.le_of_ble_eq_true rfl, Nat.le_of_ble_eq_true rfl⟩) hD hS hA (rfl) (wE.rf) (fun H locs hP hD hS => ?_)
  refine W.widen (k := 79) (n := 474) (Nat.le_of_ble_eq_true rfl) (Nat.le_of_ble_eq_true rfl) ?_
  refine lv_iload hx hb dL_refuses_247 (lv_at hl 12 rfl) ?_
  refine lv_icmp_ne (tgt := 361) hx hb dL_refuses_249 (by decide) (fun c9 => absurd (by decide) c9) (fun _ => ?_)
  refine lv_aload_n hx hb dL_refuses_252 rfl (lv_at hl 7 rfl) ?_
  refine lv_iconst (v := 2) hx hb dL_refuses_253 (by decide) ?_
  refine lv_iconst (v := 1) hx hb dL_refuses_254 (by decide) ?_
  refine lv_iload hx hb dL_refuses_255 (lv_at hl 3 rfl) ?_
  refine lv_iconst (v := (-1)) hx hb dL_refuses_257 (by decide) ?_
  refine lv_iconst (v := 0) hx hb dL_refuses_258 (by decide) ?_
  refine mo_i (vx_runSW (As := [.ref (ad 0), .int 2, .int 1, .int 2147483647, .int (-1), .int 0]) (rest := []) ⟨hx, hb, hml, hown, hts⟩ (t_A2_1 l hlt D cyI cyZ ad zb zo zt zm zu zr zl zf 1 2147483647 (-1) 0 _ _ rfl (q_rn_c (by decide))) (vx_cwSW 6 hts gL_refuses_L_act rfl rfl rfl (by decide +kernel) ⟨Nat.le_of_ble_eq_true rfl, Nat.le_of_ble_eq_true rfl⟩) (poS hG hz hn hP hD hS hA) rfl rfl hl.1 rfl (lv_room (Nat.le_of_ble_eq_true rfl)) dL_refuses_259 ⟨Nat.le_of_ble_eq_true rfl, Nat.le_of_ble_eq_true rfl⟩) hD hS hA (rfl) (wE.rf) (fun H locs hP hD hS => ?_)
  refine W.widen (k := 80) (n := 480) (Nat.le_of_ble_eq_true rfl) (Nat.le_of_ble_eq_true rfl) ?_
  refine lv_iload hx hb dL_refuses_262 (lv_at hl 12 rfl) ?_
  refine lv_icmp_ne (tgt := 361) hx hb dL_refuses_264 (by decide) (fun c9 => absurd (by decide) c9) (fun _ => ?_)
  refine lv_aload_n hx hb dL_refuses_267 rfl (lv_at hl 7 rfl) ?_
  refine lv_iconst (v := 2) hx hb dL_refuses_268 (by decide) ?_
  refine lv_iconst (v := 1) hx hb dL_refuses_269 (by decide) ?_
  refine lv_iload_n hx hb dL_refuses_270 rfl (lv_at hl 9 rfl) ?_
  refine lv_iload hx hb dL_refuses_271 (lv_at hl 1 rfl) ?_
  refine lv_iconst (v := 0) hx hb dL_refuses_273 (by decide) ?_
  refine mo_i (vx_runSW (As := [.ref (ad 0), .int 2, .int 1, .int p3, .int 2147483647, .int 0]) (rest := []) ⟨hx, hb, hml, hown, hts⟩ (t_A2_2 l hlt D cyI cyZ ad zb zo zt zm zu zr zl zf 1 p3 2147483647 0 _ _ rfl (q_rn_n hc9 (by decide))) (vx_cwSW 6 hts gL_refuses_L_act rfl rfl rfl (by decide +kernel) ⟨Nat.le_of_ble_eq_true rfl, Nat.le_of_ble_eq_true rfl⟩) (poS hG hz hn hP hD hS hA) rfl rfl hl.1 rfl (lv_room (Nat.le_of_ble_eq_true rfl)) dL_refuses_274 ⟨Nat.le_of_ble_eq_true rfl, Nat.le_of_ble_eq_true rfl⟩) hD hS hA (rfl) (wE.rf) (fun H locs hP hD hS => ?_)
  refine W.widen (k := 81) (n := 486) (Nat.le_of_ble_eq_true rfl) (Nat.le_of_ble_eq_true rfl) ?_
  refine lv_iload hx hb dL_refuses_277 (lv_at hl 13 rfl) ?_
  refine lv_icmp_ne (tgt := 361) hx hb dL_refuses_279 (by decide) (fun c9 => absurd (by decide) c9) (fun _ => ?_)
  refine lv_aload_n hx hb dL_refuses_282 rfl (lv_at hl 7 rfl) ?_
  refine lv_iconst (v := 3) hx hb dL_refuses_283 (by decide) ?_
  refine lv_iload hx hb dL_refuses_284 (lv_at hl 5 rfl) ?_
  refine lv_iconst (v := 0) hx hb dL_refuses_286 (by decide) ?_
  refine lv_iconst (v := 0) hx hb dL_refuses_287 (by decide) ?_
  refine lv_iconst (v := 0) hx hb dL_refuses_288 (by decide) ?_
  refine mo_i (vx_runSW (As := [.ref (ad 0), .int 3, .int 2147483647, .int 0, .int 0, .int 0]) (rest := []) ⟨hx, hb, hml, hown, hts⟩ (t_A3_1 l hlt D cyI cyZ ad zb zo zt zm zu zr zl zf 2147483647 0 0 0 _ _ rfl (q_ar_t (by decide))) (vx_cwSW 6 hts gL_refuses_L_act rfl rfl rfl (by decide +kernel) ⟨Nat.le_of_ble_eq_true rfl, Nat.le_of_ble_eq_true rfl⟩) (poS hG hz hn hP hD hS hA) rfl rfl hl.1 rfl (lv_room (Nat.le_of_ble_eq_true rfl)) dL_refuses_289 ⟨Nat.le_of_ble_eq_true rfl, Nat.le_of_ble_eq_true rfl⟩) hD hS hA (rfl) (wE.rf) (fun H locs hP hD hS => ?_)
  refine W.widen (k := 82) (n := 492) (Nat.le_of_ble_eq_true rfl) (Nat.le_of_ble_eq_true rfl) ?_
  refine lv_iload hx hb dL_refuses_292 (lv_at hl 12 rfl) ?_
  refine lv_icmp_ne (tgt := 361) hx hb dL_refuses_294 (by decide) (fun c9 => absurd (by decide) c9) (fun _ => ?_)
  refine lv_aload_n hx hb dL_refuses_297 rfl (lv_at hl 7 rfl) ?_
  refine lv_iconst (v := 3) hx hb dL_refuses_298 (by decide) ?_
  refine lv_iconst (v := 0) hx hb dL_refuses_299 (by decide) ?_
  refine lv_iload hx hb dL_refuses_300 (lv_at hl 2 rfl) ?_
  refine lv_iconst (v := 0) hx hb dL_refuses_302 (by decide) ?_
  refine lv_iconst (v := 0) hx hb dL_refuses_303 (by decide) ?_
  refine mo_i (vx_runSW (As := [.ref (ad 0), .int 3, .int 0, .int 2147483647, .int 0, .int 0]) (rest := []) ⟨hx, hb, hml, hown, hts⟩ (t_A3_1 l hlt D cyI cyZ ad zb zo zt zm zu zr zl zf 0 2147483647 0 0 _ _ rfl (q_ar_k (by decide))) (vx_cwSW 6 hts gL_refuses_L_act rfl rfl rfl (by decide +kernel) ⟨Nat.le_of_ble_eq_true rfl, Nat.le_of_ble_eq_true rfl⟩) (poS hG hz hn hP hD hS hA) rfl rfl hl.1 rfl (lv_room (Nat.le_of_ble_eq_true rfl)) dL_refuses_304 ⟨Nat.le_of_ble_eq_true rfl, Nat.le_of_ble_eq_true rfl⟩) hD hS hA (rfl) (wE.rf) (fun H locs hP hD hS => ?_)
  refine W.widen (k := 83) (n := 498) (Nat.le_of_ble_eq_true rfl) (Nat.le_of_ble_eq_true rfl) ?_
  refine lv_iload hx hb dL_refuses_307 (lv_at hl 12 rfl) ?_
  refine lv_icmp_ne (tgt := 361) hx hb dL_refuses_309 (by decide) (fun c9 => absurd (by decide) c9) (fun _ => ?_)
  refine lv_aload_n hx hb dL_refuses_312 rfl (lv_at hl 7 rfl) ?_
  refine lv_iconst (v := 3) hx hb dL_refuses_313 (by decide) ?_
  refine lv_iconst (v := 1) hx hb dL_refuses_314 (by decide) ?_
  refine lv_iload_n hx hb dL_refuses_315 rfl (lv_at hl 8 rfl) ?_
  refine lv_iconst (v := 0) hx hb dL_refuses_316 (by decide) ?_
  refine lv_iconst (v := 0) hx hb dL_refuses_317 (by decide) ?_
  refine mo_i (vx_runSW (As := [.ref (ad 0), .int 3, .int 1, .int p2, .int 0, .int 0]) (rest := []) ⟨hx, hb, hml, hown, hts⟩ (t_A3_3 l hlt D cyI cyZ ad zb zo zt zm zu zr zl zf 1 p2 0 0 _ _ rfl (q_ar_s hr9)) (vx_cwSW 6 hts gL_refuses_L_act rfl rfl rfl (by decide +kernel) ⟨Nat.le_of_ble_eq_true rfl, Nat.le_of_ble_eq_true rfl⟩) (poS hG hz hn hP hD hS hA) rfl rfl hl.1 rfl (lv_room (Nat.le_of_ble_eq_true rfl)) dL_refuses_318 ⟨Nat.le_of_ble_eq_true rfl, Nat.le_of_ble_eq_true rfl⟩) hD hS hA (rfl) (wE.rf) (fun H locs hP hD hS => ?_)
  refine W.widen (k := 84) (n := 504) (Nat.le_of_ble_eq_true rfl) (Nat.le_of_ble_eq_true rfl) ?_
  refine lv_sipush (v := (-20003)) hx hb dL_refuses_321 (by decide) ?_
  refine lv_icmp_ne (tgt := 361) hx hb dL_refuses_324 (by decide) (fun c9 => absurd (by decide) c9) (fun _ => ?_)
  refine lv_aload_n hx hb dL_refuses_327 rfl (lv_at hl 7 rfl) ?_
  refine lv_iconst (v := 4) hx hb dL_refuses_328 (by decide) ?_
  refine lv_iload hx hb dL_refuses_329 (lv_at hl 5 rfl) ?_
  refine lv_iload_n hx hb dL_refuses_331 rfl (lv_at hl 8 rfl) ?_
  refine lv_iconst (v := 0) hx hb dL_refuses_332 (by decide) ?_
  refine lv_iconst (v := 0) hx hb dL_refuses_333 (by decide) ?_
  refine mo_i (vx_runSW (As := [.ref (ad 0), .int 4, .int 2147483647, .int p2, .int 0, .int 0]) (rest := []) ⟨hx, hb, hml, hown, hts⟩ (t_A4_1 l hlt D cyI cyZ ad zb zo zt zm zu zr zl zf 2147483647 p2 0 0 _ _ rfl (q_rr_t (by decide))) (vx_cwSW 6 hts gL_refuses_L_act rfl rfl rfl (by decide +kernel) ⟨Nat.le_of_ble_eq_true rfl, Nat.le_of_ble_eq_true rfl⟩) (poS hG hz hn hP hD hS hA) rfl rfl hl.1 rfl (lv_room (Nat.le_of_ble_eq_true rfl)) dL_refuses_334 ⟨Nat.le_of_ble_eq_true rfl, Nat.le_of_ble_eq_true rfl⟩) hD hS hA (rfl) (wE.rf) (fun H locs hP hD hS => ?_)
  refine W.widen (k := 85) (n := 510) (Nat.le_of_ble_eq_true rfl) (Nat.le_of_ble_eq_true rfl) ?_
  refine lv_iload hx hb dL_refuses_337 (lv_at hl 12 rfl) ?_
  refine lv_icmp_ne (tgt := 361) hx hb dL_refuses_339 (by decide) (fun c9 => absurd (by decide) c9) (fun _ => ?_)
  refine lv_aload_n hx hb dL_refuses_342 rfl (lv_at hl 7 rfl) ?_
  refine lv_iconst (v := 4) hx hb dL_refuses_343 (by decide) ?_
  refine lv_iconst (v := 1) hx hb dL_refuses_344 (by decide) ?_
  refine lv_iload hx hb dL_refuses_345 (lv_at hl 2 rfl) ?_
  refine lv_iconst (v := 0) hx hb dL_refuses_347 (by decide) ?_
  refine lv_iconst (v := 0) hx hb dL_refuses_348 (by decide) ?_
  refine mo_i (vx_runSW (As := [.ref (ad 0), .int 4, .int 1, .int 2147483647, .int 0, .int 0]) (rest := []) ⟨hx, hb, hml, hown, hts⟩ (t_A4_1 l hlt D cyI cyZ ad zb zo zt zm zu zr zl zf 1 2147483647 0 0 _ _ rfl (q_rr_k (by decide))) (vx_cwSW 6 hts gL_refuses_L_act rfl rfl rfl (by decide +kernel) ⟨Nat.le_of_ble_eq_true rfl, Nat.le_of_ble_eq_true rfl⟩) (poS hG hz hn hP hD hS hA) rfl rfl hl.1 rfl (lv_room (Nat.le_of_ble_eq_true rfl)) dL_refuses_349 ⟨Nat.le_of_ble_eq_true rfl, Nat.le_of_ble_eq_true rfl⟩) hD hS hA (rfl) (wE.rf) (fun H locs hP hD hS => ?_)
  refine W.widen (k := 86) (n := 516) (Nat.le_of_ble_eq_true rfl) (Nat.le_of_ble_eq_true rfl) ?_
  refine lv_iload hx hb dL_refuses_352 (lv_at hl 12 rfl) ?_
  refine lv_icmp_ne (tgt := 361) hx hb dL_refuses_354 (by decide) (fun c9 => absurd (by decide) c9) (fun _ => ?_)
  refine lv_iconst (v := 1) hx hb dL_refuses_357 (by decide) ?_
  refine lv_goto (tgt := 362) hx hb dL_refuses_358 (by decide) ?_
  refine lv_istore (lv' := [(16, .int 1), (15, .int 2147483647), (14, .int 2147483647), (13, .int 2147483647), (12, .int 2147483647), (11, .int 2147483647), (10, .int 2147483647), (9, .int 2147483647), (0, .ref (ad 0)), (1, .int p2), (2, .int p3), (3, .int zl.1), (4, .int zl.2.1), (5, .int (-20001)), (6, .int (-20002)), (7, .int 2147483647), (8, .int 2)]) hx hb dL_refuses_362 hl (by decide) rfl (fun ls hl => ?_)
  refine lv_iload hx hb dL_refuses_364 (lv_at hl 0 rfl) ?_
  refine lv_if_eq (tgt := 619) hx hb dL_refuses_366 (by decide) (fun c9 => absurd c9 (by decide)) (fun _ => ?_)
  refine lv_aload_n hx hb dL_refuses_369 rfl (lv_at hl 8 rfl) ?_
  refine lv_iconst (v := 5) hx hb dL_refuses_370 (by decide) ?_
  refine lv_iload hx hb dL_refuses_371 (lv_at hl 6 rfl) ?_
  refine lv_iload_n hx hb dL_refuses_373 rfl (lv_at hl 9 rfl) ?_
  refine lv_iload_n hx hb dL_refuses_374 rfl (lv_at hl 10 rfl) ?_
  refine lv_iconst (v := 0) hx hb dL_refuses_375 (by decide) ?_
  refine mo_i (vx_runSW (As := [.ref (ad 0), .int 5, .int 2147483647, .int p2, .int p3, .int 0]) (rest := []) ⟨hx, hb, hml, hown, hts⟩ (t_A5_1 l hlt D cyI cyZ ad zb zo zt zm zu zr zl zf 2147483647 p2 p3 0 _ _ rfl (q_st_t (by decide))) (vx_cwSW 6 hts gL_refuses_L_act rfl rfl rfl (by decide +kernel) ⟨Nat.le_of_ble_eq_true rfl, Nat.le_of_ble_eq_true rfl⟩) (poS hG hz hn hP hD hS hA) rfl rfl hl.1 rfl (lv_room (Nat.le_of_ble_eq_true rfl)) dL_refuses_376 ⟨Nat.le_of_ble_eq_true rfl, Nat.le_of_ble_eq_true rfl⟩) hD hS hA (rfl) (wE.rf) (fun H locs hP hD hS => ?_)
  refine W.widen (k := 87) (n := 522) (Nat.le_of_ble_eq_true rfl) (Nat.le_of_ble_eq_true rfl) ?_
  refine lv_iload hx hb dL_refuses_379 (lv_at hl 13 rfl) ?_
  refine lv_icmp_ne (tgt := 619) hx hb dL_refuses_381 (by decide) (fun c9 => absurd (by decide) c9) (fun _ => ?_)
  refine lv_aload_n hx hb dL_refuses_384 rfl (lv_at hl 8 rfl) ?_
  refine lv_iconst (v := 5) hx hb dL_refuses_385 (by decide) ?_
  refine lv_iconst (v := 1) hx hb dL_refuses_386 (by decide) ?_
  refine lv_iload hx hb dL_refuses_387 (lv_at hl 3 rfl) ?_
  refine lv_iload_n hx hb dL_refuses_389 rfl (lv_at hl 10 rfl) ?_
  refine lv_iconst (v := 0) hx hb dL_refuses_390 (by decide) ?_
  refine mo_i (vx_runSW (As := [.ref (ad 0), .int 5, .int 1, .int 2147483647, .int p3, .int 0]) (rest := []) ⟨hx, hb, hml, hown, hts⟩ (t_A5_1 l hlt D cyI cyZ ad zb zo zt zm zu zr zl zf 1 2147483647 p3 0 _ _ rfl (q_st_r (by decide))) (vx_cwSW 6 hts gL_refuses_L_act rfl rfl rfl (by decide +kernel) ⟨Nat.le_of_ble_eq_true rfl, Nat.le_of_ble_eq_true rfl⟩) (poS hG hz hn hP hD hS hA) rfl rfl hl.1 rfl (lv_room (Nat.le_of_ble_eq_true rfl)) dL_refuses_391 ⟨Nat.le_of_ble_eq_true rfl, Nat.le_of_ble_eq_true rfl⟩) hD hS hA (rfl) (wE.rf) (fun H locs hP hD hS => ?_)
  refine W.widen (k := 88) (n := 528) (Nat.le_of_ble_eq_true rfl) (Nat.le_of_ble_eq_true rfl) ?_
  refine lv_iload hx hb dL_refuses_394 (lv_at hl 13 rfl) ?_
  refine lv_icmp_ne (tgt := 619) hx hb dL_refuses_396 (by decide) (fun c9 => absurd (by decide) c9) (fun _ => ?_)
  refine lv_aload_n hx hb dL_refuses_399 rfl (lv_at hl 8 rfl) ?_
  refine lv_iconst (v := 5) hx hb dL_refuses_400 (by decide) ?_
  refine lv_iconst (v := 1) hx hb dL_refuses_401 (by decide) ?_
  refine lv_iload_n hx hb dL_refuses_402 rfl (lv_at hl 9 rfl) ?_
  refine lv_iload hx hb dL_refuses_403 (lv_at hl 4 rfl) ?_
  refine lv_sipush (v := 10000) hx hb dL_refuses_405 (by decide) ?_
  refine mo_i (vx_runSW (As := [.ref (ad 0), .int 5, .int 1, .int p2, .int 2147483647, .int 10000]) (rest := []) ⟨hx, hb, hml, hown, hts⟩ (t_A5_1 l hlt D cyI cyZ ad zb zo zt zm zu zr zl zf 1 p2 2147483647 10000 _ _ rfl (q_st_c hr9 (by decide))) (vx_cwSW 6 hts gL_refuses_L_act rfl rfl rfl (by decide +kernel) ⟨Nat.le_of_ble_eq_true rfl, Nat.le_of_ble_eq_true rfl⟩) (poS hG hz hn hP hD hS hA) rfl rfl hl.1 rfl (lv_room (Nat.le_of_ble_eq_true rfl)) dL_refuses_408 ⟨Nat.le_of_ble_eq_true rfl, Nat.le_of_ble_eq_true rfl⟩) hD hS hA (rfl) (wE.rf) (fun H locs hP hD hS => ?_)
  refine W.widen (k := 89) (n := 534) (Nat.le_of_ble_eq_true rfl) (Nat.le_of_ble_eq_true rfl) ?_
  refine lv_iload hx hb dL_refuses_411 (lv_at hl 13 rfl) ?_
  refine lv_icmp_ne (tgt := 619) hx hb dL_refuses_413 (by decide) (fun c9 => absurd (by decide) c9) (fun _ => ?_)
  refine lv_aload_n hx hb dL_refuses_416 rfl (lv_at hl 8 rfl) ?_
  refine lv_iconst (v := 5) hx hb dL_refuses_417 (by decide) ?_
  refine lv_iconst (v := 1) hx hb dL_refuses_418 (by decide) ?_
  refine lv_iload_n hx hb dL_refuses_419 rfl (lv_at hl 9 rfl) ?_
  refine lv_iload_n hx hb dL_refuses_420 rfl (lv_at hl 10 rfl) ?_
  refine lv_iload hx hb dL_refuses_421 (lv_at hl 16 rfl) ?_
  refine lv_if_ne (tgt := 432) hx hb dL_refuses_423 (by decide) (fun _ => ?_) (fun c9 => absurd c9 (by decide))
  refine lv_iload hx hb dL_refuses_432 (lv_at hl 16 rfl) ?_
  refine lv_iconst (v := 1) hx hb dL_refuses_434 (by decide) ?_
  refine lv_icmp_ne (tgt := 444) hx hb dL_refuses_435 (by decide) (fun _ => ?_) (fun c9 => absurd c9 (by decide))
  refine lv_iload hx hb dL_refuses_444 (lv_at hl 7 rfl) ?_
  refine mo_i (vx_runSW (As := [.ref (ad 0), .int 5, .int 1, .int p2, .int p3, .int 2147483647]) (rest := []) ⟨hx, hb, hml, hown, hts⟩ (t_A5_2 l hlt D cyI cyZ ad zb zo zt zm zu zr zl zf 1 p2 p3 2147483647 _ _ rfl (q_st_v hr9 hc9 (by decide))) (vx_cwSW 6 hts gL_refuses_L_act rfl rfl rfl (by decide +kernel) ⟨Nat.le_of_ble_eq_true rfl, Nat.le_of_ble_eq_true rfl⟩) (poS hG hz hn hP hD hS hA) rfl rfl hl.1 rfl (lv_room (Nat.le_of_ble_eq_true rfl)) dL_refuses_446 ⟨Nat.le_of_ble_eq_true rfl, Nat.le_of_ble_eq_true rfl⟩) hD hS hA (rfl) (wE.rf) (fun H locs hP hD hS => ?_)
  refine W.widen (k := 90) (n := 540) (Nat.le_of_ble_eq_true rfl) (Nat.le_of_ble_eq_true rfl) ?_
  refine lv_iload hx hb dL_refuses_449 (lv_at hl 14 rfl) ?_
  refine lv_icmp_ne (tgt := 619) hx hb dL_refuses_451 (by decide) (fun c9 => absurd (by decide) c9) (fun _ => ?_)
  refine lv_aload_n hx hb dL_refuses_454 rfl (lv_at hl 8 rfl) ?_
  refine lv_bipush (v := 6) hx hb dL_refuses_455 (by decide) ?_
  refine lv_iload hx hb dL_refuses_457 (lv_at hl 4 rfl) ?_
  refine lv_bipush (v := 9) hx hb dL_refuses_459 (by decide) ?_
  refine lv_iconst (v := 0) hx hb dL_refuses_461 (by decide) ?_
  refine lv_iconst (v := 0) hx hb dL_refuses_462 (by decide) ?_
  refine mo_i (vx_runSW (As := [.ref (ad 0), .int 6, .int 2147483647, .int 9, .int 0, .int 0]) (rest := []) ⟨hx, hb, hml, hown, hts⟩ (t_A6_1 l hlt D cyI cyZ ad zb zo zt zm zu zr zl zf 2147483647 9 0 0 _ _ rfl (by decide)) (vx_cwSW 6 hts gL_refuses_L_act rfl rfl rfl (by decide +kernel) ⟨Nat.le_of_ble_eq_true rfl, Nat.le_of_ble_eq_true rfl⟩) (poS hG hz hn hP hD hS hA) rfl rfl hl.1 rfl (lv_room (Nat.le_of_ble_eq_true rfl)) dL_refuses_463 ⟨Nat.le_of_ble_eq_true rfl, Nat.le_of_ble_eq_true rfl⟩) hD hS hA (rfl) (wE.rf) (fun H locs hP hD hS => ?_)
  refine W.widen (k := 91) (n := 546) (Nat.le_of_ble_eq_true rfl) (Nat.le_of_ble_eq_true rfl) ?_
  refine lv_iload hx hb dL_refuses_466 (lv_at hl 13 rfl) ?_
  refine lv_icmp_ne (tgt := 619) hx hb dL_refuses_468 (by decide) (fun c9 => absurd (by decide) c9) (fun _ => ?_)
  refine lv_aload_n hx hb dL_refuses_471 rfl (lv_at hl 8 rfl) ?_
  refine lv_bipush (v := 6) hx hb dL_refuses_472 (by decide) ?_
  refine lv_iconst (v := 0) hx hb dL_refuses_474 (by decide) ?_
  refine lv_iload hx hb dL_refuses_475 (lv_at hl 5 rfl) ?_
  refine lv_iconst (v := 0) hx hb dL_refuses_477 (by decide) ?_
  refine lv_iconst (v := 0) hx hb dL_refuses_478 (by decide) ?_
  refine mo_i (vx_runSW (As := [.ref (ad 0), .int 6, .int 0, .int 2147483647, .int 0, .int 0]) (rest := []) ⟨hx, hb, hml, hown, hts⟩ (t_A6_2 l hlt D cyI cyZ ad zb zo zt zm zu zr zl zf 0 2147483647 0 0 _ _ rfl (by decide)) (vx_cwSW 6 hts gL_refuses_L_act rfl rfl rfl (by decide +kernel) ⟨Nat.le_of_ble_eq_true rfl, Nat.le_of_ble_eq_true rfl⟩) (poS hG hz hn hP hD hS hA) rfl rfl hl.1 rfl (lv_room (Nat.le_of_ble_eq_true rfl)) dL_refuses_479 ⟨Nat.le_of_ble_eq_true rfl, Nat.le_of_ble_eq_true rfl⟩) hD hS hA (rfl) (wE.rf) (fun H locs hP hD hS => ?_)
  refine W.widen (k := 92) (n := 552) (Nat.le_of_ble_eq_true rfl) (Nat.le_of_ble_eq_true rfl) ?_
  refine lv_iload hx hb dL_refuses_482 (lv_at hl 14 rfl) ?_
  refine lv_icmp_ne (tgt := 619) hx hb dL_refuses_484 (by decide) (fun c9 => absurd (by decide) c9) (fun _ => ?_)
  refine lv_aload_n hx hb dL_refuses_487 rfl (lv_at hl 8 rfl) ?_
  refine lv_bipush (v := 7) hx hb dL_refuses_488 (by decide) ?_
  refine lv_iload hx hb dL_refuses_490 (lv_at hl 4 rfl) ?_
  refine lv_iconst (v := 1) hx hb dL_refuses_492 (by decide) ?_
  refine lv_iconst (v := 0) hx hb dL_refuses_493 (by decide) ?_
  refine lv_iconst (v := 0) hx hb dL_refuses_494 (by decide) ?_
  refine mo_i (vx_runSW (As := [.ref (ad 0), .int 7, .int 2147483647, .int 1, .int 0, .int 0]) (rest := []) ⟨hx, hb, hml, hown, hts⟩ (t_A7_1 l hlt D cyI cyZ ad zb zo zt zm zu zr zl zf 2147483647 0 0 _ _ rfl (by decide)) (vx_cwSW 6 hts gL_refuses_L_act rfl rfl rfl (by decide +kernel) ⟨Nat.le_of_ble_eq_true rfl, Nat.le_of_ble_eq_true rfl⟩) (poS hG hz hn hP hD hS hA) rfl rfl hl.1 rfl (lv_room (Nat.le_of_ble_eq_true rfl)) dL_refuses_495 ⟨Nat.le_of_ble_eq_true rfl, Nat.le_of_ble_eq_true rfl⟩) hD hS hA (rfl) (wE.rf) (fun H locs hP hD hS => ?_)
  refine W.widen (k := 93) (n := 558) (Nat.le_of_ble_eq_true rfl) (Nat.le_of_ble_eq_true rfl) ?_
  refine lv_iload hx hb dL_refuses_498 (lv_at hl 13 rfl) ?_
  refine lv_icmp_ne (tgt := 619) hx hb dL_refuses_500 (by decide) (fun c9 => absurd (by decide) c9) (fun _ => ?_)
  refine lv_aload_n hx hb dL_refuses_503 rfl (lv_at hl 8 rfl) ?_
  refine lv_bipush (v := 8) hx hb dL_refuses_504 (by decide) ?_
  refine lv_iload hx hb dL_refuses_506 (lv_at hl 5 rfl) ?_
  refine lv_iconst (v := 0) hx hb dL_refuses_508 (by decide) ?_
  refine lv_iconst (v := 0) hx hb dL_refuses_509 (by decide) ?_
  refine lv_iconst (v := 0) hx hb dL_refuses_510 (by decide) ?_
  refine mo_i (vx_runSW (As := [.ref (ad 0), .int 8, .int 2147483647, .int 0, .int 0, .int 0]) (rest := []) ⟨hx, hb, hml, hown, hts⟩ (t_A8_1 l hlt D cyI cyZ ad zb zo zt zm zu zr zl zf 2147483647 0 0 0 _ _ rfl (by decide)) (vx_cwSW 6 hts gL_refuses_L_act rfl rfl rfl (by decide +kernel) ⟨Nat.le_of_ble_eq_true rfl, Nat.le_of_ble_eq_true rfl⟩) (poS hG hz hn hP hD hS hA) rfl rfl hl.1 rfl (lv_room (Nat.le_of_ble_eq_true rfl)) dL_refuses_511 ⟨Nat.le_of_ble_eq_true rfl, Nat.le_of_ble_eq_true rfl⟩) hD hS hA (rfl) (wE.rf) (fun H locs hP hD hS => ?_)
  refine W.widen (k := 94) (n := 564) (Nat.le_of_ble_eq_true rfl) (Nat.le_of_ble_eq_true rfl) ?_
  refine lv_iload hx hb dL_refuses_514 (lv_at hl 13 rfl) ?_
  refine lv_icmp_ne (tgt := 619) hx hb dL_refuses_516 (by decide) (fun c9 => absurd (by decide) c9) (fun _ => ?_)
  refine lv_aload_n hx hb dL_refuses_519 rfl (lv_at hl 8 rfl) ?_
  refine lv_bipush (v := 9) hx hb dL_refuses_520 (by decide) ?_
  refine lv_iload hx hb dL_refuses_522 (lv_at hl 5 rfl) ?_
  refine lv_iconst (v := 0) hx hb dL_refuses_524 (by decide) ?_
  refine lv_iconst (v := 0) hx hb dL_refuses_525 (by decide) ?_
  refine lv_iconst (v := 0) hx hb dL_refuses_526 (by decide) ?_
  refine mo_i (vx_runSW (As := [.ref (ad 0), .int 9, .int 2147483647, .int 0, .int 0, .int 0]) (rest := []) ⟨hx, hb, hml, hown, hts⟩ (t_A9_1 l hlt D cyI cyZ ad zb zo zt zm zu zr zl zf 2147483647 0 0 0 _ _ rfl (by decide)) (vx_cwSW 6 hts gL_refuses_L_act rfl rfl rfl (by decide +kernel) ⟨Nat.le_of_ble_eq_true rfl, Nat.le_of_ble_eq_true rfl⟩) (poS hG hz hn hP hD hS hA) rfl rfl hl.1 rfl (lv_room (Nat.le_of_ble_eq_true rfl)) dL_refuses_527 ⟨Nat.le_of_ble_eq_true rfl, Nat.le_of_ble_eq_true rfl⟩) hD hS hA (rfl) (wE.rf) (fun H locs hP hD hS => ?_)
  refine W.widen (k := 95) (n := 570) (Nat.le_of_ble_eq_true rfl) (Nat.le_of_ble_eq_true rfl) ?_
  refine lv_iload hx hb dL_refuses_530 (lv_at hl 13 rfl) ?_
  refine lv_icmp_ne (tgt := 619) hx hb dL_refuses_532 (by decide) (fun c9 => absurd (by decide) c9) (fun _ => ?_)
  refine lv_aload_n hx hb dL_refuses_535 rfl (lv_at hl 8 rfl) ?_
  refine lv_bipush (v := 10) hx hb dL_refuses_536 (by decide) ?_
  refine lv_iload hx hb dL_refuses_538 (lv_at hl 5 rfl) ?_
  refine lv_iload_n hx hb dL_refuses_540 rfl (lv_at hl 10 rfl) ?_
  refine lv_iconst (v := 0) hx hb dL_refuses_541 (by decide) ?_
  refine lv_iconst (v := 0) hx hb dL_refuses_542 (by decide) ?_
  refine mo_i (vx_runSW (As := [.ref (ad 0), .int 10, .int 2147483647, .int p3, .int 0, .int 0]) (rest := []) ⟨hx, hb, hml, hown, hts⟩ (t_A10_1 l hlt D cyI cyZ ad zb zo zt zm zu zr zl zf 2147483647 p3 0 0 _ _ rfl (q_nm_t (by decide))) (vx_cwSW 6 hts gL_refuses_L_act rfl rfl rfl (by decide +kernel) ⟨Nat.le_of_ble_eq_true rfl, Nat.le_of_ble_eq_true rfl⟩) (poS hG hz hn hP hD hS hA) rfl rfl hl.1 rfl (lv_room (Nat.le_of_ble_eq_true rfl)) dL_refuses_543 ⟨Nat.le_of_ble_eq_true rfl, Nat.le_of_ble_eq_true rfl⟩) hD hS hA (rfl) (wE.rf) (fun H locs hP hD hS => ?_)
  refine W.widen (k := 96) (n := 576) (Nat.le_of_ble_eq_true rfl) (Nat.le_of_ble_eq_true rfl) ?_
  refine lv_iload hx hb dL_refuses_546 (lv_at hl 13 rfl) ?_
  refine lv_icmp_ne (tgt := 619) hx hb dL_refuses_548 (by decide) (fun c9 => absurd (by decide) c9) (fun _ => ?_)
  refine lv_aload_n hx hb dL_refuses_551 rfl (lv_at hl 8 rfl) ?_
  refine lv_bipush (v := 10) hx hb dL_refuses_552 (by decide) ?_
  refine lv_iconst (v := 1) hx hb dL_refuses_554 (by decide) ?_
  refine lv_iload hx hb dL_refuses_555 (lv_at hl 4 rfl) ?_
  refine lv_iconst (v := 0) hx hb dL_refuses_557 (by decide) ?_
  refine lv_iconst (v := 0) hx hb dL_refuses_558 (by decide) ?_
  refine mo_i (vx_runSW (As := [.ref (ad 0), .int 10, .int 1, .int 2147483647, .int 0, .int 0]) (rest := []) ⟨hx, hb, hml, hown, hts⟩ (t_A10_1 l hlt D cyI cyZ ad zb zo zt zm zu zr zl zf 1 2147483647 0 0 _ _ rfl (q_nm_c (by decide))) (vx_cwSW 6 hts gL_refuses_L_act rfl rfl rfl (by decide +kernel) ⟨Nat.le_of_ble_eq_true rfl, Nat.le_of_ble_eq_true rfl⟩) (poS hG hz hn hP hD hS hA) rfl rfl hl.1 rfl (lv_room (Nat.le_of_ble_eq_true rfl)) dL_refuses_559 ⟨Nat.le_of_ble_eq_true rfl, Nat.le_of_ble_eq_true rfl⟩) hD hS hA (rfl) (wE.rf) (fun H locs hP hD hS => ?_)
  refine W.widen (k := 97) (n := 582) (Nat.le_of_ble_eq_true rfl) (Nat.le_of_ble_eq_true rfl) ?_
  refine lv_iload hx hb dL_refuses_562 (lv_at hl 13 rfl) ?_
  refine lv_icmp_ne (tgt := 619) hx hb dL_refuses_564 (by decide) (fun c9 => absurd (by decide) c9) (fun _ => ?_)
  refine lv_aload_n hx hb dL_refuses_567 rfl (lv_at hl 8 rfl) ?_
  refine lv_bipush (v := 11) hx hb dL_refuses_568 (by decide) ?_
  refine lv_iload hx hb dL_refuses_570 (lv_at hl 5 rfl) ?_
  refine lv_iload_n hx hb dL_refuses_572 rfl (lv_at hl 9 rfl) ?_
  refine lv_iload_n hx hb dL_refuses_573 rfl (lv_at hl 10 rfl) ?_
  refine lv_iconst (v := 0) hx hb dL_refuses_574 (by decide) ?_
  refine mo_i (vx_runSW (As := [.ref (ad 0), .int 11, .int 2147483647, .int p2, .int p3, .int 0]) (rest := []) ⟨hx, hb, hml, hown, hts⟩ (t_A11_1 l hlt D cyI cyZ ad zb zo zt zm zu zr zl zf 2147483647 p2 p3 0 _ _ rfl (q_gt_t (by decide))) (vx_cwSW 6 hts gL_refuses_L_act rfl rfl rfl (by decide +kernel) ⟨Nat.le_of_ble_eq_true rfl, Nat.le_of_ble_eq_true rfl⟩) (poS hG hz hn hP hD hS hA) rfl rfl hl.1 rfl (lv_room (Nat.le_of_ble_eq_true rfl)) dL_refuses_575 ⟨Nat.le_of_ble_eq_true rfl, Nat.le_of_ble_eq_true rfl⟩) hD hS hA (rfl) (wE.rf) (fun H locs hP hD hS => ?_)
  refine W.widen (k := 98) (n := 588) (Nat.le_of_ble_eq_true rfl) (Nat.le_of_ble_eq_true rfl) ?_
  refine lv_iload hx hb dL_refuses_578 (lv_at hl 13 rfl) ?_
  refine lv_icmp_ne (tgt := 619) hx hb dL_refuses_580 (by decide) (fun c9 => absurd (by decide) c9) (fun _ => ?_)
  refine lv_aload_n hx hb dL_refuses_583 rfl (lv_at hl 8 rfl) ?_
  refine lv_bipush (v := 11) hx hb dL_refuses_584 (by decide) ?_
  refine lv_iconst (v := 1) hx hb dL_refuses_586 (by decide) ?_
  refine lv_iload hx hb dL_refuses_587 (lv_at hl 3 rfl) ?_
  refine lv_iload_n hx hb dL_refuses_589 rfl (lv_at hl 10 rfl) ?_
  refine lv_iconst (v := 0) hx hb dL_refuses_590 (by decide) ?_
  refine mo_i (vx_runSW (As := [.ref (ad 0), .int 11, .int 1, .int 2147483647, .int p3, .int 0]) (rest := []) ⟨hx, hb, hml, hown, hts⟩ (t_A11_1 l hlt D cyI cyZ ad zb zo zt zm zu zr zl zf 1 2147483647 p3 0 _ _ rfl (q_gt_r (by decide))) (vx_cwSW 6 hts gL_refuses_L_act rfl rfl rfl (by decide +kernel) ⟨Nat.le_of_ble_eq_true rfl, Nat.le_of_ble_eq_true rfl⟩) (poS hG hz hn hP hD hS hA) rfl rfl hl.1 rfl (lv_room (Nat.le_of_ble_eq_true rfl)) dL_refuses_591 ⟨Nat.le_of_ble_eq_true rfl, Nat.le_of_ble_eq_true rfl⟩) hD hS hA (rfl) (wE.rf) (fun H locs hP hD hS => ?_)
  refine W.widen (k := 99) (n := 594) (Nat.le_of_ble_eq_true rfl) (Nat.le_of_ble_eq_true rfl) ?_
  refine lv_iload hx hb dL_refuses_594 (lv_at hl 13 rfl) ?_
  refine lv_icmp_ne (tgt := 619) hx hb dL_refuses_596 (by decide) (fun c9 => absurd (by decide) c9) (fun _ => ?_)
  refine lv_aload_n hx hb dL_refuses_599 rfl (lv_at hl 8 rfl) ?_
  refine lv_bipush (v := 11) hx hb dL_refuses_600 (by decide) ?_
  refine lv_iconst (v := 1) hx hb dL_refuses_602 (by decide) ?_
  refine lv_iload_n hx hb dL_refuses_603 rfl (lv_at hl 9 rfl) ?_
  refine lv_iload hx hb dL_refuses_604 (lv_at hl 4 rfl) ?_
  refine lv_iconst (v := 0) hx hb dL_refuses_606 (by decide) ?_
  refine mo_i (vx_runSW (As := [.ref (ad 0), .int 11, .int 1, .int p2, .int 2147483647, .int 0]) (rest := []) ⟨hx, hb, hml, hown, hts⟩ (t_A11_1 l hlt D cyI cyZ ad zb zo zt zm zu zr zl zf 1 p2 2147483647 0 _ _ rfl (q_gt_c hr9 (by decide))) (vx_cwSW 6 hts gL_refuses_L_act rfl rfl rfl (by decide +kernel) ⟨Nat.le_of_ble_eq_true rfl, Nat.le_of_ble_eq_true rfl⟩) (poS hG hz hn hP hD hS hA) rfl rfl hl.1 rfl (lv_room (Nat.le_of_ble_eq_true rfl)) dL_refuses_607 ⟨Nat.le_of_ble_eq_true rfl, Nat.le_of_ble_eq_true rfl⟩) hD hS hA (rfl) (wE.rf) (fun H locs hP hD hS => ?_)
  refine W.widen (k := 100) (n := 600) (Nat.le_of_ble_eq_true rfl) (Nat.le_of_ble_eq_true rfl) ?_
  refine lv_iload hx hb dL_refuses_610 (lv_at hl 13 rfl) ?_
  refine lv_icmp_ne (tgt := 619) hx hb dL_refuses_612 (by decide) (fun c9 => absurd (by decide) c9) (fun _ => ?_)
  refine lv_iconst (v := 1) hx hb dL_refuses_615 (by decide) ?_
  refine lv_goto (tgt := 620) hx hb dL_refuses_616 (by decide) ?_
  refine lv_istore (lv' := [(16, .int 1), (15, .int 2147483647), (14, .int 2147483647), (13, .int 2147483647), (12, .int 2147483647), (11, .int 2147483647), (10, .int 2147483647), (9, .int 2147483647), (0, .ref (ad 0)), (1, .int p2), (2, .int p3), (3, .int zl.1), (4, .int zl.2.1), (5, .int (-20001)), (6, .int (-20002)), (7, .int 2147483647), (8, .int 2)]) hx hb dL_refuses_620 hl (by decide) rfl (fun ls hl => ?_)
  refine lv_iload hx hb dL_refuses_622 (lv_at hl 0 rfl) ?_
  refine lv_if_eq (tgt := 695) hx hb dL_refuses_624 (by decide) (fun c9 => absurd c9 (by decide)) (fun _ => ?_)
  refine lv_aload_n hx hb dL_refuses_627 rfl (lv_at hl 8 rfl) ?_
  refine lv_bipush (v := 12) hx hb dL_refuses_628 (by decide) ?_
  refine lv_iload hx hb dL_refuses_630 (lv_at hl 1 rfl) ?_
  refine lv_iconst (v := 0) hx hb dL_refuses_632 (by decide) ?_
  refine lv_iconst (v := 0) hx hb dL_refuses_633 (by decide) ?_
  refine lv_iconst (v := 0) hx hb dL_refuses_634 (by decide) ?_
  refine mo_i (vx_runSW (As := [.ref (ad 0), .int 12, .int 2147483647, .int 0, .int 0, .int 0]) (rest := []) ⟨hx, hb, hml, hown, hts⟩ (t_A12_1 l hlt D cyI cyZ ad zb zo zt zm zu zr zl zf 2147483647 0 0 0 _ _ rfl (by decide)) (vx_cwSW 6 hts gL_refuses_L_act rfl rfl rfl (by decide +kernel) ⟨Nat.le_of_ble_eq_true rfl, Nat.le_of_ble_eq_true rfl⟩) (poS hG hz hn hP hD hS hA) rfl rfl hl.1 rfl (lv_room (Nat.le_of_ble_eq_true rfl)) dL_refuses_635 ⟨Nat.le_of_ble_eq_true rfl, Nat.le_of_ble_eq_true rfl⟩) hD hS hA (rfl) (wE.rf) (fun H locs hP hD hS => ?_)
  refine W.widen (k := 101) (n := 606) (Nat.le_of_ble_eq_true rfl) (Nat.le_of_ble_eq_true rfl) ?_
  refine lv_iload hx hb dL_refuses_638 (lv_at hl 13 rfl) ?_
  refine lv_icmp_ne (tgt := 695) hx hb dL_refuses_640 (by decide) (fun c9 => absurd (by decide) c9) (fun _ => ?_)
  refine lv_aload_n hx hb dL_refuses_643 rfl (lv_at hl 8 rfl) ?_
  refine lv_bipush (v := 14) hx hb dL_refuses_644 (by decide) ?_
  refine lv_iload hx hb dL_refuses_646 (lv_at hl 3 rfl) ?_
  refine lv_iconst (v := 0) hx hb dL_refuses_648 (by decide) ?_
  refine lv_iconst (v := 0) hx hb dL_refuses_649 (by decide) ?_
  refine lv_iconst (v := 0) hx hb dL_refuses_650 (by decide) ?_
  refine mo_i (vx_runSW (As := [.ref (ad 0), .int 14, .int 2147483647, .int 0, .int 0, .int 0]) (rest := []) ⟨hx, hb, hml, hown, hts⟩ (t_A14_1 l hlt D cyI cyZ ad zb zo zt zm zu zr zl zf 2147483647 0 0 0 _ _ rfl (q_by_k (by decide))) (vx_cwSW 6 hts gL_refuses_L_act rfl rfl rfl (by decide +kernel) ⟨Nat.le_of_ble_eq_true rfl, Nat.le_of_ble_eq_true rfl⟩) (poS hG hz hn hP hD hS hA) rfl rfl hl.1 rfl (lv_room (Nat.le_of_ble_eq_true rfl)) dL_refuses_651 ⟨Nat.le_of_ble_eq_true rfl, Nat.le_of_ble_eq_true rfl⟩) hD hS hA (rfl) (wE.rf) (fun H locs hP hD hS => ?_)
  refine W.widen (k := 102) (n := 612) (Nat.le_of_ble_eq_true rfl) (Nat.le_of_ble_eq_true rfl) ?_
  refine lv_iload hx hb dL_refuses_654 (lv_at hl 13 rfl) ?_
  refine lv_icmp_ne (tgt := 695) hx hb dL_refuses_656 (by decide) (fun c9 => absurd (by decide) c9) (fun _ => ?_)
  refine lv_aload_n hx hb dL_refuses_659 rfl (lv_at hl 8 rfl) ?_
  refine lv_bipush (v := 14) hx hb dL_refuses_660 (by decide) ?_
  refine lv_iconst (v := 0) hx hb dL_refuses_662 (by decide) ?_
  refine lv_iload hx hb dL_refuses_663 (lv_at hl 4 rfl) ?_
  refine lv_iconst (v := 0) hx hb dL_refuses_665 (by decide) ?_
  refine lv_iconst (v := 0) hx hb dL_refuses_666 (by decide) ?_
  refine mo_i (vx_runSW (As := [.ref (ad 0), .int 14, .int 0, .int 2147483647, .int 0, .int 0]) (rest := []) ⟨hx, hb, hml, hown, hts⟩ (t_A14_1 l hlt D cyI cyZ ad zb zo zt zm zu zr zl zf 0 2147483647 0 0 _ _ rfl (q_by_c (by decide))) (vx_cwSW 6 hts gL_refuses_L_act rfl rfl rfl (by decide +kernel) ⟨Nat.le_of_ble_eq_true rfl, Nat.le_of_ble_eq_true rfl⟩) (poS hG hz hn hP hD hS hA) rfl rfl hl.1 rfl (lv_room (Nat.le_of_ble_eq_true rfl)) dL_refuses_667 ⟨Nat.le_of_ble_eq_true rfl, Nat.le_of_ble_eq_true rfl⟩) hD hS hA (rfl) (wE.rf) (fun H locs hP hD hS => ?_)
  refine W.widen (k := 103) (n := 618) (Nat.le_of_ble_eq_true rfl) (Nat.le_of_ble_eq_true rfl) ?_
  refine lv_iload hx hb dL_refuses_670 (lv_at hl 13 rfl) ?_
  refine lv_icmp_ne (tgt := 695) hx hb dL_refuses_672 (by decide) (fun c9 => absurd (by decide) c9) (fun _ => ?_)
  refine lv_aload_n hx hb dL_refuses_675 rfl (lv_at hl 8 rfl) ?_
  refine lv_bipush (v := 18) hx hb dL_refuses_676 (by decide) ?_
  refine lv_iconst (v := 0) hx hb dL_refuses_678 (by decide) ?_
  refine lv_iload hx hb dL_refuses_679 (lv_at hl 1 rfl) ?_
  refine lv_iconst (v := 0) hx hb dL_refuses_681 (by decide) ?_
  refine lv_iconst (v := 0) hx hb dL_refuses_682 (by decide) ?_
  refine mo_i (vx_runSW (As := [.ref (ad 0), .int 18, .int 0, .int 2147483647, .int 0, .int 0]) (rest := []) ⟨hx, hb, hml, hown, hts⟩ (t_A18_1 l hlt D cyI cyZ ad zb zo zt zm zu zr zl zf 0 2147483647 0 0 _ _ rfl (q_se_s (by decide))) (vx_cwSW 6 hts gL_refuses_L_act rfl rfl rfl (by decide +kernel) ⟨Nat.le_of_ble_eq_true rfl, Nat.le_of_ble_eq_true rfl⟩) (poS hG hz hn hP hD hS hA) rfl rfl hl.1 rfl (lv_room (Nat.le_of_ble_eq_true rfl)) dL_refuses_683 ⟨Nat.le_of_ble_eq_true rfl, Nat.le_of_ble_eq_true rfl⟩) hD hS hA (rfl) (wE.rf) (fun H locs hP hD hS => ?_)
  refine W.widen (k := 104) (n := 624) (Nat.le_of_ble_eq_true rfl) (Nat.le_of_ble_eq_true rfl) ?_
  refine lv_iload hx hb dL_refuses_686 (lv_at hl 13 rfl) ?_
  refine lv_icmp_ne (tgt := 695) hx hb dL_refuses_688 (by decide) (fun c9 => absurd (by decide) c9) (fun _ => ?_)
  refine lv_iconst (v := 1) hx hb dL_refuses_691 (by decide) ?_
  refine lv_goto (tgt := 696) hx hb dL_refuses_692 (by decide) ?_
  refine lv_istore (lv' := [(16, .int 1), (15, .int 2147483647), (14, .int 2147483647), (13, .int 2147483647), (12, .int 2147483647), (11, .int 2147483647), (10, .int 2147483647), (9, .int 2147483647), (0, .ref (ad 0)), (1, .int p2), (2, .int p3), (3, .int zl.1), (4, .int zl.2.1), (5, .int (-20001)), (6, .int (-20002)), (7, .int 2147483647), (8, .int 2)]) hx hb dL_refuses_696 hl (by decide) rfl (fun ls hl => ?_)
  refine lv_bipush (v := 15) hx hb dL_refuses_698 (by decide) ?_
  refine lv_istore (lv' := [(17, .int 15), (16, .int 1), (15, .int 2147483647), (14, .int 2147483647), (13, .int 2147483647), (12, .int 2147483647), (11, .int 2147483647), (10, .int 2147483647), (9, .int 2147483647), (0, .ref (ad 0)), (1, .int p2), (2, .int p3), (3, .int zl.1), (4, .int zl.2.1), (5, .int (-20001)), (6, .int (-20002)), (7, .int 2147483647), (8, .int 2)]) hx hb dL_refuses_700 hl (by decide) rfl (fun ls hl => ?_)
  refine lv_iload hx hb dL_refuses_702 (lv_at hl 0 rfl) ?_
  refine lv_bipush (v := 19) hx hb dL_refuses_704 (by decide) ?_
  refine lv_icmp_ge (tgt := 753) hx hb dL_refuses_706 (by decide) (fun c9 => absurd c9 (by decide)) (fun _ => ?_)
  refine lv_iload hx hb dL_refuses_709 (lv_at hl 1 rfl) ?_
  refine lv_if_eq (tgt := 744) hx hb dL_refuses_711 (by decide) (fun c9 => absurd c9 (by decide)) (fun _ => ?_)
  refine lv_aload_n hx hb dL_refuses_714 rfl (lv_at hl 9 rfl) ?_
  refine lv_iload hx hb dL_refuses_715 (lv_at hl 0 rfl) ?_
  refine lv_iload hx hb dL_refuses_717 (lv_at hl 17 rfl) ?_
  refine lv_iconst (v := 1) hx hb dL_refuses_719 (by decide) ?_
  refine lv_icmp_ne (tgt := 727) hx hb dL_refuses_720 (by decide) (fun _ => ?_) (fun c9 => absurd c9 (by decide))
  refine lv_iload hx hb dL_refuses_727 (lv_at hl 8 rfl) ?_
  refine lv_iconst (v := 1) hx hb dL_refuses_729 (by decide) ?_
  refine lv_iconst (v := 0) hx hb dL_refuses_730 (by decide) ?_
  refine lv_iconst (v := 0) hx hb dL_refuses_731 (by decide) ?_
  refine mo_i (vx_runSW (As := [.ref (ad 0), .int 15, .int 2147483647, .int 1, .int 0, .int 0]) (rest := []) ⟨hx, hb, hml, hown, hts⟩ (t_A15_1 l hlt D cyI cyZ ad zb zo zt zm zu zr zl zf 2147483647 1 0 0 _ _ rfl (q_ki (Or.inr (most_le _)))) (vx_cwSW 6 hts gL_refuses_L_act rfl rfl rfl (by decide +kernel) ⟨Nat.le_of_ble_eq_true rfl, Nat.le_of_ble_eq_true rfl⟩) (poS hG hz hn hP hD hS hA) rfl rfl hl.1 rfl (lv_room (Nat.le_of_ble_eq_true rfl)) dL_refuses_732 ⟨Nat.le_of_ble_eq_true rfl, Nat.le_of_ble_eq_true rfl⟩) hD hS hA (rfl) (wE.rf) (fun H locs hP hD hS => ?_)
  refine W.widen (k := 105) (n := 630) (Nat.le_of_ble_eq_true rfl) (Nat.le_of_ble_eq_true rfl) ?_
  refine lv_iload hx hb dL_refuses_735 (lv_at hl 14 rfl) ?_
  refine lv_icmp_ne (tgt := 744) hx hb dL_refuses_737 (by decide) (fun c9 => absurd (by decide) c9) (fun _ => ?_)
  refine lv_iconst (v := 1) hx hb dL_refuses_740 (by decide) ?_
  refine lv_goto (tgt := 745) hx hb dL_refuses_741 (by decide) ?_
  refine lv_istore (lv' := [(16, .int 1), (17, .int 15), (15, .int 2147483647), (14, .int 2147483647), (13, .int 2147483647), (12, .int 2147483647), (11, .int 2147483647), (10, .int 2147483647), (9, .int 2147483647), (0, .ref (ad 0)), (1, .int p2), (2, .int p3), (3, .int zl.1), (4, .int zl.2.1), (5, .int (-20001)), (6, .int (-20002)), (7, .int 2147483647), (8, .int 2)]) hx hb dL_refuses_745 hl (by decide) rfl (fun ls hl => ?_)
  refine lv_iinc (v := 16) (lv' := [(17, .int 16), (16, .int 1), (15, .int 2147483647), (14, .int 2147483647), (13, .int 2147483647), (12, .int 2147483647), (11, .int 2147483647), (10, .int 2147483647), (9, .int 2147483647), (0, .ref (ad 0)), (1, .int p2), (2, .int p3), (3, .int zl.1), (4, .int zl.2.1), (5, .int (-20001)), (6, .int (-20002)), (7, .int 2147483647), (8, .int 2)]) hx hb dL_refuses_747 hl (k := 1) rfl (by decide) (by decide) rfl (fun ls hl => ?_)
  refine lv_goto (tgt := 702) hx hb dL_refuses_750 (by decide) ?_
  refine lv_iload hx hb dL_refuses_702 (lv_at hl 0 rfl) ?_
  refine lv_bipush (v := 19) hx hb dL_refuses_704 (by decide) ?_
  refine lv_icmp_ge (tgt := 753) hx hb dL_refuses_706 (by decide) (fun c9 => absurd c9 (by decide)) (fun _ => ?_)
  refine lv_iload hx hb dL_refuses_709 (lv_at hl 1 rfl) ?_
  refine lv_if_eq (tgt := 744) hx hb dL_refuses_711 (by decide) (fun c9 => absurd c9 (by decide)) (fun _ => ?_)
  refine lv_aload_n hx hb dL_refuses_714 rfl (lv_at hl 9 rfl) ?_
  refine lv_iload hx hb dL_refuses_715 (lv_at hl 0 rfl) ?_
  refine lv_iload hx hb dL_refuses_717 (lv_at hl 17 rfl) ?_
  refine lv_iconst (v := 1) hx hb dL_refuses_719 (by decide) ?_
  refine lv_icmp_ne (tgt := 727) hx hb dL_refuses_720 (by decide) (fun _ => ?_) (fun c9 => absurd c9 (by decide))
  refine lv_iload hx hb dL_refuses_727 (lv_at hl 8 rfl) ?_
  refine lv_iconst (v := 1) hx hb dL_refuses_729 (by decide) ?_
  refine lv_iconst (v := 0) hx hb dL_refuses_730 (by decide) ?_
  refine lv_iconst (v := 0) hx hb dL_refuses_731 (by decide) ?_
  refine mo_i (vx_runSW (As := [.ref (ad 0), .int 16, .int 2147483647, .int 1, .int 0, .int 0]) (rest := []) ⟨hx, hb, hml, hown, hts⟩ (t_A16_1 l hlt D cyI cyZ ad zb zo zt zm zu zr zl zf 2147483647 1 0 0 _ _ rfl (q_ke (Or.inr (most_le _)))) (vx_cwSW 6 hts gL_refuses_L_act rfl rfl rfl (by decide +kernel) ⟨Nat.le_of_ble_eq_true rfl, Nat.le_of_ble_eq_true rfl⟩) (poS hG hz hn hP hD hS hA) rfl rfl hl.1 rfl (lv_room (Nat.le_of_ble_eq_true rfl)) dL_refuses_732 ⟨Nat.le_of_ble_eq_true rfl, Nat.le_of_ble_eq_true rfl⟩) hD hS hA (rfl) (wE.rf) (fun H locs hP hD hS => ?_)
  refine W.widen (k := 106) (n := 636) (Nat.le_of_ble_eq_true rfl) (Nat.le_of_ble_eq_true rfl) ?_
  refine lv_iload hx hb dL_refuses_735 (lv_at hl 14 rfl) ?_
  refine lv_icmp_ne (tgt := 744) hx hb dL_refuses_737 (by decide) (fun c9 => absurd (by decide) c9) (fun _ => ?_)
  refine lv_iconst (v := 1) hx hb dL_refuses_740 (by decide) ?_
  refine lv_goto (tgt := 745) hx hb dL_refuses_741 (by decide) ?_
  refine lv_istore (lv' := [(16, .int 1), (17, .int 16), (15, .int 2147483647), (14, .int 2147483647), (13, .int 2147483647), (12, .int 2147483647), (11, .int 2147483647), (10, .int 2147483647), (9, .int 2147483647), (0, .ref (ad 0)), (1, .int p2), (2, .int p3), (3, .int zl.1), (4, .int zl.2.1), (5, .int (-20001)), (6, .int (-20002)), (7, .int 2147483647), (8, .int 2)]) hx hb dL_refuses_745 hl (by decide) rfl (fun ls hl => ?_)
  refine lv_iinc (v := 17) (lv' := [(17, .int 17), (16, .int 1), (15, .int 2147483647), (14, .int 2147483647), (13, .int 2147483647), (12, .int 2147483647), (11, .int 2147483647), (10, .int 2147483647), (9, .int 2147483647), (0, .ref (ad 0)), (1, .int p2), (2, .int p3), (3, .int zl.1), (4, .int zl.2.1), (5, .int (-20001)), (6, .int (-20002)), (7, .int 2147483647), (8, .int 2)]) hx hb dL_refuses_747 hl (k := 1) rfl (by decide) (by decide) rfl (fun ls hl => ?_)
  refine lv_goto (tgt := 702) hx hb dL_refuses_750 (by decide) ?_
  refine lv_iload hx hb dL_refuses_702 (lv_at hl 0 rfl) ?_
  refine lv_bipush (v := 19) hx hb dL_refuses_704 (by decide) ?_
  refine lv_icmp_ge (tgt := 753) hx hb dL_refuses_706 (by decide) (fun c9 => absurd c9 (by decide)) (fun _ => ?_)
  refine lv_iload hx hb dL_refuses_709 (lv_at hl 1 rfl) ?_
  refine lv_if_eq (tgt := 744) hx hb dL_refuses_711 (by decide) (fun c9 => absurd c9 (by decide)) (fun _ => ?_)
  refine lv_aload_n hx hb dL_refuses_714 rfl (lv_at hl 9 rfl) ?_
  refine lv_iload hx hb dL_refuses_715 (lv_at hl 0 rfl) ?_
  refine lv_iload hx hb dL_refuses_717 (lv_at hl 17 rfl) ?_
  refine lv_iconst (v := 1) hx hb dL_refuses_719 (by decide) ?_
  refine lv_icmp_ne (tgt := 727) hx hb dL_refuses_720 (by decide) (fun _ => ?_) (fun c9 => absurd c9 (by decide))
  refine lv_iload hx hb dL_refuses_727 (lv_at hl 8 rfl) ?_
  refine lv_iconst (v := 1) hx hb dL_refuses_729 (by decide) ?_
  refine lv_iconst (v := 0) hx hb dL_refuses_730 (by decide) ?_
  refine lv_iconst (v := 0) hx hb dL_refuses_731 (by decide) ?_
  refine mo_i (vx_runSW (As := [.ref (ad 0), .int 17, .int 2147483647, .int 1, .int 0, .int 0]) (rest := []) ⟨hx, hb, hml, hown, hts⟩ (t_A17_1 l hlt D cyI cyZ ad zb zo zt zm zu zr zl zf 2147483647 1 0 0 _ _ rfl (q_co (Or.inr (most_le _)))) (vx_cwSW 6 hts gL_refuses_L_act rfl rfl rfl (by decide +kernel) ⟨Nat.le_of_ble_eq_true rfl, Nat.le_of_ble_eq_true rfl⟩) (poS hG hz hn hP hD hS hA) rfl rfl hl.1 rfl (lv_room (Nat.le_of_ble_eq_true rfl)) dL_refuses_732 ⟨Nat.le_of_ble_eq_true rfl, Nat.le_of_ble_eq_true rfl⟩) hD hS hA (rfl) (wE.rf) (fun H locs hP hD hS => ?_)
  refine W.widen (k := 107) (n := 642) (Nat.le_of_ble_eq_true rfl) (Nat.le_of_ble_eq_true rfl) ?_
  refine lv_iload hx hb dL_refuses_735 (lv_at hl 14 rfl) ?_
  refine lv_icmp_ne (tgt := 744) hx hb dL_refuses_737 (by decide) (fun c9 => absurd (by decide) c9) (fun _ => ?_)
  refine lv_iconst (v := 1) hx hb dL_refuses_740 (by decide) ?_
  refine lv_goto (tgt := 745) hx hb dL_refuses_741 (by decide) ?_
  refine lv_istore (lv' := [(16, .int 1), (17, .int 17), (15, .int 2147483647), (14, .int 2147483647), (13, .int 2147483647), (12, .int 2147483647), (11, .int 2147483647), (10, .int 2147483647), (9, .int 2147483647), (0, .ref (ad 0)), (1, .int p2), (2, .int p3), (3, .int zl.1), (4, .int zl.2.1), (5, .int (-20001)), (6, .int (-20002)), (7, .int 2147483647), (8, .int 2)]) hx hb dL_refuses_745 hl (by decide) rfl (fun ls hl => ?_)
  refine lv_iinc (v := 18) (lv' := [(17, .int 18), (16, .int 1), (15, .int 2147483647), (14, .int 2147483647), (13, .int 2147483647), (12, .int 2147483647), (11, .int 2147483647), (10, .int 2147483647), (9, .int 2147483647), (0, .ref (ad 0)), (1, .int p2), (2, .int p3), (3, .int zl.1), (4, .int zl.2.1), (5, .int (-20001)), (6, .int (-20002)), (7, .int 2147483647), (8, .int 2)]) hx hb dL_refuses_747 hl (k := 1) rfl (by decide) (by decide) rfl (fun ls hl => ?_)
  refine lv_goto (tgt := 702) hx hb dL_refuses_750 (by decide) ?_
  refine lv_iload hx hb dL_refuses_702 (lv_at hl 0 rfl) ?_
  refine lv_bipush (v := 19) hx hb dL_refuses_704 (by decide) ?_
  refine lv_icmp_ge (tgt := 753) hx hb dL_refuses_706 (by decide) (fun c9 => absurd c9 (by decide)) (fun _ => ?_)
  refine lv_iload hx hb dL_refuses_709 (lv_at hl 1 rfl) ?_
  refine lv_if_eq (tgt := 744) hx hb dL_refuses_711 (by decide) (fun c9 => absurd c9 (by decide)) (fun _ => ?_)
  refine lv_aload_n hx hb dL_refuses_714 rfl (lv_at hl 9 rfl) ?_
  refine lv_iload hx hb dL_refuses_715 (lv_at hl 0 rfl) ?_
  refine lv_iload hx hb dL_refuses_717 (lv_at hl 17 rfl) ?_
  refine lv_iconst (v := 1) hx hb dL_refuses_719 (by decide) ?_
  refine lv_icmp_ne (tgt := 727) hx hb dL_refuses_720 (by decide) (fun _ => ?_) (fun c9 => absurd c9 (by decide))
  refine lv_iload hx hb dL_refuses_727 (lv_at hl 8 rfl) ?_
  refine lv_iconst (v := 1) hx hb dL_refuses_729 (by decide) ?_
  refine lv_iconst (v := 0) hx hb dL_refuses_730 (by decide) ?_
  refine lv_iconst (v := 0) hx hb dL_refuses_731 (by decide) ?_
  refine mo_i (vx_runSW (As := [.ref (ad 0), .int 18, .int 2147483647, .int 1, .int 0, .int 0]) (rest := []) ⟨hx, hb, hml, hown, hts⟩ (t_A18_1 l hlt D cyI cyZ ad zb zo zt zm zu zr zl zf 2147483647 1 0 0 _ _ rfl (q_se (Or.inr (most_le _)))) (vx_cwSW 6 hts gL_refuses_L_act rfl rfl rfl (by decide +kernel) ⟨Nat.le_of_ble_eq_true rfl, Nat.le_of_ble_eq_true rfl⟩) (poS hG hz hn hP hD hS hA) rfl rfl hl.1 rfl (lv_room (Nat.le_of_ble_eq_true rfl)) dL_refuses_732 ⟨Nat.le_of_ble_eq_true rfl, Nat.le_of_ble_eq_true rfl⟩) hD hS hA (rfl) (wE.rf) (fun H locs hP hD hS => ?_)
  refine W.widen (k := 108) (n := 648) (Nat.le_of_ble_eq_true rfl) (Nat.le_of_ble_eq_true rfl) ?_
  refine lv_iload hx hb dL_refuses_735 (lv_at hl 14 rfl) ?_
  refine lv_icmp_ne (tgt := 744) hx hb dL_refuses_737 (by decide) (fun c9 => absurd (by decide) c9) (fun _ => ?_)
  refine lv_iconst (v := 1) hx hb dL_refuses_740 (by decide) ?_
  refine lv_goto (tgt := 745) hx hb dL_refuses_741 (by decide) ?_
  refine lv_istore (lv' := [(16, .int 1), (17, .int 18), (15, .int 2147483647), (14, .int 2147483647), (13, .int 2147483647), (12, .int 2147483647), (11, .int 2147483647), (10, .int 2147483647), (9, .int 2147483647), (0, .ref (ad 0)), (1, .int p2), (2, .int p3), (3, .int zl.1), (4, .int zl.2.1), (5, .int (-20001)), (6, .int (-20002)), (7, .int 2147483647), (8, .int 2)]) hx hb dL_refuses_745 hl (by decide) rfl (fun ls hl => ?_)
  refine lv_iinc (v := 19) (lv' := [(17, .int 19), (16, .int 1), (15, .int 2147483647), (14, .int 2147483647), (13, .int 2147483647), (12, .int 2147483647), (11, .int 2147483647), (10, .int 2147483647), (9, .int 2147483647), (0, .ref (ad 0)), (1, .int p2), (2, .int p3), (3, .int zl.1), (4, .int zl.2.1), (5, .int (-20001)), (6, .int (-20002)), (7, .int 2147483647), (8, .int 2)]) hx hb dL_refuses_747 hl (k := 1) rfl (by decide) (by decide) rfl (fun ls hl => ?_)
  refine lv_goto (tgt := 702) hx hb dL_refuses_750 (by decide) ?_
  refine lv_iload hx hb dL_refuses_702 (lv_at hl 0 rfl) ?_
  refine lv_bipush (v := 19) hx hb dL_refuses_704 (by decide) ?_
  refine lv_icmp_ge (tgt := 753) hx hb dL_refuses_706 (by decide) (fun _ => ?_) (fun c9 => absurd (by decide) c9)
  refine lv_iload hx hb dL_refuses_753 (lv_at hl 1 rfl) ?_
  refine lv_if_ne (tgt := 760) hx hb dL_refuses_755 (by decide) (fun _ => ?_) (fun c9 => absurd c9 (by decide))
  refine lv_iinc (v := 3) (lv' := [(8, .int 3), (17, .int 19), (16, .int 1), (15, .int 2147483647), (14, .int 2147483647), (13, .int 2147483647), (12, .int 2147483647), (11, .int 2147483647), (10, .int 2147483647), (9, .int 2147483647), (0, .ref (ad 0)), (1, .int p2), (2, .int p3), (3, .int zl.1), (4, .int zl.2.1), (5, .int (-20001)), (6, .int (-20002)), (7, .int 2147483647)]) hx hb dL_refuses_760 hl (k := 17) rfl (by decide) (by decide) rfl (fun ls hl => ?_)
  refine lv_goto (tgt := 28) hx hb dL_refuses_763 (by decide) ?_
  exact KK H locs ls hP hD hS (lv_sub hl [10, 11, 12, 13, 14, 15, 16, 17, 0] rfl)
set_option maxHeartbeats 8000000 in
set_option maxRecDepth 100000 in
theorem rf_3 {p : Program} {l : Launch} {e : Env} {s : State} {m : MethodId} {args : Array Value} {below : List Frame} {meth : Method} {c : Code} {Q : State → Prop} (hlt : l.stackTraces = false) {D : va_G} {cyI cyZ : ClassId} {ad : Nat → Nat} {zb : Tr} {zo : Tr} {zt : Tr} {zm : Tr} {zu : Nat → Int32} {zr : Nat → Int32} {zl : Lr} {zf : Int32} {p2 p3 : Int32} {A : Nat → Prop} (hr9 : ¬ f_X1_hasRow zo p2 = 0) (hc9 : ¬ f_X1_hasColumn zo p3 = 0) (hx : p.tables.exec = Jvm.exec) (hb : c.code = cL_refuses) (hml : c.maxLocals = 18) (hown : s.vm.findClass RL = some m.cls) (hts : ∀ w ∈ wsL_refuses, w.before args s = true) (hG : gP D cyI cyZ s) (hz : zqA A s s.heap) (hn : zn s) (hA : ∀ q : Nat, s.heap.size ≤ q → A q)
    (KK : ∀ (H : Heap) (locs : List Loc) (ls : Array Slot), va_P D vwCl (wZ cyI cyZ ad zb zo zt zm zu zr zl zf) H → va_D A (wZ cyI cyZ ad zb zo zt zm zu zr zl zf) → va_S A s.heap H locs → lv_has ls 18 [(0, .ref (ad 0)), (1, .int p2), (2, .int p3), (3, .int zl.1), (4, .int zl.2.1), (5, .int (-20001)), (6, .int (-20002)), (7, .int 2147483647), (8, .int 4)] → W p l e (headSpec wsL_refuses ({ frames := 10, cells := 144, slots := 864, locals := 194 } : Room)).room s m args below meth c H locs 144 864 Q (F0 m 28 ls [])) : ∀ (H : Heap) (locs : List Loc) (ls : Array Slot), va_P D vwCl (wZ cyI cyZ ad zb zo zt zm zu zr zl zf) H → va_D A (wZ cyI cyZ ad zb zo zt zm zu zr zl zf) → va_S A s.heap H locs → lv_has ls 18 [(0, .ref (ad 0)), (1, .int p2), (2, .int p3), (3, .int zl.1), (4, .int zl.2.1), (5, .int (-20001)), (6, .int (-20002)), (7, .int 2147483647), (8, .int 3)] → W p l e (headSpec wsL_refuses ({ frames := 10, cells := 144, slots := 864, locals := 194 } : Room)).room s m args below meth c H locs 108 648 Q (F0 m 28 ls []) := by
  intro H locs ls hP hD hS hl
  refine lv_iload hx hb dL_refuses_28 (lv_at hl 8 rfl) ?_
  refine lv_iconst (v := 4) hx hb dL_refuses_30 (by decide) ?_
  refine lv_icmp_ge (tgt := 766) hx hb dL_refuses_31 (by decide) (fun c9 => absurd c9 (by decide)) (fun _ => ?_)
  refine lv_iload hx hb dL_refuses_34 (lv_at hl 8 rfl) ?_
  refine lv_if_ne (tgt := 43) hx hb dL_refuses_36 (by decide) (fun _ => ?_) (fun c9 => absurd c9 (by decide))
  refine lv_iload hx hb dL_refuses_43 (lv_at hl 8 rfl) ?_
  refine lv_iconst (v := 2) hx hb dL_refuses_45 (by decide) ?_
  refine lv_icmp_ne (tgt := 54) hx hb dL_refuses_46 (by decide) (fun _ => ?_) (fun c9 => absurd c9 (by decide))
  refine lv_iload hx hb dL_refuses_54 (lv_at hl 7 rfl) ?_
  refine lv_ineg hx hb dL_refuses_56 ?_
  refine W.eq (g2 := F0 m 57 ls (.int (-2147483647) :: [])) (congrArg (fun z => F0 m 57 ls (.int z :: [])) (show -2147483647 = (-2147483647) by decide)) ?_
  refine lv_iconst (v := 1) hx hb dL_refuses_57 (by decide) ?_
  refine lv_isub hx hb dL_refuses_58 ?_
  refine W.eq (g2 := F0 m 59 ls (.int (-2147483648) :: [])) (congrArg (fun z => F0 m 59 ls (.int z :: [])) (show (-2147483647) - 1 = (-2147483648) by decide)) ?_
  refine lv_istore (lv' := [(9, .int (-2147483648)), (0, .ref (ad 0)), (1, .int p2), (2, .int p3), (3, .int zl.1), (4, .int zl.2.1), (5, .int (-20001)), (6, .int (-20002)), (7, .int 2147483647), (8, .int 3)]) hx hb dL_refuses_59 hl (by decide) rfl (fun ls hl => ?_)
  refine lv_iload hx hb dL_refuses_61 (lv_at hl 9 rfl) ?_
  refine lv_iconst (v := 1) hx hb dL_refuses_63 (by decide) ?_
  refine lv_icmp_ne (tgt := 71) hx hb dL_refuses_64 (by decide) (fun _ => ?_) (fun c9 => absurd c9 (by decide))
  refine lv_iload hx hb dL_refuses_71 (lv_at hl 0 rfl) ?_
  refine lv_istore (lv' := [(10, .int (-2147483648)), (9, .int (-2147483648)), (0, .ref (ad 0)), (1, .int p2), (2, .int p3), (3, .int zl.1), (4, .int zl.2.1), (5, .int (-20001)), (6, .int (-20002)), (7, .int 2147483647), (8, .int 3)]) hx hb dL_refuses_73 hl (by decide) rfl (fun ls hl => ?_)
  refine lv_iload hx hb dL_refuses_75 (lv_at hl 10 rfl) ?_
  refine lv_iconst (v := 1) hx hb dL_refuses_77 (by decide) ?_
  refine lv_icmp_ne (tgt := 85) hx hb dL_refuses_78 (by decide) (fun _ => ?_) (fun c9 => absurd c9 (by decide))
  refine lv_iload hx hb dL_refuses_85 (lv_at hl 1 rfl) ?_
  refine lv_istore (lv' := [(11, .int (-2147483648)), (10, .int (-2147483648)), (9, .int (-2147483648)), (0, .ref (ad 0)), (1, .int p2), (2, .int p3), (3, .int zl.1), (4, .int zl.2.1), (5, .int (-20001)), (6, .int (-20002)), (7, .int 2147483647), (8, .int 3)]) hx hb dL_refuses_87 hl (by decide) rfl (fun ls hl => ?_)
  refine lv_iload hx hb dL_refuses_89 (lv_at hl 11 rfl) ?_
  refine lv_iconst (v := 1) hx hb dL_refuses_91 (by decide) ?_
  refine lv_icmp_ne (tgt := 100) hx hb dL_refuses_92 (by decide) (fun _ => ?_) (fun c9 => absurd c9 (by decide))
  refine lv_iload hx hb dL_refuses_100 (lv_at hl 2 rfl) ?_
  refine lv_istore (lv' := [(12, .int (-2147483648)), (11, .int (-2147483648)), (10, .int (-2147483648)), (9, .int (-2147483648)), (0, .ref (ad 0)), (1, .int p2), (2, .int p3), (3, .int zl.1), (4, .int zl.2.1), (5, .int (-20001)), (6, .int (-20002)), (7, .int 2147483647), (8, .int 3)]) hx hb dL_refuses_102 hl (by decide) rfl (fun ls hl => ?_)
  refine lv_iload hx hb dL_refuses_104 (lv_at hl 12 rfl) ?_
  refine lv_iconst (v := 1) hx hb dL_refuses_106 (by decide) ?_
  refine lv_icmp_ne (tgt := 115) hx hb dL_refuses_107 (by decide) (fun _ => ?_) (fun c9 => absurd c9 (by decide))
  refine lv_iload hx hb dL_refuses_115 (lv_at hl 3 rfl) ?_
  refine lv_istore (lv' := [(13, .int (-2147483648)), (12, .int (-2147483648)), (11, .int (-2147483648)), (10, .int (-2147483648)), (9, .int (-2147483648)), (0, .ref (ad 0)), (1, .int p2), (2, .int p3), (3, .int zl.1), (4, .int zl.2.1), (5, .int (-20001)), (6, .int (-20002)), (7, .int 2147483647), (8, .int 3)]) hx hb dL_refuses_117 hl (by decide) rfl (fun ls hl => ?_)
  refine lv_iload hx hb dL_refuses_119 (lv_at hl 13 rfl) ?_
  refine lv_iconst (v := 1) hx hb dL_refuses_121 (by decide) ?_
  refine lv_icmp_ne (tgt := 130) hx hb dL_refuses_122 (by decide) (fun _ => ?_) (fun c9 => absurd c9 (by decide))
  refine lv_iload hx hb dL_refuses_130 (lv_at hl 4 rfl) ?_
  refine lv_istore (lv' := [(14, .int (-2147483648)), (13, .int (-2147483648)), (12, .int (-2147483648)), (11, .int (-2147483648)), (10, .int (-2147483648)), (9, .int (-2147483648)), (0, .ref (ad 0)), (1, .int p2), (2, .int p3), (3, .int zl.1), (4, .int zl.2.1), (5, .int (-20001)), (6, .int (-20002)), (7, .int 2147483647), (8, .int 3)]) hx hb dL_refuses_132 hl (by decide) rfl (fun ls hl => ?_)
  refine lv_iload hx hb dL_refuses_134 (lv_at hl 14 rfl) ?_
  refine lv_if_ne (tgt := 143) hx hb dL_refuses_136 (by decide) (fun _ => ?_) (fun c9 => absurd c9 (by decide))
  refine lv_iload hx hb dL_refuses_143 (lv_at hl 4 rfl) ?_
  refine lv_istore (lv' := [(15, .int (-2147483648)), (14, .int (-2147483648)), (13, .int (-2147483648)), (12, .int (-2147483648)), (11, .int (-2147483648)), (10, .int (-2147483648)), (9, .int (-2147483648)), (0, .ref (ad 0)), (1, .int p2), (2, .int p3), (3, .int zl.1), (4, .int zl.2.1), (5, .int (-20001)), (6, .int (-20002)), (7, .int 2147483647), (8, .int 3)]) hx hb dL_refuses_145 hl (by decide) rfl (fun ls hl => ?_)
  refine lv_aload_n hx hb dL_refuses_147 rfl (lv_at hl 7 rfl) ?_
  refine lv_iconst (v := 0) hx hb dL_refuses_148 (by decide) ?_
  refine lv_iload hx hb dL_refuses_149 (lv_at hl 5 rfl) ?_
  refine lv_iconst (v := 0) hx hb dL_refuses_151 (by decide) ?_
  refine lv_iconst (v := 0) hx hb dL_refuses_152 (by decide) ?_
  refine lv_iconst (v := 0) hx hb dL_refuses_153 (by decide) ?_
  refine mo_i (vx_runSW (As := [.ref (ad 0), .int 0, .int (-2147483648), .int 0, .int 0, .int 0]) (rest := []) ⟨hx, hb, hml, hown, hts⟩ (t_A0_1 l hlt D cyI cyZ ad zb zo zt zm zu zr zl zf (-2147483648) 0 0 0 _ _ rfl (q_ac_t (by decide))) (vx_cwSW 6 hts gL_refuses_L_act rfl rfl rfl (by decide +kernel) ⟨Nat.le_of_ble_eq_true rfl, Nat.le_of_ble_eq_true rfl⟩) (poS hG hz hn hP hD hS hA) rfl rfl hl.1 rfl (lv_room (Nat.le_of_ble_eq_true rfl)) dL_refuses_154 ⟨Nat.le_of_ble_eq_true rfl, Nat.le_of_ble_eq_true rfl⟩) hD hS hA (rfl) (wE.rf) (fun H locs hP hD hS => ?_)
  refine W.widen (k := 109) (n := 654) (Nat.le_of_ble_eq_true rfl) (Nat.le_of_ble_eq_true rfl) ?_
  refine lv_iload hx hb dL_refuses_157 (lv_at hl 12 rfl) ?_
  refine lv_icmp_ne (tgt := 361) hx hb dL_refuses_159 (by decide) (fun c9 => absurd (by decide) c9) (fun _ => ?_)
  refine lv_aload_n hx hb dL_refuses_162 rfl (lv_at hl 7 rfl) ?_
  refine lv_iconst (v := 0) hx hb dL_refuses_163 (by decide) ?_
  refine lv_iconst (v := 0) hx hb dL_refuses_164 (by decide) ?_
  refine lv_iload hx hb dL_refuses_165 (lv_at hl 3 rfl) ?_
  refine lv_iconst (v := (-1)) hx hb dL_refuses_167 (by decide) ?_
  refine lv_iconst (v := 0) hx hb dL_refuses_168 (by decide) ?_
  refine mo_i (vx_runSW (As := [.ref (ad 0), .int 0, .int 0, .int (-2147483648), .int (-1), .int 0]) (rest := []) ⟨hx, hb, hml, hown, hts⟩ (t_A0_1 l hlt D cyI cyZ ad zb zo zt zm zu zr zl zf 0 (-2147483648) (-1) 0 _ _ rfl (q_ac_c (by decide))) (vx_cwSW 6 hts gL_refuses_L_act rfl rfl rfl (by decide +kernel) ⟨Nat.le_of_ble_eq_true rfl, Nat.le_of_ble_eq_true rfl⟩) (poS hG hz hn hP hD hS hA) rfl rfl hl.1 rfl (lv_room (Nat.le_of_ble_eq_true rfl)) dL_refuses_169 ⟨Nat.le_of_ble_eq_true rfl, Nat.le_of_ble_eq_true rfl⟩) hD hS hA (rfl) (wE.rf) (fun H locs hP hD hS => ?_)
  refine W.widen (k := 110) (n := 660) (Nat.le_of_ble_eq_true rfl) (Nat.le_of_ble_eq_true rfl) ?_
  refine lv_iload hx hb dL_refuses_172 (lv_at hl 12 rfl) ?_
  refine lv_icmp_ne (tgt := 361) hx hb dL_refuses_174 (by decide) (fun c9 => absurd (by decide) c9) (fun _ => ?_)
  refine lv_aload_n hx hb dL_refuses_177 rfl (lv_at hl 7 rfl) ?_
  refine lv_iconst (v := 0) hx hb dL_refuses_178 (by decide) ?_
  refine lv_iconst (v := 1) hx hb dL_refuses_179 (by decide) ?_
  refine lv_iload_n hx hb dL_refuses_180 rfl (lv_at hl 9 rfl) ?_
  refine lv_iload hx hb dL_refuses_181 (lv_at hl 1 rfl) ?_
  refine lv_iconst (v := 0) hx hb dL_refuses_183 (by decide) ?_
  refine mo_i (vx_runSW (As := [.ref (ad 0), .int 0, .int 1, .int p3, .int (-2147483648), .int 0]) (rest := []) ⟨hx, hb, hml, hown, hts⟩ (t_A0_2 l hlt D cyI cyZ ad zb zo zt zm zu zr zl zf 1 p3 (-2147483648) 0 _ _ rfl (q_ac_n hc9 (by decide))) (vx_cwSW 6 hts gL_refuses_L_act rfl rfl rfl (by decide +kernel) ⟨Nat.le_of_ble_eq_true rfl, Nat.le_of_ble_eq_true rfl⟩) (poS hG hz hn hP hD hS hA) rfl rfl hl.1 rfl (lv_room (Nat.le_of_ble_eq_true rfl)) dL_refuses_184 ⟨Nat.le_of_ble_eq_true rfl, Nat.le_of_ble_eq_true rfl⟩) hD hS hA (rfl) (wE.rf) (fun H locs hP hD hS => ?_)
  refine W.widen (k := 111) (n := 666) (Nat.le_of_ble_eq_true rfl) (Nat.le_of_ble_eq_true rfl) ?_
  refine lv_iload hx hb dL_refuses_187 (lv_at hl 13 rfl) ?_
  refine lv_icmp_ne (tgt := 361) hx hb dL_refuses_189 (by decide) (fun c9 => absurd (by decide) c9) (fun _ => ?_)
  refine lv_aload_n hx hb dL_refuses_192 rfl (lv_at hl 7 rfl) ?_
  refine lv_iconst (v := 0) hx hb dL_refuses_193 (by decide) ?_
  refine lv_iconst (v := 1) hx hb dL_refuses_194 (by decide) ?_
  refine lv_iload_n hx hb dL_refuses_195 rfl (lv_at hl 9 rfl) ?_
  refine lv_iconst (v := 5) hx hb dL_refuses_196 (by decide) ?_
  refine lv_iconst (v := 0) hx hb dL_refuses_197 (by decide) ?_
  refine mo_i (vx_runSW (As := [.ref (ad 0), .int 0, .int 1, .int p3, .int 5, .int 0]) (rest := []) ⟨hx, hb, hml, hown, hts⟩ (t_A0_3 l hlt D cyI cyZ ad zb zo zt zm zu zr zl zf 1 p3 5 0 _ _ rfl (q_ac_s hc9)) (vx_cwSW 6 hts gL_refuses_L_act rfl rfl rfl (by decide +kernel) ⟨Nat.le_of_ble_eq_true rfl, Nat.le_of_ble_eq_true rfl⟩) (poS hG hz hn hP hD hS hA) rfl rfl hl.1 rfl (lv_room (Nat.le_of_ble_eq_true rfl)) dL_refuses_198 ⟨Nat.le_of_ble_eq_true rfl, Nat.le_of_ble_eq_true rfl⟩) hD hS hA (rfl) (wE.rf) (fun H locs hP hD hS => ?_)
  refine W.widen (k := 112) (n := 672) (Nat.le_of_ble_eq_true rfl) (Nat.le_of_ble_eq_true rfl) ?_
  refine lv_sipush (v := (-20003)) hx hb dL_refuses_201 (by decide) ?_
  refine lv_icmp_ne (tgt := 361) hx hb dL_refuses_204 (by decide) (fun c9 => absurd (by decide) c9) (fun _ => ?_)
  refine lv_aload_n hx hb dL_refuses_207 rfl (lv_at hl 7 rfl) ?_
  refine lv_iconst (v := 1) hx hb dL_refuses_208 (by decide) ?_
  refine lv_iload hx hb dL_refuses_209 (lv_at hl 5 rfl) ?_
  refine lv_iload_n hx hb dL_refuses_211 rfl (lv_at hl 9 rfl) ?_
  refine lv_iconst (v := 0) hx hb dL_refuses_212 (by decide) ?_
  refine lv_iconst (v := 0) hx hb dL_refuses_213 (by decide) ?_
  refine mo_i (vx_runSW (As := [.ref (ad 0), .int 1, .int (-2147483648), .int p3, .int 0, .int 0]) (rest := []) ⟨hx, hb, hml, hown, hts⟩ (t_A1_1 l hlt D cyI cyZ ad zb zo zt zm zu zr zl zf (-2147483648) p3 0 0 _ _ rfl (q_dc_t (by decide))) (vx_cwSW 6 hts gL_refuses_L_act rfl rfl rfl (by decide +kernel) ⟨Nat.le_of_ble_eq_true rfl, Nat.le_of_ble_eq_true rfl⟩) (poS hG hz hn hP hD hS hA) rfl rfl hl.1 rfl (lv_room (Nat.le_of_ble_eq_true rfl)) dL_refuses_214 ⟨Nat.le_of_ble_eq_true rfl, Nat.le_of_ble_eq_true rfl⟩) hD hS hA (rfl) (wE.rf) (fun H locs hP hD hS => ?_)
  refine W.widen (k := 113) (n := 678) (Nat.le_of_ble_eq_true rfl) (Nat.le_of_ble_eq_true rfl) ?_
  refine lv_iload hx hb dL_refuses_217 (lv_at hl 12 rfl) ?_
  refine lv_icmp_ne (tgt := 361) hx hb dL_refuses_219 (by decide) (fun c9 => absurd (by decide) c9) (fun _ => ?_)
  refine lv_aload_n hx hb dL_refuses_222 rfl (lv_at hl 7 rfl) ?_
  refine lv_iconst (v := 1) hx hb dL_refuses_223 (by decide) ?_
  refine lv_iconst (v := 1) hx hb dL_refuses_224 (by decide) ?_
  refine lv_iload hx hb dL_refuses_225 (lv_at hl 3 rfl) ?_
  refine lv_iconst (v := 0) hx hb dL_refuses_227 (by decide) ?_
  refine lv_iconst (v := 0) hx hb dL_refuses_228 (by decide) ?_
  refine mo_i (vx_runSW (As := [.ref (ad 0), .int 1, .int 1, .int (-2147483648), .int 0, .int 0]) (rest := []) ⟨hx, hb, hml, hown, hts⟩ (t_A1_1 l hlt D cyI cyZ ad zb zo zt zm zu zr zl zf 1 (-2147483648) 0 0 _ _ rfl (q_dc_c (by decide))) (vx_cwSW 6 hts gL_refuses_L_act rfl rfl rfl (by decide +kernel) ⟨Nat.le_of_ble_eq_true rfl, Nat.le_of_ble_eq_true rfl⟩) (poS hG hz hn hP hD hS hA) rfl rfl hl.1 rfl (lv_room (Nat.le_of_ble_eq_true rfl)) dL_refuses_229 ⟨Nat.le_of_ble_eq_true rfl, Nat.le_of_ble_eq_true rfl⟩) hD hS hA (rfl) (wE.rf) (fun H locs hP hD hS => ?_)
  refine W.widen (k := 114) (n := 684) (Nat.le_of_ble_eq_true rfl) (Nat.le_of_ble_eq_true rfl) ?_
  refine lv_iload hx hb dL_refuses_232 (lv_at hl 12 rfl) ?_
  refine lv_icmp_ne (tgt := 361) hx hb dL_refuses_234 (by decide) (fun c9 => absurd (by decide) c9) (fun _ => ?_)
  refine lv_aload_n hx hb dL_refuses_237 rfl (lv_at hl 7 rfl) ?_
  refine lv_iconst (v := 2) hx hb dL_refuses_238 (by decide) ?_
  refine lv_iload hx hb dL_refuses_239 (lv_at hl 5 rfl) ?_
  refine lv_iload_n hx hb dL_refuses_241 rfl (lv_at hl 9 rfl) ?_
  refine lv_iconst (v := 0) hx hb dL_refuses_242 (by decide) ?_
  refine lv_iconst (v := 0) hx hb dL_refuses_243 (by decide) ?_
  refine mo_i (vx_runSW (As := [.ref (ad 0), .int 2, .int (-2147483648), .int p3, .int 0, .int 0]) (rest := []) ⟨hx, hb, hml, hown, hts⟩ (t_A2_1 l hlt D cyI cyZ ad zb zo zt zm zu zr zl zf (-2147483648) p3 0 0 _ _ rfl (q_rn_t (by decide))) (vx_cwSW 6 hts gL_refuses_L_act rfl rfl rfl (by decide +kernel) ⟨Nat.le_of_ble_eq_true rfl, Nat.le_of_ble_eq_true rfl⟩) (poS hG hz hn hP hD hS hA) rfl rfl hl.1 rfl (lv_room (Nat.le_of_ble_eq_true rfl)) dL_refuses_244 ⟨Nat.le_of_ble_eq_true rfl, Nat.le_of_ble_eq_true rfl⟩) hD hS hA (rfl) (wE.rf) (fun H locs hP hD hS => ?_)
  refine W.widen (k := 115) (n := 690) (Nat.le_of_ble_eq_true rfl) (Nat.le_of_ble_eq_true rfl) ?_
  refine lv_iload hx hb dL_refuses_247 (lv_at hl 12 rfl) ?_
  refine lv_icmp_ne (tgt := 361) hx hb dL_refuses_249 (by decide) (fun c9 => absurd (by decide) c9) (fun _ => ?_)
  refine lv_aload_n hx hb dL_refuses_252 rfl (lv_at hl 7 rfl) ?_
  refine lv_iconst (v := 2) hx hb dL_refuses_253 (by decide) ?_
  refine lv_iconst (v := 1) hx hb dL_refuses_254 (by decide) ?_
  refine lv_iload hx hb dL_refuses_255 (lv_at hl 3 rfl) ?_
  refine lv_iconst (v := (-1)) hx hb dL_refuses_257 (by decide) ?_
  refine lv_iconst (v := 0) hx hb dL_refuses_258 (by decide) ?_
  refine mo_i (vx_runSW (As := [.ref (ad 0), .int 2, .int 1, .int (-2147483648), .int (-1), .int 0]) (rest := []) ⟨hx, hb, hml, hown, hts⟩ (t_A2_1 l hlt D cyI cyZ ad zb zo zt zm zu zr zl zf 1 (-2147483648) (-1) 0 _ _ rfl (q_rn_c (by decide))) (vx_cwSW 6 hts gL_refuses_L_act rfl rfl rfl (by decide +kernel) ⟨Nat.le_of_ble_eq_true rfl, Nat.le_of_ble_eq_true rfl⟩) (poS hG hz hn hP hD hS hA) rfl rfl hl.1 rfl (lv_room (Nat.le_of_ble_eq_true rfl)) dL_refuses_259 ⟨Nat.le_of_ble_eq_true rfl, Nat.le_of_ble_eq_true rfl⟩) hD hS hA (rfl) (wE.rf) (fun H locs hP hD hS => ?_)
  refine W.widen (k := 116) (n := 696) (Nat.le_of_ble_eq_true rfl) (Nat.le_of_ble_eq_true rfl) ?_
  refine lv_iload hx hb dL_refuses_262 (lv_at hl 12 rfl) ?_
  refine lv_icmp_ne (tgt := 361) hx hb dL_refuses_264 (by decide) (fun c9 => absurd (by decide) c9) (fun _ => ?_)
  refine lv_aload_n hx hb dL_refuses_267 rfl (lv_at hl 7 rfl) ?_
  refine lv_iconst (v := 2) hx hb dL_refuses_268 (by decide) ?_
  refine lv_iconst (v := 1) hx hb dL_refuses_269 (by decide) ?_
  refine lv_iload_n hx hb dL_refuses_270 rfl (lv_at hl 9 rfl) ?_
  refine lv_iload hx hb dL_refuses_271 (lv_at hl 1 rfl) ?_
  refine lv_iconst (v := 0) hx hb dL_refuses_273 (by decide) ?_
  refine mo_i (vx_runSW (As := [.ref (ad 0), .int 2, .int 1, .int p3, .int (-2147483648), .int 0]) (rest := []) ⟨hx, hb, hml, hown, hts⟩ (t_A2_2 l hlt D cyI cyZ ad zb zo zt zm zu zr zl zf 1 p3 (-2147483648) 0 _ _ rfl (q_rn_n hc9 (by decide))) (vx_cwSW 6 hts gL_refuses_L_act rfl rfl rfl (by decide +kernel) ⟨Nat.le_of_ble_eq_true rfl, Nat.le_of_ble_eq_true rfl⟩) (poS hG hz hn hP hD hS hA) rfl rfl hl.1 rfl (lv_room (Nat.le_of_ble_eq_true rfl)) dL_refuses_274 ⟨Nat.le_of_ble_eq_true rfl, Nat.le_of_ble_eq_true rfl⟩) hD hS hA (rfl) (wE.rf) (fun H locs hP hD hS => ?_)
  refine W.widen (k := 117) (n := 702) (Nat.le_of_ble_eq_true rfl) (Nat.le_of_ble_eq_true rfl) ?_
  refine lv_iload hx hb dL_refuses_277 (lv_at hl 13 rfl) ?_
  refine lv_icmp_ne (tgt := 361) hx hb dL_refuses_279 (by decide) (fun c9 => absurd (by decide) c9) (fun _ => ?_)
  refine lv_aload_n hx hb dL_refuses_282 rfl (lv_at hl 7 rfl) ?_
  refine lv_iconst (v := 3) hx hb dL_refuses_283 (by decide) ?_
  refine lv_iload hx hb dL_refuses_284 (lv_at hl 5 rfl) ?_
  refine lv_iconst (v := 0) hx hb dL_refuses_286 (by decide) ?_
  refine lv_iconst (v := 0) hx hb dL_refuses_287 (by decide) ?_
  refine lv_iconst (v := 0) hx hb dL_refuses_288 (by decide) ?_
  refine mo_i (vx_runSW (As := [.ref (ad 0), .int 3, .int (-2147483648), .int 0, .int 0, .int 0]) (rest := []) ⟨hx, hb, hml, hown, hts⟩ (t_A3_1 l hlt D cyI cyZ ad zb zo zt zm zu zr zl zf (-2147483648) 0 0 0 _ _ rfl (q_ar_t (by decide))) (vx_cwSW 6 hts gL_refuses_L_act rfl rfl rfl (by decide +kernel) ⟨Nat.le_of_ble_eq_true rfl, Nat.le_of_ble_eq_true rfl⟩) (poS hG hz hn hP hD hS hA) rfl rfl hl.1 rfl (lv_room (Nat.le_of_ble_eq_true rfl)) dL_refuses_289 ⟨Nat.le_of_ble_eq_true rfl, Nat.le_of_ble_eq_true rfl⟩) hD hS hA (rfl) (wE.rf) (fun H locs hP hD hS => ?_)
  refine W.widen (k := 118) (n := 708) (Nat.le_of_ble_eq_true rfl) (Nat.le_of_ble_eq_true rfl) ?_
  refine lv_iload hx hb dL_refuses_292 (lv_at hl 12 rfl) ?_
  refine lv_icmp_ne (tgt := 361) hx hb dL_refuses_294 (by decide) (fun c9 => absurd (by decide) c9) (fun _ => ?_)
  refine lv_aload_n hx hb dL_refuses_297 rfl (lv_at hl 7 rfl) ?_
  refine lv_iconst (v := 3) hx hb dL_refuses_298 (by decide) ?_
  refine lv_iconst (v := 0) hx hb dL_refuses_299 (by decide) ?_
  refine lv_iload hx hb dL_refuses_300 (lv_at hl 2 rfl) ?_
  refine lv_iconst (v := 0) hx hb dL_refuses_302 (by decide) ?_
  refine lv_iconst (v := 0) hx hb dL_refuses_303 (by decide) ?_
  refine mo_i (vx_runSW (As := [.ref (ad 0), .int 3, .int 0, .int (-2147483648), .int 0, .int 0]) (rest := []) ⟨hx, hb, hml, hown, hts⟩ (t_A3_1 l hlt D cyI cyZ ad zb zo zt zm zu zr zl zf 0 (-2147483648) 0 0 _ _ rfl (q_ar_k (by decide))) (vx_cwSW 6 hts gL_refuses_L_act rfl rfl rfl (by decide +kernel) ⟨Nat.le_of_ble_eq_true rfl, Nat.le_of_ble_eq_true rfl⟩) (poS hG hz hn hP hD hS hA) rfl rfl hl.1 rfl (lv_room (Nat.le_of_ble_eq_true rfl)) dL_refuses_304 ⟨Nat.le_of_ble_eq_true rfl, Nat.le_of_ble_eq_true rfl⟩) hD hS hA (rfl) (wE.rf) (fun H locs hP hD hS => ?_)
  refine W.widen (k := 119) (n := 714) (Nat.le_of_ble_eq_true rfl) (Nat.le_of_ble_eq_true rfl) ?_
  refine lv_iload hx hb dL_refuses_307 (lv_at hl 12 rfl) ?_
  refine lv_icmp_ne (tgt := 361) hx hb dL_refuses_309 (by decide) (fun c9 => absurd (by decide) c9) (fun _ => ?_)
  refine lv_aload_n hx hb dL_refuses_312 rfl (lv_at hl 7 rfl) ?_
  refine lv_iconst (v := 3) hx hb dL_refuses_313 (by decide) ?_
  refine lv_iconst (v := 1) hx hb dL_refuses_314 (by decide) ?_
  refine lv_iload_n hx hb dL_refuses_315 rfl (lv_at hl 8 rfl) ?_
  refine lv_iconst (v := 0) hx hb dL_refuses_316 (by decide) ?_
  refine lv_iconst (v := 0) hx hb dL_refuses_317 (by decide) ?_
  refine mo_i (vx_runSW (As := [.ref (ad 0), .int 3, .int 1, .int p2, .int 0, .int 0]) (rest := []) ⟨hx, hb, hml, hown, hts⟩ (t_A3_3 l hlt D cyI cyZ ad zb zo zt zm zu zr zl zf 1 p2 0 0 _ _ rfl (q_ar_s hr9)) (vx_cwSW 6 hts gL_refuses_L_act rfl rfl rfl (by decide +kernel) ⟨Nat.le_of_ble_eq_true rfl, Nat.le_of_ble_eq_true rfl⟩) (poS hG hz hn hP hD hS hA) rfl rfl hl.1 rfl (lv_room (Nat.le_of_ble_eq_true rfl)) dL_refuses_318 ⟨Nat.le_of_ble_eq_true rfl, Nat.le_of_ble_eq_true rfl⟩) hD hS hA (rfl) (wE.rf) (fun H locs hP hD hS => ?_)
  refine W.widen (k := 120) (n := 720) (Nat.le_of_ble_eq_true rfl) (Nat.le_of_ble_eq_true rfl) ?_
  refine lv_sipush (v := (-20003)) hx hb dL_refuses_321 (by decide) ?_
  refine lv_icmp_ne (tgt := 361) hx hb dL_refuses_324 (by decide) (fun c9 => absurd (by decide) c9) (fun _ => ?_)
  refine lv_aload_n hx hb dL_refuses_327 rfl (lv_at hl 7 rfl) ?_
  refine lv_iconst (v := 4) hx hb dL_refuses_328 (by decide) ?_
  refine lv_iload hx hb dL_refuses_329 (lv_at hl 5 rfl) ?_
  refine lv_iload_n hx hb dL_refuses_331 rfl (lv_at hl 8 rfl) ?_
  refine lv_iconst (v := 0) hx hb dL_refuses_332 (by decide) ?_
  refine lv_iconst (v := 0) hx hb dL_refuses_333 (by decide) ?_
  refine mo_i (vx_runSW (As := [.ref (ad 0), .int 4, .int (-2147483648), .int p2, .int 0, .int 0]) (rest := []) ⟨hx, hb, hml, hown, hts⟩ (t_A4_1 l hlt D cyI cyZ ad zb zo zt zm zu zr zl zf (-2147483648) p2 0 0 _ _ rfl (q_rr_t (by decide))) (vx_cwSW 6 hts gL_refuses_L_act rfl rfl rfl (by decide +kernel) ⟨Nat.le_of_ble_eq_true rfl, Nat.le_of_ble_eq_true rfl⟩) (poS hG hz hn hP hD hS hA) rfl rfl hl.1 rfl (lv_room (Nat.le_of_ble_eq_true rfl)) dL_refuses_334 ⟨Nat.le_of_ble_eq_true rfl, Nat.le_of_ble_eq_true rfl⟩) hD hS hA (rfl) (wE.rf) (fun H locs hP hD hS => ?_)
  refine W.widen (k := 121) (n := 726) (Nat.le_of_ble_eq_true rfl) (Nat.le_of_ble_eq_true rfl) ?_
  refine lv_iload hx hb dL_refuses_337 (lv_at hl 12 rfl) ?_
  refine lv_icmp_ne (tgt := 361) hx hb dL_refuses_339 (by decide) (fun c9 => absurd (by decide) c9) (fun _ => ?_)
  refine lv_aload_n hx hb dL_refuses_342 rfl (lv_at hl 7 rfl) ?_
  refine lv_iconst (v := 4) hx hb dL_refuses_343 (by decide) ?_
  refine lv_iconst (v := 1) hx hb dL_refuses_344 (by decide) ?_
  refine lv_iload hx hb dL_refuses_345 (lv_at hl 2 rfl) ?_
  refine lv_iconst (v := 0) hx hb dL_refuses_347 (by decide) ?_
  refine lv_iconst (v := 0) hx hb dL_refuses_348 (by decide) ?_
  refine mo_i (vx_runSW (As := [.ref (ad 0), .int 4, .int 1, .int (-2147483648), .int 0, .int 0]) (rest := []) ⟨hx, hb, hml, hown, hts⟩ (t_A4_1 l hlt D cyI cyZ ad zb zo zt zm zu zr zl zf 1 (-2147483648) 0 0 _ _ rfl (q_rr_k (by decide))) (vx_cwSW 6 hts gL_refuses_L_act rfl rfl rfl (by decide +kernel) ⟨Nat.le_of_ble_eq_true rfl, Nat.le_of_ble_eq_true rfl⟩) (poS hG hz hn hP hD hS hA) rfl rfl hl.1 rfl (lv_room (Nat.le_of_ble_eq_true rfl)) dL_refuses_349 ⟨Nat.le_of_ble_eq_true rfl, Nat.le_of_ble_eq_true rfl⟩) hD hS hA (rfl) (wE.rf) (fun H locs hP hD hS => ?_)
  refine W.widen (k := 122) (n := 732) (Nat.le_of_ble_eq_true rfl) (Nat.le_of_ble_eq_true rfl) ?_
  refine lv_iload hx hb dL_refuses_352 (lv_at hl 12 rfl) ?_
  refine lv_icmp_ne (tgt := 361) hx hb dL_refuses_354 (by decide) (fun c9 => absurd (by decide) c9) (fun _ => ?_)
  refine lv_iconst (v := 1) hx hb dL_refuses_357 (by decide) ?_
  refine lv_goto (tgt := 362) hx hb dL_refuses_358 (by decide) ?_
  refine lv_istore (lv' := [(16, .int 1), (15, .int (-2147483648)), (14, .int (-2147483648)), (13, .int (-2147483648)), (12, .int (-2147483648)), (11, .int (-2147483648)), (10, .int (-2147483648)), (9, .int (-2147483648)), (0, .ref (ad 0)), (1, .int p2), (2, .int p3), (3, .int zl.1), (4, .int zl.2.1), (5, .int (-20001)), (6, .int (-20002)), (7, .int 2147483647), (8, .int 3)]) hx hb dL_refuses_362 hl (by decide) rfl (fun ls hl => ?_)
  refine lv_iload hx hb dL_refuses_364 (lv_at hl 0 rfl) ?_
  refine lv_if_eq (tgt := 619) hx hb dL_refuses_366 (by decide) (fun c9 => absurd c9 (by decide)) (fun _ => ?_)
  refine lv_aload_n hx hb dL_refuses_369 rfl (lv_at hl 8 rfl) ?_
  refine lv_iconst (v := 5) hx hb dL_refuses_370 (by decide) ?_
  refine lv_iload hx hb dL_refuses_371 (lv_at hl 6 rfl) ?_
  refine lv_iload_n hx hb dL_refuses_373 rfl (lv_at hl 9 rfl) ?_
  refine lv_iload_n hx hb dL_refuses_374 rfl (lv_at hl 10 rfl) ?_
  refine lv_iconst (v := 0) hx hb dL_refuses_375 (by decide) ?_
  refine mo_i (vx_runSW (As := [.ref (ad 0), .int 5, .int (-2147483648), .int p2, .int p3, .int 0]) (rest := []) ⟨hx, hb, hml, hown, hts⟩ (t_A5_1 l hlt D cyI cyZ ad zb zo zt zm zu zr zl zf (-2147483648) p2 p3 0 _ _ rfl (q_st_t (by decide))) (vx_cwSW 6 hts gL_refuses_L_act rfl rfl rfl (by decide +kernel) ⟨Nat.le_of_ble_eq_true rfl, Nat.le_of_ble_eq_true rfl⟩) (poS hG hz hn hP hD hS hA) rfl rfl hl.1 rfl (lv_room (Nat.le_of_ble_eq_true rfl)) dL_refuses_376 ⟨Nat.le_of_ble_eq_true rfl, Nat.le_of_ble_eq_true rfl⟩) hD hS hA (rfl) (wE.rf) (fun H locs hP hD hS => ?_)
  refine W.widen (k := 123) (n := 738) (Nat.le_of_ble_eq_true rfl) (Nat.le_of_ble_eq_true rfl) ?_
  refine lv_iload hx hb dL_refuses_379 (lv_at hl 13 rfl) ?_
  refine lv_icmp_ne (tgt := 619) hx hb dL_refuses_381 (by decide) (fun c9 => absurd (by decide) c9) (fun _ => ?_)
  refine lv_aload_n hx hb dL_refuses_384 rfl (lv_at hl 8 rfl) ?_
  refine lv_iconst (v := 5) hx hb dL_refuses_385 (by decide) ?_
  refine lv_iconst (v := 1) hx hb dL_refuses_386 (by decide) ?_
  refine lv_iload hx hb dL_refuses_387 (lv_at hl 3 rfl) ?_
  refine lv_iload_n hx hb dL_refuses_389 rfl (lv_at hl 10 rfl) ?_
  refine lv_iconst (v := 0) hx hb dL_refuses_390 (by decide) ?_
  refine mo_i (vx_runSW (As := [.ref (ad 0), .int 5, .int 1, .int (-2147483648), .int p3, .int 0]) (rest := []) ⟨hx, hb, hml, hown, hts⟩ (t_A5_1 l hlt D cyI cyZ ad zb zo zt zm zu zr zl zf 1 (-2147483648) p3 0 _ _ rfl (q_st_r (by decide))) (vx_cwSW 6 hts gL_refuses_L_act rfl rfl rfl (by decide +kernel) ⟨Nat.le_of_ble_eq_true rfl, Nat.le_of_ble_eq_true rfl⟩) (poS hG hz hn hP hD hS hA) rfl rfl hl.1 rfl (lv_room (Nat.le_of_ble_eq_true rfl)) dL_refuses_391 ⟨Nat.le_of_ble_eq_true rfl, Nat.le_of_ble_eq_true rfl⟩) hD hS hA (rfl) (wE.rf) (fun H locs hP hD hS => ?_)
  refine W.widen (k := 124) (n := 744) (Nat.le_of_ble_eq_true rfl) (Nat.le_of_ble_eq_true rfl) ?_
  refine lv_iload hx hb dL_refuses_394 (lv_at hl 13 rfl) ?_
  refine lv_icmp_ne (tgt := 619) hx hb dL_refuses_396 (by decide) (fun c9 => absurd (by decide) c9) (fun _ => ?_)
  refine lv_aload_n hx hb dL_refuses_399 rfl (lv_at hl 8 rfl) ?_
  refine lv_iconst (v := 5) hx hb dL_refuses_400 (by decide) ?_
  refine lv_iconst (v := 1) hx hb dL_refuses_401 (by decide) ?_
  refine lv_iload_n hx hb dL_refuses_402 rfl (lv_at hl 9 rfl) ?_
  refine lv_iload hx hb dL_refuses_403 (lv_at hl 4 rfl) ?_
  refine lv_sipush (v := 10000) hx hb dL_refuses_405 (by decide) ?_
  refine mo_i (vx_runSW (As := [.ref (ad 0), .int 5, .int 1, .int p2, .int (-2147483648), .int 10000]) (rest := []) ⟨hx, hb, hml, hown, hts⟩ (t_A5_1 l hlt D cyI cyZ ad zb zo zt zm zu zr zl zf 1 p2 (-2147483648) 10000 _ _ rfl (q_st_c hr9 (by decide))) (vx_cwSW 6 hts gL_refuses_L_act rfl rfl rfl (by decide +kernel) ⟨Nat.le_of_ble_eq_true rfl, Nat.le_of_ble_eq_true rfl⟩) (poS hG hz hn hP hD hS hA) rfl rfl hl.1 rfl (lv_room (Nat.le_of_ble_eq_true rfl)) dL_refuses_408 ⟨Nat.le_of_ble_eq_true rfl, Nat.le_of_ble_eq_true rfl⟩) hD hS hA (rfl) (wE.rf) (fun H locs hP hD hS => ?_)
  refine W.widen (k := 125) (n := 750) (Nat.le_of_ble_eq_true rfl) (Nat.le_of_ble_eq_true rfl) ?_
  refine lv_iload hx hb dL_refuses_411 (lv_at hl 13 rfl) ?_
  refine lv_icmp_ne (tgt := 619) hx hb dL_refuses_413 (by decide) (fun c9 => absurd (by decide) c9) (fun _ => ?_)
  refine lv_aload_n hx hb dL_refuses_416 rfl (lv_at hl 8 rfl) ?_
  refine lv_iconst (v := 5) hx hb dL_refuses_417 (by decide) ?_
  refine lv_iconst (v := 1) hx hb dL_refuses_418 (by decide) ?_
  refine lv_iload_n hx hb dL_refuses_419 rfl (lv_at hl 9 rfl) ?_
  refine lv_iload_n hx hb dL_refuses_420 rfl (lv_at hl 10 rfl) ?_
  refine lv_iload hx hb dL_refuses_421 (lv_at hl 16 rfl) ?_
  refine lv_if_ne (tgt := 432) hx hb dL_refuses_423 (by decide) (fun _ => ?_) (fun c9 => absurd c9 (by decide))
  refine lv_iload hx hb dL_refuses_432 (lv_at hl 16 rfl) ?_
  refine lv_iconst (v := 1) hx hb dL_refuses_434 (by decide) ?_
  refine lv_icmp_ne (tgt := 444) hx hb dL_refuses_435 (by decide) (fun _ => ?_) (fun c9 => absurd c9 (by decide))
  refine lv_iload hx hb dL_refuses_444 (lv_at hl 7 rfl) ?_
  refine mo_i (vx_runSW (As := [.ref (ad 0), .int 5, .int 1, .int p2, .int p3, .int (-2147483648)]) (rest := []) ⟨hx, hb, hml, hown, hts⟩ (t_A5_2 l hlt D cyI cyZ ad zb zo zt zm zu zr zl zf 1 p2 p3 (-2147483648) _ _ rfl (q_st_v hr9 hc9 (by decide))) (vx_cwSW 6 hts gL_refuses_L_act rfl rfl rfl (by decide +kernel) ⟨Nat.le_of_ble_eq_true rfl, Nat.le_of_ble_eq_true rfl⟩) (poS hG hz hn hP hD hS hA) rfl rfl hl.1 rfl (lv_room (Nat.le_of_ble_eq_true rfl)) dL_refuses_446 ⟨Nat.le_of_ble_eq_true rfl, Nat.le_of_ble_eq_true rfl⟩) hD hS hA (rfl) (wE.rf) (fun H locs hP hD hS => ?_)
  refine W.widen (k := 126) (n := 756) (Nat.le_of_ble_eq_true rfl) (Nat.le_of_ble_eq_true rfl) ?_
  refine lv_iload hx hb dL_refuses_449 (lv_at hl 14 rfl) ?_
  refine lv_icmp_ne (tgt := 619) hx hb dL_refuses_451 (by decide) (fun c9 => absurd (by decide) c9) (fun _ => ?_)
  refine lv_aload_n hx hb dL_refuses_454 rfl (lv_at hl 8 rfl) ?_
  refine lv_bipush (v := 6) hx hb dL_refuses_455 (by decide) ?_
  refine lv_iload hx hb dL_refuses_457 (lv_at hl 4 rfl) ?_
  refine lv_bipush (v := 9) hx hb dL_refuses_459 (by decide) ?_
  refine lv_iconst (v := 0) hx hb dL_refuses_461 (by decide) ?_
  refine lv_iconst (v := 0) hx hb dL_refuses_462 (by decide) ?_
  refine mo_i (vx_runSW (As := [.ref (ad 0), .int 6, .int (-2147483648), .int 9, .int 0, .int 0]) (rest := []) ⟨hx, hb, hml, hown, hts⟩ (t_A6_1 l hlt D cyI cyZ ad zb zo zt zm zu zr zl zf (-2147483648) 9 0 0 _ _ rfl (by decide)) (vx_cwSW 6 hts gL_refuses_L_act rfl rfl rfl (by decide +kernel) ⟨Nat.le_of_ble_eq_true rfl, Nat.le_of_ble_eq_true rfl⟩) (poS hG hz hn hP hD hS hA) rfl rfl hl.1 rfl (lv_room (Nat.le_of_ble_eq_true rfl)) dL_refuses_463 ⟨Nat.le_of_ble_eq_true rfl, Nat.le_of_ble_eq_true rfl⟩) hD hS hA (rfl) (wE.rf) (fun H locs hP hD hS => ?_)
  refine W.widen (k := 127) (n := 762) (Nat.le_of_ble_eq_true rfl) (Nat.le_of_ble_eq_true rfl) ?_
  refine lv_iload hx hb dL_refuses_466 (lv_at hl 13 rfl) ?_
  refine lv_icmp_ne (tgt := 619) hx hb dL_refuses_468 (by decide) (fun c9 => absurd (by decide) c9) (fun _ => ?_)
  refine lv_aload_n hx hb dL_refuses_471 rfl (lv_at hl 8 rfl) ?_
  refine lv_bipush (v := 6) hx hb dL_refuses_472 (by decide) ?_
  refine lv_iconst (v := 0) hx hb dL_refuses_474 (by decide) ?_
  refine lv_iload hx hb dL_refuses_475 (lv_at hl 5 rfl) ?_
  refine lv_iconst (v := 0) hx hb dL_refuses_477 (by decide) ?_
  refine lv_iconst (v := 0) hx hb dL_refuses_478 (by decide) ?_
  refine mo_i (vx_runSW (As := [.ref (ad 0), .int 6, .int 0, .int (-2147483648), .int 0, .int 0]) (rest := []) ⟨hx, hb, hml, hown, hts⟩ (t_A6_2 l hlt D cyI cyZ ad zb zo zt zm zu zr zl zf 0 (-2147483648) 0 0 _ _ rfl (by decide)) (vx_cwSW 6 hts gL_refuses_L_act rfl rfl rfl (by decide +kernel) ⟨Nat.le_of_ble_eq_true rfl, Nat.le_of_ble_eq_true rfl⟩) (poS hG hz hn hP hD hS hA) rfl rfl hl.1 rfl (lv_room (Nat.le_of_ble_eq_true rfl)) dL_refuses_479 ⟨Nat.le_of_ble_eq_true rfl, Nat.le_of_ble_eq_true rfl⟩) hD hS hA (rfl) (wE.rf) (fun H locs hP hD hS => ?_)
  refine W.widen (k := 128) (n := 768) (Nat.le_of_ble_eq_true rfl) (Nat.le_of_ble_eq_true rfl) ?_
  refine lv_iload hx hb dL_refuses_482 (lv_at hl 14 rfl) ?_
  refine lv_icmp_ne (tgt := 619) hx hb dL_refuses_484 (by decide) (fun c9 => absurd (by decide) c9) (fun _ => ?_)
  refine lv_aload_n hx hb dL_refuses_487 rfl (lv_at hl 8 rfl) ?_
  refine lv_bipush (v := 7) hx hb dL_refuses_488 (by decide) ?_
  refine lv_iload hx hb dL_refuses_490 (lv_at hl 4 rfl) ?_
  refine lv_iconst (v := 1) hx hb dL_refuses_492 (by decide) ?_
  refine lv_iconst (v := 0) hx hb dL_refuses_493 (by decide) ?_
  refine lv_iconst (v := 0) hx hb dL_refuses_494 (by decide) ?_
  refine mo_i (vx_runSW (As := [.ref (ad 0), .int 7, .int (-2147483648), .int 1, .int 0, .int 0]) (rest := []) ⟨hx, hb, hml, hown, hts⟩ (t_A7_1 l hlt D cyI cyZ ad zb zo zt zm zu zr zl zf (-2147483648) 0 0 _ _ rfl (by decide)) (vx_cwSW 6 hts gL_refuses_L_act rfl rfl rfl (by decide +kernel) ⟨Nat.le_of_ble_eq_true rfl, Nat.le_of_ble_eq_true rfl⟩) (poS hG hz hn hP hD hS hA) rfl rfl hl.1 rfl (lv_room (Nat.le_of_ble_eq_true rfl)) dL_refuses_495 ⟨Nat.le_of_ble_eq_true rfl, Nat.le_of_ble_eq_true rfl⟩) hD hS hA (rfl) (wE.rf) (fun H locs hP hD hS => ?_)
  refine W.widen (k := 129) (n := 774) (Nat.le_of_ble_eq_true rfl) (Nat.le_of_ble_eq_true rfl) ?_
  refine lv_iload hx hb dL_refuses_498 (lv_at hl 13 rfl) ?_
  refine lv_icmp_ne (tgt := 619) hx hb dL_refuses_500 (by decide) (fun c9 => absurd (by decide) c9) (fun _ => ?_)
  refine lv_aload_n hx hb dL_refuses_503 rfl (lv_at hl 8 rfl) ?_
  refine lv_bipush (v := 8) hx hb dL_refuses_504 (by decide) ?_
  refine lv_iload hx hb dL_refuses_506 (lv_at hl 5 rfl) ?_
  refine lv_iconst (v := 0) hx hb dL_refuses_508 (by decide) ?_
  refine lv_iconst (v := 0) hx hb dL_refuses_509 (by decide) ?_
  refine lv_iconst (v := 0) hx hb dL_refuses_510 (by decide) ?_
  refine mo_i (vx_runSW (As := [.ref (ad 0), .int 8, .int (-2147483648), .int 0, .int 0, .int 0]) (rest := []) ⟨hx, hb, hml, hown, hts⟩ (t_A8_1 l hlt D cyI cyZ ad zb zo zt zm zu zr zl zf (-2147483648) 0 0 0 _ _ rfl (by decide)) (vx_cwSW 6 hts gL_refuses_L_act rfl rfl rfl (by decide +kernel) ⟨Nat.le_of_ble_eq_true rfl, Nat.le_of_ble_eq_true rfl⟩) (poS hG hz hn hP hD hS hA) rfl rfl hl.1 rfl (lv_room (Nat.le_of_ble_eq_true rfl)) dL_refuses_511 ⟨Nat.le_of_ble_eq_true rfl, Nat.le_of_ble_eq_true rfl⟩) hD hS hA (rfl) (wE.rf) (fun H locs hP hD hS => ?_)
  refine W.widen (k := 130) (n := 780) (Nat.le_of_ble_eq_true rfl) (Nat.le_of_ble_eq_true rfl) ?_
  refine lv_iload hx hb dL_refuses_514 (lv_at hl 13 rfl) ?_
  refine lv_icmp_ne (tgt := 619) hx hb dL_refuses_516 (by decide) (fun c9 => absurd (by decide) c9) (fun _ => ?_)
  refine lv_aload_n hx hb dL_refuses_519 rfl (lv_at hl 8 rfl) ?_
  refine lv_bipush (v := 9) hx hb dL_refuses_520 (by decide) ?_
  refine lv_iload hx hb dL_refuses_522 (lv_at hl 5 rfl) ?_
  refine lv_iconst (v := 0) hx hb dL_refuses_524 (by decide) ?_
  refine lv_iconst (v := 0) hx hb dL_refuses_525 (by decide) ?_
  refine lv_iconst (v := 0) hx hb dL_refuses_526 (by decide) ?_
  refine mo_i (vx_runSW (As := [.ref (ad 0), .int 9, .int (-2147483648), .int 0, .int 0, .int 0]) (rest := []) ⟨hx, hb, hml, hown, hts⟩ (t_A9_1 l hlt D cyI cyZ ad zb zo zt zm zu zr zl zf (-2147483648) 0 0 0 _ _ rfl (by decide)) (vx_cwSW 6 hts gL_refuses_L_act rfl rfl rfl (by decide +kernel) ⟨Nat.le_of_ble_eq_true rfl, Nat.le_of_ble_eq_true rfl⟩) (poS hG hz hn hP hD hS hA) rfl rfl hl.1 rfl (lv_room (Nat.le_of_ble_eq_true rfl)) dL_refuses_527 ⟨Nat.le_of_ble_eq_true rfl, Nat.le_of_ble_eq_true rfl⟩) hD hS hA (rfl) (wE.rf) (fun H locs hP hD hS => ?_)
  refine W.widen (k := 131) (n := 786) (Nat.le_of_ble_eq_true rfl) (Nat.le_of_ble_eq_true rfl) ?_
  refine lv_iload hx hb dL_refuses_530 (lv_at hl 13 rfl) ?_
  refine lv_icmp_ne (tgt := 619) hx hb dL_refuses_532 (by decide) (fun c9 => absurd (by decide) c9) (fun _ => ?_)
  refine lv_aload_n hx hb dL_refuses_535 rfl (lv_at hl 8 rfl) ?_
  refine lv_bipush (v := 10) hx hb dL_refuses_536 (by decide) ?_
  refine lv_iload hx hb dL_refuses_538 (lv_at hl 5 rfl) ?_
  refine lv_iload_n hx hb dL_refuses_540 rfl (lv_at hl 10 rfl) ?_
  refine lv_iconst (v := 0) hx hb dL_refuses_541 (by decide) ?_
  refine lv_iconst (v := 0) hx hb dL_refuses_542 (by decide) ?_
  refine mo_i (vx_runSW (As := [.ref (ad 0), .int 10, .int (-2147483648), .int p3, .int 0, .int 0]) (rest := []) ⟨hx, hb, hml, hown, hts⟩ (t_A10_1 l hlt D cyI cyZ ad zb zo zt zm zu zr zl zf (-2147483648) p3 0 0 _ _ rfl (q_nm_t (by decide))) (vx_cwSW 6 hts gL_refuses_L_act rfl rfl rfl (by decide +kernel) ⟨Nat.le_of_ble_eq_true rfl, Nat.le_of_ble_eq_true rfl⟩) (poS hG hz hn hP hD hS hA) rfl rfl hl.1 rfl (lv_room (Nat.le_of_ble_eq_true rfl)) dL_refuses_543 ⟨Nat.le_of_ble_eq_true rfl, Nat.le_of_ble_eq_true rfl⟩) hD hS hA (rfl) (wE.rf) (fun H locs hP hD hS => ?_)
  refine W.widen (k := 132) (n := 792) (Nat.le_of_ble_eq_true rfl) (Nat.le_of_ble_eq_true rfl) ?_
  refine lv_iload hx hb dL_refuses_546 (lv_at hl 13 rfl) ?_
  refine lv_icmp_ne (tgt := 619) hx hb dL_refuses_548 (by decide) (fun c9 => absurd (by decide) c9) (fun _ => ?_)
  refine lv_aload_n hx hb dL_refuses_551 rfl (lv_at hl 8 rfl) ?_
  refine lv_bipush (v := 10) hx hb dL_refuses_552 (by decide) ?_
  refine lv_iconst (v := 1) hx hb dL_refuses_554 (by decide) ?_
  refine lv_iload hx hb dL_refuses_555 (lv_at hl 4 rfl) ?_
  refine lv_iconst (v := 0) hx hb dL_refuses_557 (by decide) ?_
  refine lv_iconst (v := 0) hx hb dL_refuses_558 (by decide) ?_
  refine mo_i (vx_runSW (As := [.ref (ad 0), .int 10, .int 1, .int (-2147483648), .int 0, .int 0]) (rest := []) ⟨hx, hb, hml, hown, hts⟩ (t_A10_1 l hlt D cyI cyZ ad zb zo zt zm zu zr zl zf 1 (-2147483648) 0 0 _ _ rfl (q_nm_c (by decide))) (vx_cwSW 6 hts gL_refuses_L_act rfl rfl rfl (by decide +kernel) ⟨Nat.le_of_ble_eq_true rfl, Nat.le_of_ble_eq_true rfl⟩) (poS hG hz hn hP hD hS hA) rfl rfl hl.1 rfl (lv_room (Nat.le_of_ble_eq_true rfl)) dL_refuses_559 ⟨Nat.le_of_ble_eq_true rfl, Nat.le_of_ble_eq_true rfl⟩) hD hS hA (rfl) (wE.rf) (fun H locs hP hD hS => ?_)
  refine W.widen (k := 133) (n := 798) (Nat.le_of_ble_eq_true rfl) (Nat.le_of_ble_eq_true rfl) ?_
  refine lv_iload hx hb dL_refuses_562 (lv_at hl 13 rfl) ?_
  refine lv_icmp_ne (tgt := 619) hx hb dL_refuses_564 (by decide) (fun c9 => absurd (by decide) c9) (fun _ => ?_)
  refine lv_aload_n hx hb dL_refuses_567 rfl (lv_at hl 8 rfl) ?_
  refine lv_bipush (v := 11) hx hb dL_refuses_568 (by decide) ?_
  refine lv_iload hx hb dL_refuses_570 (lv_at hl 5 rfl) ?_
  refine lv_iload_n hx hb dL_refuses_572 rfl (lv_at hl 9 rfl) ?_
  refine lv_iload_n hx hb dL_refuses_573 rfl (lv_at hl 10 rfl) ?_
  refine lv_iconst (v := 0) hx hb dL_refuses_574 (by decide) ?_
  refine mo_i (vx_runSW (As := [.ref (ad 0), .int 11, .int (-2147483648), .int p2, .int p3, .int 0]) (rest := []) ⟨hx, hb, hml, hown, hts⟩ (t_A11_1 l hlt D cyI cyZ ad zb zo zt zm zu zr zl zf (-2147483648) p2 p3 0 _ _ rfl (q_gt_t (by decide))) (vx_cwSW 6 hts gL_refuses_L_act rfl rfl rfl (by decide +kernel) ⟨Nat.le_of_ble_eq_true rfl, Nat.le_of_ble_eq_true rfl⟩) (poS hG hz hn hP hD hS hA) rfl rfl hl.1 rfl (lv_room (Nat.le_of_ble_eq_true rfl)) dL_refuses_575 ⟨Nat.le_of_ble_eq_true rfl, Nat.le_of_ble_eq_true rfl⟩) hD hS hA (rfl) (wE.rf) (fun H locs hP hD hS => ?_)
  refine W.widen (k := 134) (n := 804) (Nat.le_of_ble_eq_true rfl) (Nat.le_of_ble_eq_true rfl) ?_
  refine lv_iload hx hb dL_refuses_578 (lv_at hl 13 rfl) ?_
  refine lv_icmp_ne (tgt := 619) hx hb dL_refuses_580 (by decide) (fun c9 => absurd (by decide) c9) (fun _ => ?_)
  refine lv_aload_n hx hb dL_refuses_583 rfl (lv_at hl 8 rfl) ?_
  refine lv_bipush (v := 11) hx hb dL_refuses_584 (by decide) ?_
  refine lv_iconst (v := 1) hx hb dL_refuses_586 (by decide) ?_
  refine lv_iload hx hb dL_refuses_587 (lv_at hl 3 rfl) ?_
  refine lv_iload_n hx hb dL_refuses_589 rfl (lv_at hl 10 rfl) ?_
  refine lv_iconst (v := 0) hx hb dL_refuses_590 (by decide) ?_
  refine mo_i (vx_runSW (As := [.ref (ad 0), .int 11, .int 1, .int (-2147483648), .int p3, .int 0]) (rest := []) ⟨hx, hb, hml, hown, hts⟩ (t_A11_1 l hlt D cyI cyZ ad zb zo zt zm zu zr zl zf 1 (-2147483648) p3 0 _ _ rfl (q_gt_r (by decide))) (vx_cwSW 6 hts gL_refuses_L_act rfl rfl rfl (by decide +kernel) ⟨Nat.le_of_ble_eq_true rfl, Nat.le_of_ble_eq_true rfl⟩) (poS hG hz hn hP hD hS hA) rfl rfl hl.1 rfl (lv_room (Nat.le_of_ble_eq_true rfl)) dL_refuses_591 ⟨Nat.le_of_ble_eq_true rfl, Nat.le_of_ble_eq_true rfl⟩) hD hS hA (rfl) (wE.rf) (fun H locs hP hD hS => ?_)
  refine W.widen (k := 135) (n := 810) (Nat.le_of_ble_eq_true rfl) (Nat.le_of_ble_eq_true rfl) ?_
  refine lv_iload hx hb dL_refuses_594 (lv_at hl 13 rfl) ?_
  refine lv_icmp_ne (tgt := 619) hx hb dL_refuses_596 (by decide) (fun c9 => absurd (by decide) c9) (fun _ => ?_)
  refine lv_aload_n hx hb dL_refuses_599 rfl (lv_at hl 8 rfl) ?_
  refine lv_bipush (v := 11) hx hb dL_refuses_600 (by decide) ?_
  refine lv_iconst (v := 1) hx hb dL_refuses_602 (by decide) ?_
  refine lv_iload_n hx hb dL_refuses_603 rfl (lv_at hl 9 rfl) ?_
  refine lv_iload hx hb dL_refuses_604 (lv_at hl 4 rfl) ?_
  refine lv_iconst (v := 0) hx hb dL_refuses_606 (by decide) ?_
  refine mo_i (vx_runSW (As := [.ref (ad 0), .int 11, .int 1, .int p2, .int (-2147483648), .int 0]) (rest := []) ⟨hx, hb, hml, hown, hts⟩ (t_A11_1 l hlt D cyI cyZ ad zb zo zt zm zu zr zl zf 1 p2 (-2147483648) 0 _ _ rfl (q_gt_c hr9 (by decide))) (vx_cwSW 6 hts gL_refuses_L_act rfl rfl rfl (by decide +kernel) ⟨Nat.le_of_ble_eq_true rfl, Nat.le_of_ble_eq_true rfl⟩) (poS hG hz hn hP hD hS hA) rfl rfl hl.1 rfl (lv_room (Nat.le_of_ble_eq_true rfl)) dL_refuses_607 ⟨Nat.le_of_ble_eq_true rfl, Nat.le_of_ble_eq_true rfl⟩) hD hS hA (rfl) (wE.rf) (fun H locs hP hD hS => ?_)
  refine W.widen (k := 136) (n := 816) (Nat.le_of_ble_eq_true rfl) (Nat.le_of_ble_eq_true rfl) ?_
  refine lv_iload hx hb dL_refuses_610 (lv_at hl 13 rfl) ?_
  refine lv_icmp_ne (tgt := 619) hx hb dL_refuses_612 (by decide) (fun c9 => absurd (by decide) c9) (fun _ => ?_)
  refine lv_iconst (v := 1) hx hb dL_refuses_615 (by decide) ?_
  refine lv_goto (tgt := 620) hx hb dL_refuses_616 (by decide) ?_
  refine lv_istore (lv' := [(16, .int 1), (15, .int (-2147483648)), (14, .int (-2147483648)), (13, .int (-2147483648)), (12, .int (-2147483648)), (11, .int (-2147483648)), (10, .int (-2147483648)), (9, .int (-2147483648)), (0, .ref (ad 0)), (1, .int p2), (2, .int p3), (3, .int zl.1), (4, .int zl.2.1), (5, .int (-20001)), (6, .int (-20002)), (7, .int 2147483647), (8, .int 3)]) hx hb dL_refuses_620 hl (by decide) rfl (fun ls hl => ?_)
  refine lv_iload hx hb dL_refuses_622 (lv_at hl 0 rfl) ?_
  refine lv_if_eq (tgt := 695) hx hb dL_refuses_624 (by decide) (fun c9 => absurd c9 (by decide)) (fun _ => ?_)
  refine lv_aload_n hx hb dL_refuses_627 rfl (lv_at hl 8 rfl) ?_
  refine lv_bipush (v := 12) hx hb dL_refuses_628 (by decide) ?_
  refine lv_iload hx hb dL_refuses_630 (lv_at hl 1 rfl) ?_
  refine lv_iconst (v := 0) hx hb dL_refuses_632 (by decide) ?_
  refine lv_iconst (v := 0) hx hb dL_refuses_633 (by decide) ?_
  refine lv_iconst (v := 0) hx hb dL_refuses_634 (by decide) ?_
  refine mo_i (vx_runSW (As := [.ref (ad 0), .int 12, .int (-2147483648), .int 0, .int 0, .int 0]) (rest := []) ⟨hx, hb, hml, hown, hts⟩ (t_A12_1 l hlt D cyI cyZ ad zb zo zt zm zu zr zl zf (-2147483648) 0 0 0 _ _ rfl (by decide)) (vx_cwSW 6 hts gL_refuses_L_act rfl rfl rfl (by decide +kernel) ⟨Nat.le_of_ble_eq_true rfl, Nat.le_of_ble_eq_true rfl⟩) (poS hG hz hn hP hD hS hA) rfl rfl hl.1 rfl (lv_room (Nat.le_of_ble_eq_true rfl)) dL_refuses_635 ⟨Nat.le_of_ble_eq_true rfl, Nat.le_of_ble_eq_true rfl⟩) hD hS hA (rfl) (wE.rf) (fun H locs hP hD hS => ?_)
  refine W.widen (k := 137) (n := 822) (Nat.le_of_ble_eq_true rfl) (Nat.le_of_ble_eq_true rfl) ?_
  refine lv_iload hx hb dL_refuses_638 (lv_at hl 13 rfl) ?_
  refine lv_icmp_ne (tgt := 695) hx hb dL_refuses_640 (by decide) (fun c9 => absurd (by decide) c9) (fun _ => ?_)
  refine lv_aload_n hx hb dL_refuses_643 rfl (lv_at hl 8 rfl) ?_
  refine lv_bipush (v := 14) hx hb dL_refuses_644 (by decide) ?_
  refine lv_iload hx hb dL_refuses_646 (lv_at hl 3 rfl) ?_
  refine lv_iconst (v := 0) hx hb dL_refuses_648 (by decide) ?_
  refine lv_iconst (v := 0) hx hb dL_refuses_649 (by decide) ?_
  refine lv_iconst (v := 0) hx hb dL_refuses_650 (by decide) ?_
  refine mo_i (vx_runSW (As := [.ref (ad 0), .int 14, .int (-2147483648), .int 0, .int 0, .int 0]) (rest := []) ⟨hx, hb, hml, hown, hts⟩ (t_A14_1 l hlt D cyI cyZ ad zb zo zt zm zu zr zl zf (-2147483648) 0 0 0 _ _ rfl (q_by_k (by decide))) (vx_cwSW 6 hts gL_refuses_L_act rfl rfl rfl (by decide +kernel) ⟨Nat.le_of_ble_eq_true rfl, Nat.le_of_ble_eq_true rfl⟩) (poS hG hz hn hP hD hS hA) rfl rfl hl.1 rfl (lv_room (Nat.le_of_ble_eq_true rfl)) dL_refuses_651 ⟨Nat.le_of_ble_eq_true rfl, Nat.le_of_ble_eq_true rfl⟩) hD hS hA (rfl) (wE.rf) (fun H locs hP hD hS => ?_)
  refine W.widen (k := 138) (n := 828) (Nat.le_of_ble_eq_true rfl) (Nat.le_of_ble_eq_true rfl) ?_
  refine lv_iload hx hb dL_refuses_654 (lv_at hl 13 rfl) ?_
  refine lv_icmp_ne (tgt := 695) hx hb dL_refuses_656 (by decide) (fun c9 => absurd (by decide) c9) (fun _ => ?_)
  refine lv_aload_n hx hb dL_refuses_659 rfl (lv_at hl 8 rfl) ?_
  refine lv_bipush (v := 14) hx hb dL_refuses_660 (by decide) ?_
  refine lv_iconst (v := 0) hx hb dL_refuses_662 (by decide) ?_
  refine lv_iload hx hb dL_refuses_663 (lv_at hl 4 rfl) ?_
  refine lv_iconst (v := 0) hx hb dL_refuses_665 (by decide) ?_
  refine lv_iconst (v := 0) hx hb dL_refuses_666 (by decide) ?_
  refine mo_i (vx_runSW (As := [.ref (ad 0), .int 14, .int 0, .int (-2147483648), .int 0, .int 0]) (rest := []) ⟨hx, hb, hml, hown, hts⟩ (t_A14_1 l hlt D cyI cyZ ad zb zo zt zm zu zr zl zf 0 (-2147483648) 0 0 _ _ rfl (q_by_c (by decide))) (vx_cwSW 6 hts gL_refuses_L_act rfl rfl rfl (by decide +kernel) ⟨Nat.le_of_ble_eq_true rfl, Nat.le_of_ble_eq_true rfl⟩) (poS hG hz hn hP hD hS hA) rfl rfl hl.1 rfl (lv_room (Nat.le_of_ble_eq_true rfl)) dL_refuses_667 ⟨Nat.le_of_ble_eq_true rfl, Nat.le_of_ble_eq_true rfl⟩) hD hS hA (rfl) (wE.rf) (fun H locs hP hD hS => ?_)
  refine W.widen (k := 139) (n := 834) (Nat.le_of_ble_eq_true rfl) (Nat.le_of_ble_eq_true rfl) ?_
  refine lv_iload hx hb dL_refuses_670 (lv_at hl 13 rfl) ?_
  refine lv_icmp_ne (tgt := 695) hx hb dL_refuses_672 (by decide) (fun c9 => absurd (by decide) c9) (fun _ => ?_)
  refine lv_aload_n hx hb dL_refuses_675 rfl (lv_at hl 8 rfl) ?_
  refine lv_bipush (v := 18) hx hb dL_refuses_676 (by decide) ?_
  refine lv_iconst (v := 0) hx hb dL_refuses_678 (by decide) ?_
  refine lv_iload hx hb dL_refuses_679 (lv_at hl 1 rfl) ?_
  refine lv_iconst (v := 0) hx hb dL_refuses_681 (by decide) ?_
  refine lv_iconst (v := 0) hx hb dL_refuses_682 (by decide) ?_
  refine mo_i (vx_runSW (As := [.ref (ad 0), .int 18, .int 0, .int (-2147483648), .int 0, .int 0]) (rest := []) ⟨hx, hb, hml, hown, hts⟩ (t_A18_1 l hlt D cyI cyZ ad zb zo zt zm zu zr zl zf 0 (-2147483648) 0 0 _ _ rfl (q_se_s (by decide))) (vx_cwSW 6 hts gL_refuses_L_act rfl rfl rfl (by decide +kernel) ⟨Nat.le_of_ble_eq_true rfl, Nat.le_of_ble_eq_true rfl⟩) (poS hG hz hn hP hD hS hA) rfl rfl hl.1 rfl (lv_room (Nat.le_of_ble_eq_true rfl)) dL_refuses_683 ⟨Nat.le_of_ble_eq_true rfl, Nat.le_of_ble_eq_true rfl⟩) hD hS hA (rfl) (wE.rf) (fun H locs hP hD hS => ?_)
  refine W.widen (k := 140) (n := 840) (Nat.le_of_ble_eq_true rfl) (Nat.le_of_ble_eq_true rfl) ?_
  refine lv_iload hx hb dL_refuses_686 (lv_at hl 13 rfl) ?_
  refine lv_icmp_ne (tgt := 695) hx hb dL_refuses_688 (by decide) (fun c9 => absurd (by decide) c9) (fun _ => ?_)
  refine lv_iconst (v := 1) hx hb dL_refuses_691 (by decide) ?_
  refine lv_goto (tgt := 696) hx hb dL_refuses_692 (by decide) ?_
  refine lv_istore (lv' := [(16, .int 1), (15, .int (-2147483648)), (14, .int (-2147483648)), (13, .int (-2147483648)), (12, .int (-2147483648)), (11, .int (-2147483648)), (10, .int (-2147483648)), (9, .int (-2147483648)), (0, .ref (ad 0)), (1, .int p2), (2, .int p3), (3, .int zl.1), (4, .int zl.2.1), (5, .int (-20001)), (6, .int (-20002)), (7, .int 2147483647), (8, .int 3)]) hx hb dL_refuses_696 hl (by decide) rfl (fun ls hl => ?_)
  refine lv_bipush (v := 15) hx hb dL_refuses_698 (by decide) ?_
  refine lv_istore (lv' := [(17, .int 15), (16, .int 1), (15, .int (-2147483648)), (14, .int (-2147483648)), (13, .int (-2147483648)), (12, .int (-2147483648)), (11, .int (-2147483648)), (10, .int (-2147483648)), (9, .int (-2147483648)), (0, .ref (ad 0)), (1, .int p2), (2, .int p3), (3, .int zl.1), (4, .int zl.2.1), (5, .int (-20001)), (6, .int (-20002)), (7, .int 2147483647), (8, .int 3)]) hx hb dL_refuses_700 hl (by decide) rfl (fun ls hl => ?_)
  refine lv_iload hx hb dL_refuses_702 (lv_at hl 0 rfl) ?_
  refine lv_bipush (v := 19) hx hb dL_refuses_704 (by decide) ?_
  refine lv_icmp_ge (tgt := 753) hx hb dL_refuses_706 (by decide) (fun c9 => absurd c9 (by decide)) (fun _ => ?_)
  refine lv_iload hx hb dL_refuses_709 (lv_at hl 1 rfl) ?_
  refine lv_if_eq (tgt := 744) hx hb dL_refuses_711 (by decide) (fun c9 => absurd c9 (by decide)) (fun _ => ?_)
  refine lv_aload_n hx hb dL_refuses_714 rfl (lv_at hl 9 rfl) ?_
  refine lv_iload hx hb dL_refuses_715 (lv_at hl 0 rfl) ?_
  refine lv_iload hx hb dL_refuses_717 (lv_at hl 17 rfl) ?_
  refine lv_iconst (v := 1) hx hb dL_refuses_719 (by decide) ?_
  refine lv_icmp_ne (tgt := 727) hx hb dL_refuses_720 (by decide) (fun _ => ?_) (fun c9 => absurd c9 (by decide))
  refine lv_iload hx hb dL_refuses_727 (lv_at hl 8 rfl) ?_
  refine lv_iconst (v := 1) hx hb dL_refuses_729 (by decide) ?_
  refine lv_iconst (v := 0) hx hb dL_refuses_730 (by decide) ?_
  refine lv_iconst (v := 0) hx hb dL_refuses_731 (by decide) ?_
  refine mo_i (vx_runSW (As := [.ref (ad 0), .int 15, .int (-2147483648), .int 1, .int 0, .int 0]) (rest := []) ⟨hx, hb, hml, hown, hts⟩ (t_A15_1 l hlt D cyI cyZ ad zb zo zt zm zu zr zl zf (-2147483648) 1 0 0 _ _ rfl (q_ki (Or.inl (by decide)))) (vx_cwSW 6 hts gL_refuses_L_act rfl rfl rfl (by decide +kernel) ⟨Nat.le_of_ble_eq_true rfl, Nat.le_of_ble_eq_true rfl⟩) (poS hG hz hn hP hD hS hA) rfl rfl hl.1 rfl (lv_room (Nat.le_of_ble_eq_true rfl)) dL_refuses_732 ⟨Nat.le_of_ble_eq_true rfl, Nat.le_of_ble_eq_true rfl⟩) hD hS hA (rfl) (wE.rf) (fun H locs hP hD hS => ?_)
  refine W.widen (k := 141) (n := 846) (Nat.le_of_ble_eq_true rfl) (Nat.le_of_ble_eq_true rfl) ?_
  refine lv_iload hx hb dL_refuses_735 (lv_at hl 14 rfl) ?_
  refine lv_icmp_ne (tgt := 744) hx hb dL_refuses_737 (by decide) (fun c9 => absurd (by decide) c9) (fun _ => ?_)
  refine lv_iconst (v := 1) hx hb dL_refuses_740 (by decide) ?_
  refine lv_goto (tgt := 745) hx hb dL_refuses_741 (by decide) ?_
  refine lv_istore (lv' := [(16, .int 1), (17, .int 15), (15, .int (-2147483648)), (14, .int (-2147483648)), (13, .int (-2147483648)), (12, .int (-2147483648)), (11, .int (-2147483648)), (10, .int (-2147483648)), (9, .int (-2147483648)), (0, .ref (ad 0)), (1, .int p2), (2, .int p3), (3, .int zl.1), (4, .int zl.2.1), (5, .int (-20001)), (6, .int (-20002)), (7, .int 2147483647), (8, .int 3)]) hx hb dL_refuses_745 hl (by decide) rfl (fun ls hl => ?_)
  refine lv_iinc (v := 16) (lv' := [(17, .int 16), (16, .int 1), (15, .int (-2147483648)), (14, .int (-2147483648)), (13, .int (-2147483648)), (12, .int (-2147483648)), (11, .int (-2147483648)), (10, .int (-2147483648)), (9, .int (-2147483648)), (0, .ref (ad 0)), (1, .int p2), (2, .int p3), (3, .int zl.1), (4, .int zl.2.1), (5, .int (-20001)), (6, .int (-20002)), (7, .int 2147483647), (8, .int 3)]) hx hb dL_refuses_747 hl (k := 1) rfl (by decide) (by decide) rfl (fun ls hl => ?_)
  refine lv_goto (tgt := 702) hx hb dL_refuses_750 (by decide) ?_
  refine lv_iload hx hb dL_refuses_702 (lv_at hl 0 rfl) ?_
  refine lv_bipush (v := 19) hx hb dL_refuses_704 (by decide) ?_
  refine lv_icmp_ge (tgt := 753) hx hb dL_refuses_706 (by decide) (fun c9 => absurd c9 (by decide)) (fun _ => ?_)
  refine lv_iload hx hb dL_refuses_709 (lv_at hl 1 rfl) ?_
  refine lv_if_eq (tgt := 744) hx hb dL_refuses_711 (by decide) (fun c9 => absurd c9 (by decide)) (fun _ => ?_)
  refine lv_aload_n hx hb dL_refuses_714 rfl (lv_at hl 9 rfl) ?_
  refine lv_iload hx hb dL_refuses_715 (lv_at hl 0 rfl) ?_
  refine lv_iload hx hb dL_refuses_717 (lv_at hl 17 rfl) ?_
  refine lv_iconst (v := 1) hx hb dL_refuses_719 (by decide) ?_
  refine lv_icmp_ne (tgt := 727) hx hb dL_refuses_720 (by decide) (fun _ => ?_) (fun c9 => absurd c9 (by decide))
  refine lv_iload hx hb dL_refuses_727 (lv_at hl 8 rfl) ?_
  refine lv_iconst (v := 1) hx hb dL_refuses_729 (by decide) ?_
  refine lv_iconst (v := 0) hx hb dL_refuses_730 (by decide) ?_
  refine lv_iconst (v := 0) hx hb dL_refuses_731 (by decide) ?_
  refine mo_i (vx_runSW (As := [.ref (ad 0), .int 16, .int (-2147483648), .int 1, .int 0, .int 0]) (rest := []) ⟨hx, hb, hml, hown, hts⟩ (t_A16_1 l hlt D cyI cyZ ad zb zo zt zm zu zr zl zf (-2147483648) 1 0 0 _ _ rfl (q_ke (Or.inl (by decide)))) (vx_cwSW 6 hts gL_refuses_L_act rfl rfl rfl (by decide +kernel) ⟨Nat.le_of_ble_eq_true rfl, Nat.le_of_ble_eq_true rfl⟩) (poS hG hz hn hP hD hS hA) rfl rfl hl.1 rfl (lv_room (Nat.le_of_ble_eq_true rfl)) dL_refuses_732 ⟨Nat.le_of_ble_eq_true rfl, Nat.le_of_ble_eq_true rfl⟩) hD hS hA (rfl) (wE.rf) (fun H locs hP hD hS => ?_)
  refine W.widen (k := 142) (n := 852) (Nat.le_of_ble_eq_true rfl) (Nat.le_of_ble_eq_true rfl) ?_
  refine lv_iload hx hb dL_refuses_735 (lv_at hl 14 rfl) ?_
  refine lv_icmp_ne (tgt := 744) hx hb dL_refuses_737 (by decide) (fun c9 => absurd (by decide) c9) (fun _ => ?_)
  refine lv_iconst (v := 1) hx hb dL_refuses_740 (by decide) ?_
  refine lv_goto (tgt := 745) hx hb dL_refuses_741 (by decide) ?_
  refine lv_istore (lv' := [(16, .int 1), (17, .int 16), (15, .int (-2147483648)), (14, .int (-2147483648)), (13, .int (-2147483648)), (12, .int (-2147483648)), (11, .int (-2147483648)), (10, .int (-2147483648)), (9, .int (-2147483648)), (0, .ref (ad 0)), (1, .int p2), (2, .int p3), (3, .int zl.1), (4, .int zl.2.1), (5, .int (-20001)), (6, .int (-20002)), (7, .int 2147483647), (8, .int 3)]) hx hb dL_refuses_745 hl (by decide) rfl (fun ls hl => ?_)
  refine lv_iinc (v := 17) (lv' := [(17, .int 17), (16, .int 1), (15, .int (-2147483648)), (14, .int (-2147483648)), (13, .int (-2147483648)), (12, .int (-2147483648)), (11, .int (-2147483648)), (10, .int (-2147483648)), (9, .int (-2147483648)), (0, .ref (ad 0)), (1, .int p2), (2, .int p3), (3, .int zl.1), (4, .int zl.2.1), (5, .int (-20001)), (6, .int (-20002)), (7, .int 2147483647), (8, .int 3)]) hx hb dL_refuses_747 hl (k := 1) rfl (by decide) (by decide) rfl (fun ls hl => ?_)
  refine lv_goto (tgt := 702) hx hb dL_refuses_750 (by decide) ?_
  refine lv_iload hx hb dL_refuses_702 (lv_at hl 0 rfl) ?_
  refine lv_bipush (v := 19) hx hb dL_refuses_704 (by decide) ?_
  refine lv_icmp_ge (tgt := 753) hx hb dL_refuses_706 (by decide) (fun c9 => absurd c9 (by decide)) (fun _ => ?_)
  refine lv_iload hx hb dL_refuses_709 (lv_at hl 1 rfl) ?_
  refine lv_if_eq (tgt := 744) hx hb dL_refuses_711 (by decide) (fun c9 => absurd c9 (by decide)) (fun _ => ?_)
  refine lv_aload_n hx hb dL_refuses_714 rfl (lv_at hl 9 rfl) ?_
  refine lv_iload hx hb dL_refuses_715 (lv_at hl 0 rfl) ?_
  refine lv_iload hx hb dL_refuses_717 (lv_at hl 17 rfl) ?_
  refine lv_iconst (v := 1) hx hb dL_refuses_719 (by decide) ?_
  refine lv_icmp_ne (tgt := 727) hx hb dL_refuses_720 (by decide) (fun _ => ?_) (fun c9 => absurd c9 (by decide))
  refine lv_iload hx hb dL_refuses_727 (lv_at hl 8 rfl) ?_
  refine lv_iconst (v := 1) hx hb dL_refuses_729 (by decide) ?_
  refine lv_iconst (v := 0) hx hb dL_refuses_730 (by decide) ?_
  refine lv_iconst (v := 0) hx hb dL_refuses_731 (by decide) ?_
  refine mo_i (vx_runSW (As := [.ref (ad 0), .int 17, .int (-2147483648), .int 1, .int 0, .int 0]) (rest := []) ⟨hx, hb, hml, hown, hts⟩ (t_A17_1 l hlt D cyI cyZ ad zb zo zt zm zu zr zl zf (-2147483648) 1 0 0 _ _ rfl (q_co (Or.inl (by decide)))) (vx_cwSW 6 hts gL_refuses_L_act rfl rfl rfl (by decide +kernel) ⟨Nat.le_of_ble_eq_true rfl, Nat.le_of_ble_eq_true rfl⟩) (poS hG hz hn hP hD hS hA) rfl rfl hl.1 rfl (lv_room (Nat.le_of_ble_eq_true rfl)) dL_refuses_732 ⟨Nat.le_of_ble_eq_true rfl, Nat.le_of_ble_eq_true rfl⟩) hD hS hA (rfl) (wE.rf) (fun H locs hP hD hS => ?_)
  refine W.widen (k := 143) (n := 858) (Nat.le_of_ble_eq_true rfl) (Nat.le_of_ble_eq_true rfl) ?_
  refine lv_iload hx hb dL_refuses_735 (lv_at hl 14 rfl) ?_
  refine lv_icmp_ne (tgt := 744) hx hb dL_refuses_737 (by decide) (fun c9 => absurd (by decide) c9) (fun _ => ?_)
  refine lv_iconst (v := 1) hx hb dL_refuses_740 (by decide) ?_
  refine lv_goto (tgt := 745) hx hb dL_refuses_741 (by decide) ?_
  refine lv_istore (lv' := [(16, .int 1), (17, .int 17), (15, .int (-2147483648)), (14, .int (-2147483648)), (13, .int (-2147483648)), (12, .int (-2147483648)), (11, .int (-2147483648)), (10, .int (-2147483648)), (9, .int (-2147483648)), (0, .ref (ad 0)), (1, .int p2), (2, .int p3), (3, .int zl.1), (4, .int zl.2.1), (5, .int (-20001)), (6, .int (-20002)), (7, .int 2147483647), (8, .int 3)]) hx hb dL_refuses_745 hl (by decide) rfl (fun ls hl => ?_)
  refine lv_iinc (v := 18) (lv' := [(17, .int 18), (16, .int 1), (15, .int (-2147483648)), (14, .int (-2147483648)), (13, .int (-2147483648)), (12, .int (-2147483648)), (11, .int (-2147483648)), (10, .int (-2147483648)), (9, .int (-2147483648)), (0, .ref (ad 0)), (1, .int p2), (2, .int p3), (3, .int zl.1), (4, .int zl.2.1), (5, .int (-20001)), (6, .int (-20002)), (7, .int 2147483647), (8, .int 3)]) hx hb dL_refuses_747 hl (k := 1) rfl (by decide) (by decide) rfl (fun ls hl => ?_)
  refine lv_goto (tgt := 702) hx hb dL_refuses_750 (by decide) ?_
  refine lv_iload hx hb dL_refuses_702 (lv_at hl 0 rfl) ?_
  refine lv_bipush (v := 19) hx hb dL_refuses_704 (by decide) ?_
  refine lv_icmp_ge (tgt := 753) hx hb dL_refuses_706 (by decide) (fun c9 => absurd c9 (by decide)) (fun _ => ?_)
  refine lv_iload hx hb dL_refuses_709 (lv_at hl 1 rfl) ?_
  refine lv_if_eq (tgt := 744) hx hb dL_refuses_711 (by decide) (fun c9 => absurd c9 (by decide)) (fun _ => ?_)
  refine lv_aload_n hx hb dL_refuses_714 rfl (lv_at hl 9 rfl) ?_
  refine lv_iload hx hb dL_refuses_715 (lv_at hl 0 rfl) ?_
  refine lv_iload hx hb dL_refuses_717 (lv_at hl 17 rfl) ?_
  refine lv_iconst (v := 1) hx hb dL_refuses_719 (by decide) ?_
  refine lv_icmp_ne (tgt := 727) hx hb dL_refuses_720 (by decide) (fun _ => ?_) (fun c9 => absurd c9 (by decide))
  refine lv_iload hx hb dL_refuses_727 (lv_at hl 8 rfl) ?_
  refine lv_iconst (v := 1) hx hb dL_refuses_729 (by decide) ?_
  refine lv_iconst (v := 0) hx hb dL_refuses_730 (by decide) ?_
  refine lv_iconst (v := 0) hx hb dL_refuses_731 (by decide) ?_
  refine mo_i (vx_runSW (As := [.ref (ad 0), .int 18, .int (-2147483648), .int 1, .int 0, .int 0]) (rest := []) ⟨hx, hb, hml, hown, hts⟩ (t_A18_1 l hlt D cyI cyZ ad zb zo zt zm zu zr zl zf (-2147483648) 1 0 0 _ _ rfl (q_se (Or.inl (by decide)))) (vx_cwSW 6 hts gL_refuses_L_act rfl rfl rfl (by decide +kernel) ⟨Nat.le_of_ble_eq_true rfl, Nat.le_of_ble_eq_true rfl⟩) (poS hG hz hn hP hD hS hA) rfl rfl hl.1 rfl (lv_room (Nat.le_of_ble_eq_true rfl)) dL_refuses_732 ⟨Nat.le_of_ble_eq_true rfl, Nat.le_of_ble_eq_true rfl⟩) hD hS hA (rfl) (wE.rf) (fun H locs hP hD hS => ?_)
  refine W.widen (k := 144) (n := 864) (Nat.le_of_ble_eq_true rfl) (Nat.le_of_ble_eq_true rfl) ?_
  refine lv_iload hx hb dL_refuses_735 (lv_at hl 14 rfl) ?_
  refine lv_icmp_ne (tgt := 744) hx hb dL_refuses_737 (by decide) (fun c9 => absurd (by decide) c9) (fun _ => ?_)
  refine lv_iconst (v := 1) hx hb dL_refuses_740 (by decide) ?_
  refine lv_goto (tgt := 745) hx hb dL_refuses_741 (by decide) ?_
  refine lv_istore (lv' := [(16, .int 1), (17, .int 18), (15, .int (-2147483648)), (14, .int (-2147483648)), (13, .int (-2147483648)), (12, .int (-2147483648)), (11, .int (-2147483648)), (10, .int (-2147483648)), (9, .int (-2147483648)), (0, .ref (ad 0)), (1, .int p2), (2, .int p3), (3, .int zl.1), (4, .int zl.2.1), (5, .int (-20001)), (6, .int (-20002)), (7, .int 2147483647), (8, .int 3)]) hx hb dL_refuses_745 hl (by decide) rfl (fun ls hl => ?_)
  refine lv_iinc (v := 19) (lv' := [(17, .int 19), (16, .int 1), (15, .int (-2147483648)), (14, .int (-2147483648)), (13, .int (-2147483648)), (12, .int (-2147483648)), (11, .int (-2147483648)), (10, .int (-2147483648)), (9, .int (-2147483648)), (0, .ref (ad 0)), (1, .int p2), (2, .int p3), (3, .int zl.1), (4, .int zl.2.1), (5, .int (-20001)), (6, .int (-20002)), (7, .int 2147483647), (8, .int 3)]) hx hb dL_refuses_747 hl (k := 1) rfl (by decide) (by decide) rfl (fun ls hl => ?_)
  refine lv_goto (tgt := 702) hx hb dL_refuses_750 (by decide) ?_
  refine lv_iload hx hb dL_refuses_702 (lv_at hl 0 rfl) ?_
  refine lv_bipush (v := 19) hx hb dL_refuses_704 (by decide) ?_
  refine lv_icmp_ge (tgt := 753) hx hb dL_refuses_706 (by decide) (fun _ => ?_) (fun c9 => absurd (by decide) c9)
  refine lv_iload hx hb dL_refuses_753 (lv_at hl 1 rfl) ?_
  refine lv_if_ne (tgt := 760) hx hb dL_refuses_755 (by decide) (fun _ => ?_) (fun c9 => absurd c9 (by decide))
  refine lv_iinc (v := 4) (lv' := [(8, .int 4), (17, .int 19), (16, .int 1), (15, .int (-2147483648)), (14, .int (-2147483648)), (13, .int (-2147483648)), (12, .int (-2147483648)), (11, .int (-2147483648)), (10, .int (-2147483648)), (9, .int (-2147483648)), (0, .ref (ad 0)), (1, .int p2), (2, .int p3), (3, .int zl.1), (4, .int zl.2.1), (5, .int (-20001)), (6, .int (-20002)), (7, .int 2147483647)]) hx hb dL_refuses_760 hl (k := 17) rfl (by decide) (by decide) rfl (fun ls hl => ?_)
  refine lv_goto (tgt := 28) hx hb dL_refuses_763 (by decide) ?_
  exact KK H locs ls hP hD hS (lv_sub hl [10, 11, 12, 13, 14, 15, 16, 17, 0] rfl)
set_option maxHeartbeats 4000000 in
set_option maxRecDepth 100000 in
theorem k_L_refuses (l : Launch) (hlt : l.stackTraces = false) (D : va_G) (cyI cyZ : ClassId) (ad : Nat → Nat) (zb : Tr) (zo : Tr) (zt : Tr) (zm : Tr) (zu : Nat → Int32) (zr : Nat → Int32) (zl : Lr) (zf : Int32) (p2 p3 : Int32) (A : Nat → Prop) (sz : Nat) (hAe : A = va_A (wZ cyI cyZ ad zb zo zt zm zu zr zl zf) sz) (hr9 : ¬ f_X1_hasRow zo p2 = 0) (hc9 : ¬ f_X1_hasColumn zo p3 = 0) : Met l yL_refuses wsL_refuses ({ frames := 10, cells := 144, slots := 864, locals := 194 } : Room) (pcO D cyI cyZ sz [.ref (ad 0), .int p2, .int p3] (wZ cyI cyZ ad zb zo zt zm zu zr zl zf)) (mI D A (wZ cyI cyZ ad zb zo zt zm zu zr zl zf) 1) 144 864 A := by
  refine Met.ofW (cc := cL_refuses) (maxL := 18) (ret := some .boolean) (by decide) rfl ?_
  intro p e s m args below meth c s₁ B hml hv
  obtain ⟨rfl, hsz, hP, hG, ⟨hz, hn⟩, hD0⟩ := hv
  have hx := B.exec
  have hb := B.bytes
  have hr := B.returns
  have hts := atoms_spec (ws := wsL_refuses) B.pre
  have hown : s.vm.findClass RL = some m.cls := findClass_of_methodNamed B.named
  subst hsz
  have hD : va_D A (wZ cyI cyZ ad zb zo zt zm zu zr zl zf) := by rw [hAe]; exact hD0.self
  have hA : ∀ q : Nat, s.heap.size ≤ q → A q := fun q h => by rw [hAe]; exact Or.inr h
  rw [← hAe] at hz
  clear hAe hD0
  have hS : va_S A s.heap s.heap [] := va_S.rf
  have hl := lv_entry ([.ref (ad 0), .int p2, .int p3]) (n := 18) (Nat.le_of_ble_eq_true rfl)
  rw [lg_entry_eq]
  generalize (lg_sl ([.ref (ad 0), .int p2, .int p3]) ++ List.replicate (18 - (lg_sl ([.ref (ad 0), .int p2, .int p3])).length) Slot.unset).toArray = ls at hl ⊢
  have hl : lv_has ls 18 [(0, .ref (ad 0)), (1, .int p2), (2, .int p3)] := hl
  have hP : va_P D vwCl (wZ cyI cyZ ad zb zo zt zm zu zr zl zf) s.heap := hP
  refine lv_aload_n hx hb dL_refuses_0 rfl (lv_at hl 0 rfl) ?_
  refine po_i (va_runV (As := []) (rest := []) ⟨hx, hb, hml, hown, hts⟩ (k_X2_conflicts l D cyI cyZ ad zb zo zt zm zu zr zl zf) (cwV 0 hts gL_refuses_X2_conflicts rfl rfl rfl (by decide +kernel) ⟨Nat.le_of_ble_eq_true rfl, Nat.le_of_ble_eq_true rfl⟩) (prV hG hP (ci := 2) rfl rfl rfl) rfl rfl hl.1 rfl (lv_room (Nat.le_of_ble_eq_true rfl)) dL_refuses_1 ⟨Nat.le_of_ble_eq_true rfl, Nat.le_of_ble_eq_true rfl⟩) hS hP (rfl) (fun H locs hP hS => ?_)
  refine lv_istore_n (lv' := [(3, .int zl.1), (0, .ref (ad 0)), (1, .int p2), (2, .int p3)]) hx hb dL_refuses_4 rfl hl (by decide) rfl (fun ls hl => ?_)
  refine lv_aload_n hx hb dL_refuses_5 rfl (lv_at hl 1 rfl) ?_
  refine po_i (va_runV (As := []) (rest := []) ⟨hx, hb, hml, hown, hts⟩ (k_X2_open l D cyI cyZ ad zb zo zt zm zu zr zl zf) (cwV 0 hts gL_refuses_X2_open rfl rfl rfl (by decide +kernel) ⟨Nat.le_of_ble_eq_true rfl, Nat.le_of_ble_eq_true rfl⟩) (prV hG hP (ci := 2) rfl rfl rfl) rfl rfl hl.1 rfl (lv_room (Nat.le_of_ble_eq_true rfl)) dL_refuses_6 ⟨Nat.le_of_ble_eq_true rfl, Nat.le_of_ble_eq_true rfl⟩) hS hP (rfl) (fun H locs hP hS => ?_)
  refine lv_istore (lv' := [(4, .int zl.2.1), (3, .int zl.1), (0, .ref (ad 0)), (1, .int p2), (2, .int p3)]) hx hb dL_refuses_9 hl (by decide) rfl (fun ls hl => ?_)
  refine lv_sipush (v := (-20001)) hx hb dL_refuses_11 (by decide) ?_
  refine lv_istore (lv' := [(5, .int (-20001)), (4, .int zl.2.1), (3, .int zl.1), (0, .ref (ad 0)), (1, .int p2), (2, .int p3)]) hx hb dL_refuses_14 hl (by decide) rfl (fun ls hl => ?_)
  refine lv_sipush (v := (-20002)) hx hb dL_refuses_16 (by decide) ?_
  refine lv_istore (lv' := [(6, .int (-20002)), (5, .int (-20001)), (4, .int zl.2.1), (3, .int zl.1), (0, .ref (ad 0)), (1, .int p2), (2, .int p3)]) hx hb dL_refuses_19 hl (by decide) rfl (fun ls hl => ?_)
  refine lv_ldc (v := 2147483647) hx hb hown (hts (.constant RL 84 (2147483647)) (List.mem_of_getElem? (i := 1) rfl)) dL_refuses_21 ?_
  refine lv_istore (lv' := [(7, .int 2147483647), (6, .int (-20002)), (5, .int (-20001)), (4, .int zl.2.1), (3, .int zl.1), (0, .ref (ad 0)), (1, .int p2), (2, .int p3)]) hx hb dL_refuses_23 hl (by decide) rfl (fun ls hl => ?_)
  refine lv_iconst (v := 0) hx hb dL_refuses_25 (by decide) ?_
  refine lv_istore (lv' := [(8, .int 0), (7, .int 2147483647), (6, .int (-20002)), (5, .int (-20001)), (4, .int zl.2.1), (3, .int zl.1), (0, .ref (ad 0)), (1, .int p2), (2, .int p3)]) hx hb dL_refuses_26 hl (by decide) rfl (fun ls hl => ?_)
  refine rf_0 hlt hr9 hc9 hx hb hml hown hts hG hz hn hA (rf_1 hlt hr9 hc9 hx hb hml hown hts hG hz hn hA (rf_2 hlt hr9 hc9 hx hb hml hown hts hG hz hn hA (rf_3 hlt hr9 hc9 hx hb hml hown hts hG hz hn hA ?_))) H locs ls hP hD hS (lv_sub hl [6, 7, 8, 5, 4, 3, 2, 1, 0] rfl)
  intro H locs ls hP hD hS hl
  refine lv_iload hx hb dL_refuses_28 (lv_at hl 8 rfl) ?_
  refine lv_iconst (v := 4) hx hb dL_refuses_30 (by decide) ?_
  refine lv_icmp_ge (tgt := 766) hx hb dL_refuses_31 (by decide) (fun _ => ?_) (fun c9 => absurd (by decide) c9)
  refine lv_aload_n hx hb dL_refuses_766 rfl (lv_at hl 0 rfl) ?_
  refine po_i (va_runV (As := []) (rest := []) ⟨hx, hb, hml, hown, hts⟩ (k_X2_conflicts l D cyI cyZ ad zb zo zt zm zu zr zl zf) (cwV 0 hts gL_refuses_X2_conflicts rfl rfl rfl (by decide +kernel) ⟨Nat.le_of_ble_eq_true rfl, Nat.le_of_ble_eq_true rfl⟩) (prV hG hP (ci := 2) rfl rfl rfl) rfl rfl hl.1 rfl (lv_room (Nat.le_of_ble_eq_true rfl)) dL_refuses_767 ⟨Nat.le_of_ble_eq_true rfl, Nat.le_of_ble_eq_true rfl⟩) hS hP (rfl) (fun H locs hP hS => ?_)
  refine lv_iload_n hx hb dL_refuses_770 rfl (lv_at hl 3 rfl) ?_
  refine lv_icmp_ne (tgt := 787) hx hb dL_refuses_771 (by decide) (fun c9 => absurd rfl c9) (fun _ => ?_)
  refine lv_aload_n hx hb dL_refuses_774 rfl (lv_at hl 0 rfl) ?_
  refine po_i (va_runV (As := []) (rest := []) ⟨hx, hb, hml, hown, hts⟩ (k_X2_open l D cyI cyZ ad zb zo zt zm zu zr zl zf) (cwV 0 hts gL_refuses_X2_open rfl rfl rfl (by decide +kernel) ⟨Nat.le_of_ble_eq_true rfl, Nat.le_of_ble_eq_true rfl⟩) (prV hG hP (ci := 2) rfl rfl rfl) rfl rfl hl.1 rfl (lv_room (Nat.le_of_ble_eq_true rfl)) dL_refuses_775 ⟨Nat.le_of_ble_eq_true rfl, Nat.le_of_ble_eq_true rfl⟩) hS hP (rfl) (fun H locs hP hS => ?_)
  refine lv_iload hx hb dL_refuses_778 (lv_at hl 4 rfl) ?_
  refine lv_icmp_ne (tgt := 787) hx hb dL_refuses_780 (by decide) (fun c9 => absurd rfl c9) (fun _ => ?_)
  refine lv_iconst (v := 1) hx hb dL_refuses_783 (by decide) ?_
  refine lv_goto (tgt := 788) hx hb dL_refuses_784 (by decide) ?_
  exact W.zret (v := 1) (ty := .boolean) hx hb hr rfl (fun t ht hW => ⟨⟨1, (), rfl, rfl, by rw [ht]; exact hP, hD⟩, hS.F ht⟩) hS.2.2 dL_refuses_788
