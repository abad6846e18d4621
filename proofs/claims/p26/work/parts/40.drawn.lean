/-! ===== the law's drawn tables: what stays, what is put ===== -/
/-- no cell below 0 -/
def NN (t : Tr) : Prop := ∀ n, n < 192 → ¬ t.2.2.2 n < 0
def IV (zb zo zt : Tr) : Prop := (tI zb ∧ tI zo ∧ tI zt) ∧ (NN zb ∧ NN zo ∧ NN zt) ∧ bt zo.1 0 = true ∧ bt zo.2.1 0 = true
/-- a table that grew: its own things are kept -/
def GR (t t' : Tr) : Prop := tI t' ∧ NN t' ∧ (∀ i, bt t.1 i = true → bt t'.1 i = true) ∧ ∀ i, bt t.2.1 i = true → bt t'.2.1 i = true
theorem GR.rf {t : Tr} (h : tI t) (k : NN t) : GR t t := ⟨h, k, fun _ h => h, fun _ h => h⟩
theorem GR.tr {a b c : Tr} (h : GR a b) (k : GR b c) : GR a c := ⟨k.1, k.2.1, fun i q => k.2.2.1 i (h.2.2.1 i q), fun i q => k.2.2.2 i (h.2.2.2 i q)⟩
theorem IV.b {zb zo zt t' : Tr} (h : IV zb zo zt) (g : GR zb t') : IV t' zo zt := ⟨⟨g.1, h.1.2.1, h.1.2.2⟩, ⟨g.2.1, h.2.1.2.1, h.2.1.2.2⟩, h.2.2⟩
theorem IV.o {zb zo zt t' : Tr} (h : IV zb zo zt) (g : GR zo t') : IV zb t' zt := ⟨⟨h.1.1, g.1, h.1.2.2⟩, ⟨h.2.1.1, g.2.1, h.2.1.2.2⟩, g.2.2.1 0 h.2.2.1, g.2.2.2 0 h.2.2.2⟩
theorem IV.t {zb zo zt t' : Tr} (h : IV zb zo zt) (g : GR zt t') : IV zb zo t' := ⟨⟨h.1.1, h.1.2.1, g.1⟩, ⟨h.2.1.1, h.2.1.2.1, g.2.1⟩, h.2.2⟩
theorem g_row {t : Tr} (h : tI t) (k : NN t) {r : Nat} (hr : r < 24) : GR t (f_X1_putRow t (nI r)) := by
  refine ⟨tI_putRow h hr, ?_, ?_, ?_⟩
  · rw [c_putRow hr]; exact k
  · rw [c_putRow hr]; exact fun _ h => h
  · rw [c_putRow hr]
    exact fun i q => (bt_or (by omega)).mpr (Or.inl q)
theorem g_row_h {t : Tr} {r : Nat} (hr : r < 24) : bt (f_X1_putRow t (nI r)).2.1 r = true := by
  rw [c_putRow hr]; exact (bt_or (by omega)).mpr (Or.inr rfl)
theorem g_col {t : Tr} (h : tI t) (k : NN t) {c : Nat} (hc : c < 8) (n : Int32) (hb : bt t.1 c = false) : GR t (f_X1_putColumn t (nI c) n) := by
  refine ⟨tI_putColumn h hc n hb, ?_, ?_, ?_⟩
  · rw [c_putColumn hc]; exact k
  · rw [c_putColumn hc]
    exact fun i q => (bt_or (by omega)).mpr (Or.inl q)
  · rw [c_putColumn hc]; exact fun _ h => h
theorem g_col_h {t : Tr} {c : Nat} (hc : c < 8) (n : Int32) : bt (f_X1_putColumn t (nI c) n).1 c = true := by
  rw [c_putColumn hc]; exact (bt_or (by omega)).mpr (Or.inr rfl)
theorem g_cell {t : Tr} (h : tI t) (k : NN t) {r c : Nat} (hr : r < 24) (hc : c < 8) {v : Int32} (hv : ¬ v < 0) : GR t (f_X1_putCell t (nI r) (nI c) v) := by
  refine ⟨tI_putCell h hr hc v, ?_, ?_, ?_⟩
  · rw [c_putCell hr hc]
    by_cases g : cel t r c = true
    · rw [if_pos g]
      intro n hn
      show ¬ upd t.2.2.2 (r * 8 + c) v n < 0
      by_cases w : n = r * 8 + c
      · rw [w, pk_us]; exact hv
      · rw [pk_un w]; exact k n hn
    · rw [if_neg g]; exact k
  · rw [c_putCell hr hc]
    by_cases g : cel t r c = true
    · rw [if_pos g]; exact fun _ h => h
    · rw [if_neg g]; exact fun _ h => h
  · rw [c_putCell hr hc]
    by_cases g : cel t r c = true
    · rw [if_pos g]; exact fun _ h => h
    · rw [if_neg g]; exact fun _ h => h
theorem nn_cell {t : Tr} (h : tI t) (k : NN t) {r c : Nat} (hr : r < 24) (hc : c < 8) : ¬ f_X1_cellAt t (nI r) (nI c) < 0 := by
  rw [c_cellAt h hr hc]; exact k _ (by omega)
theorem cn_le (x : Int32) : cn x ≤ 24 := by
  have h := sm_le (f := fun k => b1 (bt x k)) (k := 1) (n := 24) (fun i _ => b1_le)
  rw [cn]; omega
theorem nn_rc {t : Tr} (h : tI t) : ¬ f_X1_rowCount t < 0 := by
  rw [f_X1_rowCount, c_bitc (fun i hi => h.2.1 i hi)]
  have := cn_le t.2.1
  exact nI_pos (by omega)
theorem nn_cc {t : Tr} (h : tI t) : ¬ f_X1_columnCount t < 0 := by
  rw [f_X1_columnCount, c_bitc (fun i hi => h.1 i (by omega))]
  have := cn_le t.1
  exact nI_pos (by omega)
theorem nn_mc {b o t : Tr} {p1 p2 p4 : Int32} (e1 : ¬ f_X1_cellAt o p1 p2 < 0) (e2 : ¬ f_X1_cellAt t p1 p2 < 0) : ¬ f_X2_mergedCell b o t p1 p2 0 p4 < 0 := by
  rw [f_X2_mergedCell, if_neg (show ¬ (0 : Int32) = 3 by decide)]
  exact p_ite (P := fun z : Int32 => ¬ z < 0) e2 (p_ite (P := fun z : Int32 => ¬ z < 0) e1 (p_ite (P := fun z : Int32 => ¬ z < 0) (p_ite (P := fun z : Int32 => ¬ z < 0) e1 (p_ite (P := fun z : Int32 => ¬ z < 0) e2 e1)) (p_ite (P := fun z : Int32 => ¬ z < 0) (p_ite (P := fun z : Int32 => ¬ z < 0) e2 e1) e1)))
/-- merging by the rule 0 makes no number -/
theorem nn_mgv {b o t : Tr} (i1 : tI o) (i2 : tI t) (k1 : NN o) (k2 : NN t) {r c : Nat} (hr : r < 24) (hc : c < 8) : ¬ mgv b o t (fun _ => 0) r c < 0 := by
  rw [mgv]
  exact nn_mc (nn_cell i1 k1 hr hc) (nn_cell i2 k2 hr hc)
theorem hV_of {b o t m : Tr} (i1 : tI o) (i2 : tI t) (k1 : NN o) (k2 : NN t) (M : MW b o t (fun _ => 0) m) : ∀ r c, r < 24 → c < 8 → cel m r c = true → ¬ m.2.2.2 (r * 8 + c) = -20001 := fun r c hr hc hm w => by
  have z := nn_mgv (b := b) i1 i2 k1 k2 hr hc
  rw [M.2.2.2 r c hr hc, if_pos hm] at w
  rw [w] at z
  exact z (by decide)
theorem wE_eq {w1 w2 : va_W} (h : w1 = w2) : wE w1 w2 := by rw [h]; exact wE.rf
theorem b_shr {t : Int32} {r : Nat} (hr : r < 32) : ((t >>> (nI r &&& 31)) &&& 1) = iB (bt t r) := t_shrv hr
theorem iB_t {b : Bool} (h : b = true) : iB b = 1 := by rw [h]; rfl
theorem iB_f {b : Bool} (h : b = false) : iB b = 0 := by rw [h]; rfl
theorem in99 {v : Nat} (h : v < 9999) : ¬ nI v < -9999 ∧ nI v ≤ 9999 := by
  refine ⟨fun z => nI_pos (n := v) (by omega) (Int32.lt_of_lt_of_le z (by decide)), ?_⟩
  exact nI_le (b := 9999) (by omega) (by decide)
theorem v_rows0 {zb zo zt zm : Tr} : f_X2_rows zb zo zt zm 0 = zb.2.1 := by rw [f_X2_rows, if_pos rfl]
theorem v_cols0 {zb zo zt zm : Tr} : f_X2_columns zb zo zt zm 0 = zb.1 := by rw [f_X2_columns, if_pos rfl]
theorem x_ar0 {zb zo zt : Tr} {r : Nat} (hr : r < 24) : f_X2_addRow_x zb zo zt 0 (nI r) = if bt zb.2.1 r = true then 3 else 0 := by
  rw [f_X2_addRow_x, if_pos rfl, rqKey_t (vp_in_nI hr (by decide)), if_pos rfl, c_hasRow hr, ite_iB]
theorem v_ar0 {zb zo zt : Tr} {zf : Int32} {r : Nat} (hr : r < 24) (h : ¬ bt zb.2.1 r = true) : f_X2_addRow zb zo zt zf 0 (nI r) = (f_X1_rowCount (f_X1_putRow zb (nI r)), f_X1_putRow zb (nI r), zo, zt, 0) := by
  rw [f_X2_addRow, if_pos rfl, rqKey_t (vp_in_nI hr (by decide)), if_pos rfl, c_hasRow hr, ite_iB, if_neg h]
theorem x_ac0 {zb zo zt : Tr} {c n : Nat} (hc : c < 8) (hn : n < 100) : f_X2_addColumn_x zb zo zt 0 (nI c) (nI n) = if bt zb.1 c = true then 3 else 0 := by
  rw [f_X2_addColumn_x, if_pos rfl, rqCol_t (vp_in_nI hc (by decide)), if_pos rfl, rqName_t (vp_in_nI hn (by decide)), if_pos rfl, c_hasColumn hc, ite_iB]
theorem v_ac0 {zb zo zt : Tr} {zf : Int32} {c n : Nat} (hc : c < 8) (hn : n < 100) (h : ¬ bt zb.1 c = true) : f_X2_addColumn zb zo zt zf 0 (nI c) (nI n) = (f_X1_columnCount (f_X1_putColumn zb (nI c) (nI n)), f_X1_putColumn zb (nI c) (nI n), zo, zt, 0) := by
  rw [f_X2_addColumn, if_pos rfl, rqCol_t (vp_in_nI hc (by decide)), if_pos rfl, rqName_t (vp_in_nI hn (by decide)), if_pos rfl, c_hasColumn hc, ite_iB, if_neg h]
theorem x_st0 {zb zo zt : Tr} {r c v : Nat} (hr : r < 24) (hc : c < 8) (hv : v < 9999) (h1 : bt zb.2.1 r = true) (h2 : bt zb.1 c = true) : f_X2_set_x zb zo zt 0 (nI r) (nI c) (nI v) = 0 := by
  rw [f_X2_set_x, if_pos rfl, f_X2_requireRowOf_x, f_X2_requireColumnOf_x, c_hasRow hr, c_hasColumn hc, h1, h2, if_neg (show ¬ iB true = 0 by decide), if_pos rfl, if_pos rfl, if_neg (in99 hv).1, if_pos (in99 hv).2]
theorem v_st0 {zb zo zt : Tr} {zf : Int32} {r c v : Nat} (hr : r < 24) (hc : c < 8) (hv : v < 9999) (h1 : bt zb.2.1 r = true) (h2 : bt zb.1 c = true) : f_X2_set zb zo zt zf 0 (nI r) (nI c) (nI v) = (f_X1_cellAt zb (nI r) (nI c), f_X1_putCell zb (nI r) (nI c) (nI v), zo, zt, 0) := by
  rw [f_X2_set, if_pos rfl, f_X2_requireRowOf_x, f_X2_requireColumnOf_x, c_hasRow hr, c_hasColumn hc, h1, h2, if_neg (show ¬ iB true = 0 by decide), if_pos rfl, if_pos rfl, if_neg (in99 hv).1, if_pos (in99 hv).2]
theorem v_rows1 {zb zo zt zm : Tr} : f_X2_rows zb zo zt zm 1 = zo.2.1 := by rw [f_X2_rows, if_neg (by decide), if_pos rfl]
theorem v_cols1 {zb zo zt zm : Tr} : f_X2_columns zb zo zt zm 1 = zo.1 := by rw [f_X2_columns, if_neg (by decide), if_pos rfl]
theorem x_ar1 {zb zo zt : Tr} {r : Nat} (hr : r < 24) : f_X2_addRow_x zb zo zt 1 (nI r) = if bt zo.2.1 r = true then 3 else 0 := by
  rw [f_X2_addRow_x, if_neg (by decide), if_pos rfl, rqKey_t (vp_in_nI hr (by decide)), if_pos rfl, c_hasRow hr, ite_iB]
theorem v_ar1 {zb zo zt : Tr} {zf : Int32} {r : Nat} (hr : r < 24) (h : ¬ bt zo.2.1 r = true) : f_X2_addRow zb zo zt zf 1 (nI r) = (f_X1_rowCount (f_X1_putRow zo (nI r)), zb, f_X1_putRow zo (nI r), zt, 0) := by
  rw [f_X2_addRow, if_neg (by decide), if_pos rfl, rqKey_t (vp_in_nI hr (by decide)), if_pos rfl, c_hasRow hr, ite_iB, if_neg h]
theorem x_ac1 {zb zo zt : Tr} {c n : Nat} (hc : c < 8) (hn : n < 100) : f_X2_addColumn_x zb zo zt 1 (nI c) (nI n) = if bt zo.1 c = true then 3 else 0 := by
  rw [f_X2_addColumn_x, if_neg (by decide), if_pos rfl, rqCol_t (vp_in_nI hc (by decide)), if_pos rfl, rqName_t (vp_in_nI hn (by decide)), if_pos rfl, c_hasColumn hc, ite_iB]
theorem v_ac1 {zb zo zt : Tr} {zf : Int32} {c n : Nat} (hc : c < 8) (hn : n < 100) (h : ¬ bt zo.1 c = true) : f_X2_addColumn zb zo zt zf 1 (nI c) (nI n) = (f_X1_columnCount (f_X1_putColumn zo (nI c) (nI n)), zb, f_X1_putColumn zo (nI c) (nI n), zt, 0) := by
  rw [f_X2_addColumn, if_neg (by decide), if_pos rfl, rqCol_t (vp_in_nI hc (by decide)), if_pos rfl, rqName_t (vp_in_nI hn (by decide)), if_pos rfl, c_hasColumn hc, ite_iB, if_neg h]
theorem x_st1 {zb zo zt : Tr} {r c v : Nat} (hr : r < 24) (hc : c < 8) (hv : v < 9999) (h1 : bt zo.2.1 r = true) (h2 : bt zo.1 c = true) : f_X2_set_x zb zo zt 1 (nI r) (nI c) (nI v) = 0 := by
  rw [f_X2_set_x, if_neg (by decide), if_pos rfl, f_X2_requireRowOf_x, f_X2_requireColumnOf_x, c_hasRow hr, c_hasColumn hc, h1, h2, if_neg (show ¬ iB true = 0 by decide), if_pos rfl, if_pos rfl, if_neg (in99 hv).1, if_pos (in99 hv).2]
theorem v_st1 {zb zo zt : Tr} {zf : Int32} {r c v : Nat} (hr : r < 24) (hc : c < 8) (hv : v < 9999) (h1 : bt zo.2.1 r = true) (h2 : bt zo.1 c = true) : f_X2_set zb zo zt zf 1 (nI r) (nI c) (nI v) = (f_X1_cellAt zo (nI r) (nI c), zb, f_X1_putCell zo (nI r) (nI c) (nI v), zt, 0) := by
  rw [f_X2_set, if_neg (by decide), if_pos rfl, f_X2_requireRowOf_x, f_X2_requireColumnOf_x, c_hasRow hr, c_hasColumn hc, h1, h2, if_neg (show ¬ iB true = 0 by decide), if_pos rfl, if_pos rfl, if_neg (in99 hv).1, if_pos (in99 hv).2]
theorem v_rows2 {zb zo zt zm : Tr} : f_X2_rows zb zo zt zm 2 = zt.2.1 := by rw [f_X2_rows, if_neg (by decide), if_neg (by decide), if_pos rfl]
theorem v_cols2 {zb zo zt zm : Tr} : f_X2_columns zb zo zt zm 2 = zt.1 := by rw [f_X2_columns, if_neg (by decide), if_neg (by decide), if_pos rfl]
theorem x_ar2 {zb zo zt : Tr} {r : Nat} (hr : r < 24) : f_X2_addRow_x zb zo zt 2 (nI r) = if bt zt.2.1 r = true then 3 else 0 := by
  rw [f_X2_addRow_x, if_neg (by decide), if_neg (by decide), if_pos rfl, rqKey_t (vp_in_nI hr (by decide)), if_pos rfl, c_hasRow hr, ite_iB]
theorem v_ar2 {zb zo zt : Tr} {zf : Int32} {r : Nat} (hr : r < 24) (h : ¬ bt zt.2.1 r = true) : f_X2_addRow zb zo zt zf 2 (nI r) = (f_X1_rowCount (f_X1_putRow zt (nI r)), zb, zo, f_X1_putRow zt (nI r), 0) := by
  rw [f_X2_addRow, if_neg (by decide), if_neg (by decide), if_pos rfl, rqKey_t (vp_in_nI hr (by decide)), if_pos rfl, c_hasRow hr, ite_iB, if_neg h]
theorem x_ac2 {zb zo zt : Tr} {c n : Nat} (hc : c < 8) (hn : n < 100) : f_X2_addColumn_x zb zo zt 2 (nI c) (nI n) = if bt zt.1 c = true then 3 else 0 := by
  rw [f_X2_addColumn_x, if_neg (by decide), if_neg (by decide), if_pos rfl, rqCol_t (vp_in_nI hc (by decide)), if_pos rfl, rqName_t (vp_in_nI hn (by decide)), if_pos rfl, c_hasColumn hc, ite_iB]
theorem v_ac2 {zb zo zt : Tr} {zf : Int32} {c n : Nat} (hc : c < 8) (hn : n < 100) (h : ¬ bt zt.1 c = true) : f_X2_addColumn zb zo zt zf 2 (nI c) (nI n) = (f_X1_columnCount (f_X1_putColumn zt (nI c) (nI n)), zb, zo, f_X1_putColumn zt (nI c) (nI n), 0) := by
  rw [f_X2_addColumn, if_neg (by decide), if_neg (by decide), if_pos rfl, rqCol_t (vp_in_nI hc (by decide)), if_pos rfl, rqName_t (vp_in_nI hn (by decide)), if_pos rfl, c_hasColumn hc, ite_iB, if_neg h]
theorem x_st2 {zb zo zt : Tr} {r c v : Nat} (hr : r < 24) (hc : c < 8) (hv : v < 9999) (h1 : bt zt.2.1 r = true) (h2 : bt zt.1 c = true) : f_X2_set_x zb zo zt 2 (nI r) (nI c) (nI v) = 0 := by
  rw [f_X2_set_x, if_neg (by decide), if_neg (by decide), if_pos rfl, f_X2_requireRowOf_x, f_X2_requireColumnOf_x, c_hasRow hr, c_hasColumn hc, h1, h2, if_neg (show ¬ iB true = 0 by decide), if_pos rfl, if_pos rfl, if_neg (in99 hv).1, if_pos (in99 hv).2]
theorem v_st2 {zb zo zt : Tr} {zf : Int32} {r c v : Nat} (hr : r < 24) (hc : c < 8) (hv : v < 9999) (h1 : bt zt.2.1 r = true) (h2 : bt zt.1 c = true) : f_X2_set zb zo zt zf 2 (nI r) (nI c) (nI v) = (f_X1_cellAt zt (nI r) (nI c), zb, zo, f_X1_putCell zt (nI r) (nI c) (nI v), 0) := by
  rw [f_X2_set, if_neg (by decide), if_neg (by decide), if_pos rfl, f_X2_requireRowOf_x, f_X2_requireColumnOf_x, c_hasRow hr, c_hasColumn hc, h1, h2, if_neg (show ¬ iB true = 0 by decide), if_pos rfl, if_pos rfl, if_neg (in99 hv).1, if_pos (in99 hv).2]
