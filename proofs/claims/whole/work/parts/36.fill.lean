/-! ===== the eight that fill or set ===== -/
theorem cnt_c {t : Tr} (h : tI t) : f_X1_columnCount t = f_X3_count t.1 := c_cnt (fun i hi => h.1 i (by omega))
theorem cnt_r {t : Tr} (h : tI t) : f_X1_rowCount t = f_X3_count t.2.1 := c_cnt h.2.1
theorem v3 {k : Nat} (h : k < 3) : vp_in (nI k) (2 + 1) := vp_in_nI h (by decide)
theorem v8 {c : Nat} (h : c < 8) : vp_in (nI c) (7 + 1) := vp_in_nI h (by decide)
theorem v24 {c : Nat} (h : c < 24) : vp_in (nI c) (23 + 1) := vp_in_nI h (by decide)
section MFill
variable {mc mw mn me : Nat → Int32} {mf K : Int32} {k r c : Nat}
theorem M_addColumn (hK : K = nI k) (hk : k < 3) (hc : c < 8) {n : Int32} (hn : vp_in n 100) (hb : bt (mc k) c = false) : f_X3_addColumn mc mn me mf K (nI c) n = (f_X3_count (upd mc k (mc k ||| ((1 : Int32) <<< (nI c &&& 31))) k), upd mc k (mc k ||| ((1 : Int32) <<< (nI c &&& 31))), upd mn (8 * k + c) n, it (fun i z => upd z (192 * k + 8 * i + c) 0) me 24, 0, 0) := by
  subst hK
  rw [f_X3_addColumn, isIn_t (v3 hk) (by decide) rfl J_2, if_neg (show ¬ (1 : Int32) = 0 by decide), isIn_t (v8 hc) (by decide) rfl J_7, if_neg (show ¬ (1 : Int32) = 0 by decide), isIn_t (n := 99) hn (by decide) rfl J_99, if_neg (show ¬ (1 : Int32) = 0 by decide), m_hasColumn rfl (by omega) (by omega), hb, if_pos (show iB false = 0 from rfl), nI_clamp (show k < 2 ^ 31 by omega), ix_2 (by omega) hc]
  rw [f_X3_addColumn_la, it_cong (f := fun (i9 : Nat) (z9 : Nat → Int32) => f_X3_addColumn_sa (nI k) (nI c) i9 z9) (g := fun i z => upd z (192 * k + 8 * i + c) 0) (fun i hi x => by
    show upd x _ 0 = upd x _ 0
    rw [ix_3 (by omega) hi hc])]
theorem M_addRow (hK : K = nI k) (hk : k < 3) (hr : r < 24) (hb : bt (mw k) r = false) : f_X3_addRow mw me mf K (nI r) = (f_X3_count (upd mw k (mw k ||| ((1 : Int32) <<< (nI r &&& 31))) k), upd mw k (mw k ||| ((1 : Int32) <<< (nI r &&& 31))), it (fun i z => upd z (192 * k + 8 * r + i) 0) me 8, 0, 0) := by
  subst hK
  rw [f_X3_addRow, isIn_t (v3 hk) (by decide) rfl J_2, if_neg (show ¬ (1 : Int32) = 0 by decide), isIn_t (v24 hr) (by decide) rfl J_23, if_neg (show ¬ (1 : Int32) = 0 by decide), m_hasRow rfl (by omega) (by omega), hb, if_pos (show iB false = 0 from rfl), nI_clamp (show k < 2 ^ 31 by omega)]
  rw [f_X3_addRow_la, it_cong (f := fun (i9 : Nat) (z9 : Nat → Int32) => f_X3_addRow_sa (nI k) (nI r) i9 z9) (g := fun i z => upd z (192 * k + 8 * r + i) 0) (fun i hi x => by
    show upd x _ 0 = upd x _ 0
    rw [ix_3 (by omega) hr hi])]
theorem z_col (hk : k < 4) (hc : c < 8) : (∀ q, q < 24 → it (fun i z => upd z (192 * k + 8 * i + c) 0) me 24 (192 * k + 8 * q + c) = 0) ∧ (∀ q d, q < 24 → d < 8 → d ≠ c → it (fun i z => upd z (192 * k + 8 * i + c) 0) me 24 (192 * k + 8 * q + d) = me (192 * k + 8 * q + d)) ∧ (∀ j q d, j < 4 → q < 24 → d < 8 → j ≠ k → it (fun i z => upd z (192 * k + 8 * i + c) 0) me 24 (192 * j + 8 * q + d) = me (192 * j + 8 * q + d)) :=
  ⟨fun q hq => it_z_in (g := fun i => 192 * k + 8 * i + c) (i := q) hq, fun q d _ _ _ => it_z_out (g := fun i => 192 * k + 8 * i + c) (fun i _ => by omega), fun j q d _ _ _ _ => it_z_out (g := fun i => 192 * k + 8 * i + c) (fun i _ => by omega)⟩
theorem z_row (hk : k < 4) (hr : r < 24) : (∀ d, d < 8 → it (fun i z => upd z (192 * k + 8 * r + i) 0) me 8 (192 * k + 8 * r + d) = 0) ∧ (∀ q d, q < 24 → d < 8 → q ≠ r → it (fun i z => upd z (192 * k + 8 * r + i) 0) me 8 (192 * k + 8 * q + d) = me (192 * k + 8 * q + d)) ∧ (∀ j q d, j < 4 → q < 24 → d < 8 → j ≠ k → it (fun i z => upd z (192 * k + 8 * r + i) 0) me 8 (192 * j + 8 * q + d) = me (192 * j + 8 * q + d)) :=
  ⟨fun d hd => it_z_in (g := fun i => 192 * k + 8 * r + i) (i := d) hd, fun q d _ _ _ => it_z_out (g := fun i => 192 * k + 8 * r + i) (fun i _ => by omega), fun j q d _ _ _ _ => it_z_out (g := fun i => 192 * k + 8 * r + i) (fun i _ => by omega)⟩
theorem M_finds2 (hK : K = nI k) (hk : k < 3) (hc : c < 8) : f_X3_findsColumn_2 mc K (nI c) = if bt (mc k) c = true then (1, 0) else (0, 1) := by
  subst hK
  rw [f_X3_findsColumn_2, isIn_t (v3 hk) (by decide) rfl J_2, if_neg (show ¬ (1 : Int32) = 0 by decide), isIn_t (v8 hc) (by decide) rfl J_7, if_neg (show ¬ (1 : Int32) = 0 by decide), m_hasColumn rfl (by omega) (by omega), ite_iB]
theorem M_finds2o {p1 p2 : Int32} (h : ¬ (vp_in p1 3 ∧ vp_in p2 8)) : f_X3_findsColumn_2 mc p1 p2 = (0, 1) := by
  rw [f_X3_findsColumn_2]
  by_cases h1 : vp_in p1 3
  · rw [isIn_t (n := 2) h1 (by decide) rfl J_2, if_neg (show ¬ (1 : Int32) = 0 by decide), isIn_f (n := 7) (fun z => h ⟨h1, z⟩) (by decide) rfl J_7, if_pos rfl]
  · rw [isIn_f (n := 2) h1 (by decide) rfl J_2, if_pos rfl]
theorem M_findc2 (hK : K = nI k) (hk : k < 3) (hr : r < 24) (hc : c < 8) : f_X3_findsCell_2 mc mw K (nI r) (nI c) = if (bt (mw k) r && bt (mc k) c) = true then (1, 0) else (0, 1) := by
  subst hK
  rw [f_X3_findsCell_2, isIn_t (v3 hk) (by decide) rfl J_2, if_neg (show ¬ (1 : Int32) = 0 by decide), isIn_t (v24 hr) (by decide) rfl J_23, if_neg (show ¬ (1 : Int32) = 0 by decide), isIn_t (v8 hc) (by decide) rfl J_7, if_neg (show ¬ (1 : Int32) = 0 by decide), f_X3_hasCell, m_hasRow rfl (by omega) (by omega), m_hasColumn rfl (by omega) (by omega)]
  cases bt (mw k) r <;> cases bt (mc k) c <;> rfl
theorem M_findc2o {p1 p2 p3 : Int32} (h : ¬ (vp_in p1 3 ∧ vp_in p2 24 ∧ vp_in p3 8)) : f_X3_findsCell_2 mc mw p1 p2 p3 = (0, 1) := by
  rw [f_X3_findsCell_2]
  by_cases h1 : vp_in p1 3
  · rw [isIn_t (n := 2) h1 (by decide) rfl J_2, if_neg (show ¬ (1 : Int32) = 0 by decide)]
    by_cases h2 : vp_in p2 24
    · rw [isIn_t (n := 23) h2 (by decide) rfl J_23, if_neg (show ¬ (1 : Int32) = 0 by decide), isIn_f (n := 7) (fun z => h ⟨h1, h2, z⟩) (by decide) rfl J_7, if_pos rfl]
    · rw [isIn_f (n := 23) h2 (by decide) rfl J_23, if_pos rfl]
  · rw [isIn_f (n := 2) h1 (by decide) rfl J_2, if_pos rfl]
end MFill
theorem rqc_o {t : Tr} {x : Int32} (h : ¬ vp_in x 8) : f_X2_requireColumnOf_x t x = 1 := by rw [f_X2_requireColumnOf_x, c_hasColumn_o h, if_pos rfl]
theorem rqc_i {t : Tr} {c : Nat} (hc : c < 8) : f_X2_requireColumnOf_x t (nI c) = if bt t.1 c = true then 0 else 1 := by rw [f_X2_requireColumnOf_x, c_hasColumn hc, ite_iB]
theorem rqr_o {t : Tr} {x : Int32} (h : ¬ vp_in x 24) : f_X2_requireRowOf_x t x = 1 := by rw [f_X2_requireRowOf_x, c_hasRow_o h, if_pos rfl]
theorem rqr_i {t : Tr} {r : Nat} (hr : r < 24) : f_X2_requireRowOf_x t (nI r) = if bt t.2.1 r = true then 0 else 1 := by rw [f_X2_requireRowOf_x, c_hasRow hr, ite_iB]
section Fill
variable {zb zo zt zm : Tr} {zu zr : Nat → Int32} {zl : Lr} {zf : Int32} {mc mw mn me mu mr : Nat → Int32} {mz : Kr} {mf : Int32}
set_option maxRecDepth 10000 in
theorem s_addColumn (R : Rl zb zo zt zm zu zr zl zf mc mw mn me mu mr mz mf) (p1 p2 p3 : Int32) :
    (f_X2_addColumn_x zb zo zt p1 p2 p3 = 0 ∧ (f_X3_addColumn mc mn me mf p1 p2 p3).2.2.2.2.2 = 0 ∧ (f_X2_addColumn zb zo zt zf p1 p2 p3).1 = (f_X3_addColumn mc mn me mf p1 p2 p3).1 ∧ Rl ((f_X2_addColumn zb zo zt zf p1 p2 p3).2.1) ((f_X2_addColumn zb zo zt zf p1 p2 p3).2.2.1) ((f_X2_addColumn zb zo zt zf p1 p2 p3).2.2.2.1) zm zu zr zl ((f_X2_addColumn zb zo zt zf p1 p2 p3).2.2.2.2) ((f_X3_addColumn mc mn me mf p1 p2 p3).2.1) mw ((f_X3_addColumn mc mn me mf p1 p2 p3).2.2.1) ((f_X3_addColumn mc mn me mf p1 p2 p3).2.2.2.1) mu mr mz ((f_X3_addColumn mc mn me mf p1 p2 p3).2.2.2.2.1))
    ∨ (¬ f_X2_addColumn_x zb zo zt p1 p2 p3 = 0 ∧ (f_X3_addColumn mc mn me mf p1 p2 p3).2.2.2.2.2 = nI (f_X2_addColumn_x zb zo zt p1 p2 p3) ∧ Rl zb zo zt zm zu zr zl zf ((f_X3_addColumn mc mn me mf p1 p2 p3).2.1) mw ((f_X3_addColumn mc mn me mf p1 p2 p3).2.2.1) ((f_X3_addColumn mc mn me mf p1 p2 p3).2.2.2.1) mu mr mz ((f_X3_addColumn mc mn me mf p1 p2 p3).2.2.2.2.1)) := by
  obtain ⟨⟨i0, i1, i2, i3⟩, ⟨m0, m1, m2, m3⟩, -⟩ := id R
  rcases ar3 (x := p1) with (rfl | rfl | rfl) | h1
  · by_cases h2 : vp_in p2 8
    · obtain ⟨c, hc, rfl⟩ := cl8 h2
      by_cases h3 : vp_in p3 100
      · cases hb : bt zb.1 c
        · have eX : f_X2_addColumn_x zb zo zt (0 : Int32) (nI c) p3 = 0 := by rw [f_X2_addColumn_x, if_pos (rfl : (0 : Int32) = 0), if_pos (rqCol_t h2), if_pos (rqName_t h3), c_hasColumn hc, hb, if_pos (show iB false = 0 from rfl)]
          have eC : f_X2_addColumn zb zo zt zf (0 : Int32) (nI c) p3 = (f_X1_columnCount (f_X1_putColumn zb (nI c) p3), f_X1_putColumn zb (nI c) p3, zo, zt, 0) := by rw [f_X2_addColumn, if_pos (rfl : (0 : Int32) = 0), if_pos (rqCol_t h2), if_pos (rqName_t h3), c_hasColumn hc, hb, if_pos (show iB false = 0 from rfl)]
          have eM := M_addColumn (mc := mc) (mn := mn) (me := me) (mf := mf) (K := 0) (k := 0) rfl (by decide) hc h3 (by rw [← m0.1]; exact hb)
          obtain ⟨z1, z2, z3⟩ := z_col (me := me) (k := 0) (c := c) (by decide) hc
          have hI := tI_putColumn i0 hc p3 hb
          have hM := tM_putColumn i0 m0 (by decide) hc p3 hb z1 z2
          exact Or.inl ⟨eX, by rw [eM], by rw [eC, eM]; exact (cnt_c hI).trans (congrArg f_X3_count hM.1), by rw [eC, eM]; exact Rl_0 R hI hM (fr_cn (by decide) hc z3)⟩
        · skip
          have eX : f_X2_addColumn_x zb zo zt (0 : Int32) (nI c) p3 = 3 := by rw [f_X2_addColumn_x, if_pos (rfl : (0 : Int32) = 0), if_pos (rqCol_t h2), if_pos (rqName_t h3), c_hasColumn hc, hb, if_neg (show ¬ iB true = 0 by decide)]
          have eM : f_X3_addColumn mc mn me mf (0 : Int32) (nI c) p3 = (0, mc, mn, me, mf, 3) := by rw [f_X3_addColumn, isIn_t (x := (0 : Int32)) (n := 2) (v3 (k := 0) (by decide)) (by decide) rfl J_2, if_neg (show ¬ (1 : Int32) = 0 by decide), isIn_t (v8 hc) (by decide) rfl J_7, if_neg (show ¬ (1 : Int32) = 0 by decide), isIn_t (n := 99) h3 (by decide) rfl J_99, if_neg (show ¬ (1 : Int32) = 0 by decide), m_hasColumn (k := 0) I_0 (by decide) (by omega), ← m0.1, hb, if_neg (show ¬ iB true = 0 by decide)]
          refine Or.inr ⟨by rw [eX]; decide, by rw [eX, eM]; rfl, by rw [eM]; exact R⟩
      · skip
        have eX : f_X2_addColumn_x zb zo zt (0 : Int32) (nI c) p3 = 2 := by rw [f_X2_addColumn_x, if_pos (rfl : (0 : Int32) = 0), if_pos (rqCol_t h2), rqName_f h3, if_neg (by decide)]
        have eM : f_X3_addColumn mc mn me mf (0 : Int32) (nI c) p3 = (0, mc, mn, me, mf, 2) := by rw [f_X3_addColumn, isIn_t (x := (0 : Int32)) (n := 2) (v3 (k := 0) (by decide)) (by decide) rfl J_2, if_neg (show ¬ (1 : Int32) = 0 by decide), isIn_t (v8 hc) (by decide) rfl J_7, if_neg (show ¬ (1 : Int32) = 0 by decide), isIn_f (n := 99) h3 (by decide) rfl J_99, if_pos rfl]
        refine Or.inr ⟨by rw [eX]; decide, by rw [eX, eM]; rfl, by rw [eM]; exact R⟩
    · skip
      have eX : f_X2_addColumn_x zb zo zt (0 : Int32) p2 p3 = 1 := by rw [f_X2_addColumn_x, if_pos (rfl : (0 : Int32) = 0), rqCol_f h2, if_neg (by decide)]
      have eM : f_X3_addColumn mc mn me mf (0 : Int32) p2 p3 = (0, mc, mn, me, mf, 1) := by rw [f_X3_addColumn, isIn_t (x := (0 : Int32)) (n := 2) (v3 (k := 0) (by decide)) (by decide) rfl J_2, if_neg (show ¬ (1 : Int32) = 0 by decide), isIn_f (n := 7) h2 (by decide) rfl J_7, if_pos rfl]
      refine Or.inr ⟨by rw [eX]; decide, by rw [eX, eM]; rfl, by rw [eM]; exact R⟩
  · by_cases h2 : vp_in p2 8
    · obtain ⟨c, hc, rfl⟩ := cl8 h2
      by_cases h3 : vp_in p3 100
      · cases hb : bt zo.1 c
        · have eX : f_X2_addColumn_x zb zo zt (1 : Int32) (nI c) p3 = 0 := by rw [f_X2_addColumn_x, if_neg (show ¬ (1 : Int32) = 0 by decide), if_pos (rfl : (1 : Int32) = 1), if_pos (rqCol_t h2), if_pos (rqName_t h3), c_hasColumn hc, hb, if_pos (show iB false = 0 from rfl)]
          have eC : f_X2_addColumn zb zo zt zf (1 : Int32) (nI c) p3 = (f_X1_columnCount (f_X1_putColumn zo (nI c) p3), zb, f_X1_putColumn zo (nI c) p3, zt, 0) := by rw [f_X2_addColumn, if_neg (show ¬ (1 : Int32) = 0 by decide), if_pos (rfl : (1 : Int32) = 1), if_pos (rqCol_t h2), if_pos (rqName_t h3), c_hasColumn hc, hb, if_pos (show iB false = 0 from rfl)]
          have eM := M_addColumn (mc := mc) (mn := mn) (me := me) (mf := mf) (K := 1) (k := 1) rfl (by decide) hc h3 (by rw [← m1.1]; exact hb)
          obtain ⟨z1, z2, z3⟩ := z_col (me := me) (k := 1) (c := c) (by decide) hc
          have hI := tI_putColumn i1 hc p3 hb
          have hM := tM_putColumn i1 m1 (by decide) hc p3 hb z1 z2
          exact Or.inl ⟨eX, by rw [eM], by rw [eC, eM]; exact (cnt_c hI).trans (congrArg f_X3_count hM.1), by rw [eC, eM]; exact Rl_1 R hI hM (fr_cn (by decide) hc z3)⟩
        · skip
          have eX : f_X2_addColumn_x zb zo zt (1 : Int32) (nI c) p3 = 3 := by rw [f_X2_addColumn_x, if_neg (show ¬ (1 : Int32) = 0 by decide), if_pos (rfl : (1 : Int32) = 1), if_pos (rqCol_t h2), if_pos (rqName_t h3), c_hasColumn hc, hb, if_neg (show ¬ iB true = 0 by decide)]
          have eM : f_X3_addColumn mc mn me mf (1 : Int32) (nI c) p3 = (0, mc, mn, me, mf, 3) := by rw [f_X3_addColumn, isIn_t (x := (1 : Int32)) (n := 2) (v3 (k := 1) (by decide)) (by decide) rfl J_2, if_neg (show ¬ (1 : Int32) = 0 by decide), isIn_t (v8 hc) (by decide) rfl J_7, if_neg (show ¬ (1 : Int32) = 0 by decide), isIn_t (n := 99) h3 (by decide) rfl J_99, if_neg (show ¬ (1 : Int32) = 0 by decide), m_hasColumn (k := 1) I_1 (by decide) (by omega), ← m1.1, hb, if_neg (show ¬ iB true = 0 by decide)]
          refine Or.inr ⟨by rw [eX]; decide, by rw [eX, eM]; rfl, by rw [eM]; exact R⟩
      · skip
        have eX : f_X2_addColumn_x zb zo zt (1 : Int32) (nI c) p3 = 2 := by rw [f_X2_addColumn_x, if_neg (show ¬ (1 : Int32) = 0 by decide), if_pos (rfl : (1 : Int32) = 1), if_pos (rqCol_t h2), rqName_f h3, if_neg (by decide)]
        have eM : f_X3_addColumn mc mn me mf (1 : Int32) (nI c) p3 = (0, mc, mn, me, mf, 2) := by rw [f_X3_addColumn, isIn_t (x := (1 : Int32)) (n := 2) (v3 (k := 1) (by decide)) (by decide) rfl J_2, if_neg (show ¬ (1 : Int32) = 0 by decide), isIn_t (v8 hc) (by decide) rfl J_7, if_neg (show ¬ (1 : Int32) = 0 by decide), isIn_f (n := 99) h3 (by decide) rfl J_99, if_pos rfl]
        refine Or.inr ⟨by rw [eX]; decide, by rw [eX, eM]; rfl, by rw [eM]; exact R⟩
    · skip
      have eX : f_X2_addColumn_x zb zo zt (1 : Int32) p2 p3 = 1 := by rw [f_X2_addColumn_x, if_neg (show ¬ (1 : Int32) = 0 by decide), if_pos (rfl : (1 : Int32) = 1), rqCol_f h2, if_neg (by decide)]
      have eM : f_X3_addColumn mc mn me mf (1 : Int32) p2 p3 = (0, mc, mn, me, mf, 1) := by rw [f_X3_addColumn, isIn_t (x := (1 : Int32)) (n := 2) (v3 (k := 1) (by decide)) (by decide) rfl J_2, if_neg (show ¬ (1 : Int32) = 0 by decide), isIn_f (n := 7) h2 (by decide) rfl J_7, if_pos rfl]
      refine Or.inr ⟨by rw [eX]; decide, by rw [eX, eM]; rfl, by rw [eM]; exact R⟩
  · by_cases h2 : vp_in p2 8
    · obtain ⟨c, hc, rfl⟩ := cl8 h2
      by_cases h3 : vp_in p3 100
      · cases hb : bt zt.1 c
        · have eX : f_X2_addColumn_x zb zo zt (2 : Int32) (nI c) p3 = 0 := by rw [f_X2_addColumn_x, if_neg (show ¬ (2 : Int32) = 0 by decide), if_neg (show ¬ (2 : Int32) = 1 by decide), if_pos (rfl : (2 : Int32) = 2), if_pos (rqCol_t h2), if_pos (rqName_t h3), c_hasColumn hc, hb, if_pos (show iB false = 0 from rfl)]
          have eC : f_X2_addColumn zb zo zt zf (2 : Int32) (nI c) p3 = (f_X1_columnCount (f_X1_putColumn zt (nI c) p3), zb, zo, f_X1_putColumn zt (nI c) p3, 0) := by rw [f_X2_addColumn, if_neg (show ¬ (2 : Int32) = 0 by decide), if_neg (show ¬ (2 : Int32) = 1 by decide), if_pos (rfl : (2 : Int32) = 2), if_pos (rqCol_t h2), if_pos (rqName_t h3), c_hasColumn hc, hb, if_pos (show iB false = 0 from rfl)]
          have eM := M_addColumn (mc := mc) (mn := mn) (me := me) (mf := mf) (K := 2) (k := 2) rfl (by decide) hc h3 (by rw [← m2.1]; exact hb)
          obtain ⟨z1, z2, z3⟩ := z_col (me := me) (k := 2) (c := c) (by decide) hc
          have hI := tI_putColumn i2 hc p3 hb
          have hM := tM_putColumn i2 m2 (by decide) hc p3 hb z1 z2
          exact Or.inl ⟨eX, by rw [eM], by rw [eC, eM]; exact (cnt_c hI).trans (congrArg f_X3_count hM.1), by rw [eC, eM]; exact Rl_2 R hI hM (fr_cn (by decide) hc z3)⟩
        · skip
          have eX : f_X2_addColumn_x zb zo zt (2 : Int32) (nI c) p3 = 3 := by rw [f_X2_addColumn_x, if_neg (show ¬ (2 : Int32) = 0 by decide), if_neg (show ¬ (2 : Int32) = 1 by decide), if_pos (rfl : (2 : Int32) = 2), if_pos (rqCol_t h2), if_pos (rqName_t h3), c_hasColumn hc, hb, if_neg (show ¬ iB true = 0 by decide)]
          have eM : f_X3_addColumn mc mn me mf (2 : Int32) (nI c) p3 = (0, mc, mn, me, mf, 3) := by rw [f_X3_addColumn, isIn_t (x := (2 : Int32)) (n := 2) (v3 (k := 2) (by decide)) (by decide) rfl J_2, if_neg (show ¬ (1 : Int32) = 0 by decide), isIn_t (v8 hc) (by decide) rfl J_7, if_neg (show ¬ (1 : Int32) = 0 by decide), isIn_t (n := 99) h3 (by decide) rfl J_99, if_neg (show ¬ (1 : Int32) = 0 by decide), m_hasColumn (k := 2) I_2 (by decide) (by omega), ← m2.1, hb, if_neg (show ¬ iB true = 0 by decide)]
          refine Or.inr ⟨by rw [eX]; decide, by rw [eX, eM]; rfl, by rw [eM]; exact R⟩
      · skip
        have eX : f_X2_addColumn_x zb zo zt (2 : Int32) (nI c) p3 = 2 := by rw [f_X2_addColumn_x, if_neg (show ¬ (2 : Int32) = 0 by decide), if_neg (show ¬ (2 : Int32) = 1 by decide), if_pos (rfl : (2 : Int32) = 2), if_pos (rqCol_t h2), rqName_f h3, if_neg (by decide)]
        have eM : f_X3_addColumn mc mn me mf (2 : Int32) (nI c) p3 = (0, mc, mn, me, mf, 2) := by rw [f_X3_addColumn, isIn_t (x := (2 : Int32)) (n := 2) (v3 (k := 2) (by decide)) (by decide) rfl J_2, if_neg (show ¬ (1 : Int32) = 0 by decide), isIn_t (v8 hc) (by decide) rfl J_7, if_neg (show ¬ (1 : Int32) = 0 by decide), isIn_f (n := 99) h3 (by decide) rfl J_99, if_pos rfl]
        refine Or.inr ⟨by rw [eX]; decide, by rw [eX, eM]; rfl, by rw [eM]; exact R⟩
    · skip
      have eX : f_X2_addColumn_x zb zo zt (2 : Int32) p2 p3 = 1 := by rw [f_X2_addColumn_x, if_neg (show ¬ (2 : Int32) = 0 by decide), if_neg (show ¬ (2 : Int32) = 1 by decide), if_pos (rfl : (2 : Int32) = 2), rqCol_f h2, if_neg (by decide)]
      have eM : f_X3_addColumn mc mn me mf (2 : Int32) p2 p3 = (0, mc, mn, me, mf, 1) := by rw [f_X3_addColumn, isIn_t (x := (2 : Int32)) (n := 2) (v3 (k := 2) (by decide)) (by decide) rfl J_2, if_neg (show ¬ (1 : Int32) = 0 by decide), isIn_f (n := 7) h2 (by decide) rfl J_7, if_pos rfl]
      refine Or.inr ⟨by rw [eX]; decide, by rw [eX, eM]; rfl, by rw [eM]; exact R⟩
  · skip
    have eX : f_X2_addColumn_x zb zo zt p1 p2 p3 = 1 := by rw [f_X2_addColumn_x, if_neg (o3 h1).1, if_neg (o3 h1).2.1, if_neg (o3 h1).2.2]
    have eM : f_X3_addColumn mc mn me mf p1 p2 p3 = (0, mc, mn, me, mf, 1) := by rw [f_X3_addColumn, isIn_f (n := 2) h1 (by decide) rfl J_2, if_pos rfl]
    refine Or.inr ⟨by rw [eX]; decide, by rw [eX, eM]; rfl, by rw [eM]; exact R⟩
set_option maxRecDepth 10000 in
theorem s_dropColumn (R : Rl zb zo zt zm zu zr zl zf mc mw mn me mu mr mz mf) (p1 p2 : Int32) :
    (f_X2_dropColumn_x zb zo zt p1 p2 = 0 ∧ (f_X3_dropColumn mc mn mf p1 p2).2.2.2 = 0 ∧ (f_X2_dropColumn zb zo zt zf p1 p2).1 = (f_X3_dropColumn mc mn mf p1 p2).1 ∧ Rl ((f_X2_dropColumn zb zo zt zf p1 p2).2.1) ((f_X2_dropColumn zb zo zt zf p1 p2).2.2.1) ((f_X2_dropColumn zb zo zt zf p1 p2).2.2.2.1) zm zu zr zl ((f_X2_dropColumn zb zo zt zf p1 p2).2.2.2.2) ((f_X3_dropColumn mc mn mf p1 p2).2.1) mw mn me mu mr mz ((f_X3_dropColumn mc mn mf p1 p2).2.2.1))
    ∨ (¬ f_X2_dropColumn_x zb zo zt p1 p2 = 0 ∧ (f_X3_dropColumn mc mn mf p1 p2).2.2.2 = nI (f_X2_dropColumn_x zb zo zt p1 p2) ∧ Rl zb zo zt zm zu zr zl zf ((f_X3_dropColumn mc mn mf p1 p2).2.1) mw mn me mu mr mz ((f_X3_dropColumn mc mn mf p1 p2).2.2.1)) := by
  obtain ⟨⟨i0, i1, i2, i3⟩, ⟨m0, m1, m2, m3⟩, -⟩ := id R
  rcases ar3 (x := p1) with (rfl | rfl | rfl) | h1
  · by_cases h2 : vp_in p2 8
    · obtain ⟨c, hc, rfl⟩ := cl8 h2
      have eF := M_finds2 (mc := mc) (K := 0) (k := 0) rfl (by decide) hc
      rw [← m0.1] at eF
      cases hb : bt zb.1 c
      · rw [hb, if_neg (by decide)] at eF
        have eX : f_X2_dropColumn_x zb zo zt (0 : Int32) (nI c) = 1 := by rw [f_X2_dropColumn_x, if_pos (rfl : (0 : Int32) = 0), rqc_i hc, hb, if_neg (show ¬ false = true by decide), if_neg (by decide)]
        have eM : f_X3_dropColumn mc mn mf (0 : Int32) (nI c) = (0, mc, mf, 1) := by rw [f_X3_dropColumn, eF, if_pos rfl]
        refine Or.inr ⟨by rw [eX]; decide, by rw [eX, eM]; rfl, by rw [eM]; exact R⟩
      · rw [hb, if_pos rfl] at eF
        have eX : f_X2_dropColumn_x zb zo zt (0 : Int32) (nI c) = 0 := by rw [f_X2_dropColumn_x, if_pos (rfl : (0 : Int32) = 0), rqc_i hc, hb, if_pos (rfl : true = true), if_pos rfl]
        have eC : f_X2_dropColumn zb zo zt zf (0 : Int32) (nI c) = (f_X1_nameAt zb (nI c), f_X1_cutColumn zb (nI c), zo, zt, 0) := by rw [f_X2_dropColumn, if_pos (rfl : (0 : Int32) = 0), rqc_i hc, hb, if_pos (rfl : true = true), if_pos (rfl : (0 : Nat) = 0)]
        have eM : f_X3_dropColumn mc mn mf (0 : Int32) (nI c) = (mn (8 * 0 + c), upd mc 0 (mc 0 &&& (((1 : Int32) <<< (nI c &&& 31)) ^^^ (-1))), 0, 0) := by rw [f_X3_dropColumn, eF, if_neg (show ¬ (1 : Int32) = 0 by decide)]; rw [show ((8 : Int32) * 0 + nI c).toNatClampNeg = 8 * 0 + c from ix_2 (k := 0) (by decide) hc]; rfl
        exact Or.inl ⟨eX, by rw [eM], by rw [eC, eM]; exact (c_nameAt i0 hc).trans (m0.2.2.1 c hc hb).symm, by rw [eC, eM]; exact Rl_0 R (tI_cutColumn i0 hc hb) (tM_cutColumn i0 m0 hc hb) fr_c⟩
    · skip
      have eX : f_X2_dropColumn_x zb zo zt (0 : Int32) p2 = 1 := by rw [f_X2_dropColumn_x, if_pos (rfl : (0 : Int32) = 0), rqc_o h2, if_neg (by decide)]
      have eM : f_X3_dropColumn mc mn mf (0 : Int32) p2 = (0, mc, mf, 1) := by rw [f_X3_dropColumn, M_finds2o (fun z => h2 z.2), if_pos rfl]
      refine Or.inr ⟨by rw [eX]; decide, by rw [eX, eM]; rfl, by rw [eM]; exact R⟩
  · by_cases h2 : vp_in p2 8
    · obtain ⟨c, hc, rfl⟩ := cl8 h2
      have eF := M_finds2 (mc := mc) (K := 1) (k := 1) rfl (by decide) hc
      rw [← m1.1] at eF
      cases hb : bt zo.1 c
      · rw [hb, if_neg (by decide)] at eF
        have eX : f_X2_dropColumn_x zb zo zt (1 : Int32) (nI c) = 1 := by rw [f_X2_dropColumn_x, if_neg (show ¬ (1 : Int32) = 0 by decide), if_pos (rfl : (1 : Int32) = 1), rqc_i hc, hb, if_neg (show ¬ false = true by decide), if_neg (by decide)]
        have eM : f_X3_dropColumn mc mn mf (1 : Int32) (nI c) = (0, mc, mf, 1) := by rw [f_X3_dropColumn, eF, if_pos rfl]
        refine Or.inr ⟨by rw [eX]; decide, by rw [eX, eM]; rfl, by rw [eM]; exact R⟩
      · rw [hb, if_pos rfl] at eF
        have eX : f_X2_dropColumn_x zb zo zt (1 : Int32) (nI c) = 0 := by rw [f_X2_dropColumn_x, if_neg (show ¬ (1 : Int32) = 0 by decide), if_pos (rfl : (1 : Int32) = 1), rqc_i hc, hb, if_pos (rfl : true = true), if_pos rfl]
        have eC : f_X2_dropColumn zb zo zt zf (1 : Int32) (nI c) = (f_X1_nameAt zo (nI c), zb, f_X1_cutColumn zo (nI c), zt, 0) := by rw [f_X2_dropColumn, if_neg (show ¬ (1 : Int32) = 0 by decide), if_pos (rfl : (1 : Int32) = 1), rqc_i hc, hb, if_pos (rfl : true = true), if_pos (rfl : (0 : Nat) = 0)]
        have eM : f_X3_dropColumn mc mn mf (1 : Int32) (nI c) = (mn (8 * 1 + c), upd mc 1 (mc 1 &&& (((1 : Int32) <<< (nI c &&& 31)) ^^^ (-1))), 0, 0) := by rw [f_X3_dropColumn, eF, if_neg (show ¬ (1 : Int32) = 0 by decide)]; rw [show ((8 : Int32) * 1 + nI c).toNatClampNeg = 8 * 1 + c from ix_2 (k := 1) (by decide) hc]; rfl
        exact Or.inl ⟨eX, by rw [eM], by rw [eC, eM]; exact (c_nameAt i1 hc).trans (m1.2.2.1 c hc hb).symm, by rw [eC, eM]; exact Rl_1 R (tI_cutColumn i1 hc hb) (tM_cutColumn i1 m1 hc hb) fr_c⟩
    · skip
      have eX : f_X2_dropColumn_x zb zo zt (1 : Int32) p2 = 1 := by rw [f_X2_dropColumn_x, if_neg (show ¬ (1 : Int32) = 0 by decide), if_pos (rfl : (1 : Int32) = 1), rqc_o h2, if_neg (by decide)]
      have eM : f_X3_dropColumn mc mn mf (1 : Int32) p2 = (0, mc, mf, 1) := by rw [f_X3_dropColumn, M_finds2o (fun z => h2 z.2), if_pos rfl]
      refine Or.inr ⟨by rw [eX]; decide, by rw [eX, eM]; rfl, by rw [eM]; exact R⟩
  · by_cases h2 : vp_in p2 8
    · obtain ⟨c, hc, rfl⟩ := cl8 h2
      have eF := M_finds2 (mc := mc) (K := 2) (k := 2) rfl (by decide) hc
      rw [← m2.1] at eF
      cases hb : bt zt.1 c
      · rw [hb, if_neg (by decide)] at eF
        have eX : f_X2_dropColumn_x zb zo zt (2 : Int32) (nI c) = 1 := by rw [f_X2_dropColumn_x, if_neg (show ¬ (2 : Int32) = 0 by decide), if_neg (show ¬ (2 : Int32) = 1 by decide), if_pos (rfl : (2 : Int32) = 2), rqc_i hc, hb, if_neg (show ¬ false = true by decide), if_neg (by decide)]
        have eM : f_X3_dropColumn mc mn mf (2 : Int32) (nI c) = (0, mc, mf, 1) := by rw [f_X3_dropColumn, eF, if_pos rfl]
        refine Or.inr ⟨by rw [eX]; decide, by rw [eX, eM]; rfl, by rw [eM]; exact R⟩
      · rw [hb, if_pos rfl] at eF
        have eX : f_X2_dropColumn_x zb zo zt (2 : Int32) (nI c) = 0 := by rw [f_X2_dropColumn_x, if_neg (show ¬ (2 : Int32) = 0 by decide), if_neg (show ¬ (2 : Int32) = 1 by decide), if_pos (rfl : (2 : Int32) = 2), rqc_i hc, hb, if_pos (rfl : true = true), if_pos rfl]
        have eC : f_X2_dropColumn zb zo zt zf (2 : Int32) (nI c) = (f_X1_nameAt zt (nI c), zb, zo, f_X1_cutColumn zt (nI c), 0) := by rw [f_X2_dropColumn, if_neg (show ¬ (2 : Int32) = 0 by decide), if_neg (show ¬ (2 : Int32) = 1 by decide), if_pos (rfl : (2 : Int32) = 2), rqc_i hc, hb, if_pos (rfl : true = true), if_pos (rfl : (0 : Nat) = 0)]
        have eM : f_X3_dropColumn mc mn mf (2 : Int32) (nI c) = (mn (8 * 2 + c), upd mc 2 (mc 2 &&& (((1 : Int32) <<< (nI c &&& 31)) ^^^ (-1))), 0, 0) := by rw [f_X3_dropColumn, eF, if_neg (show ¬ (1 : Int32) = 0 by decide)]; rw [show ((8 : Int32) * 2 + nI c).toNatClampNeg = 8 * 2 + c from ix_2 (k := 2) (by decide) hc]; rfl
        exact Or.inl ⟨eX, by rw [eM], by rw [eC, eM]; exact (c_nameAt i2 hc).trans (m2.2.2.1 c hc hb).symm, by rw [eC, eM]; exact Rl_2 R (tI_cutColumn i2 hc hb) (tM_cutColumn i2 m2 hc hb) fr_c⟩
    · skip
      have eX : f_X2_dropColumn_x zb zo zt (2 : Int32) p2 = 1 := by rw [f_X2_dropColumn_x, if_neg (show ¬ (2 : Int32) = 0 by decide), if_neg (show ¬ (2 : Int32) = 1 by decide), if_pos (rfl : (2 : Int32) = 2), rqc_o h2, if_neg (by decide)]
      have eM : f_X3_dropColumn mc mn mf (2 : Int32) p2 = (0, mc, mf, 1) := by rw [f_X3_dropColumn, M_finds2o (fun z => h2 z.2), if_pos rfl]
      refine Or.inr ⟨by rw [eX]; decide, by rw [eX, eM]; rfl, by rw [eM]; exact R⟩
  · skip
    have eX : f_X2_dropColumn_x zb zo zt p1 p2 = 1 := by rw [f_X2_dropColumn_x, if_neg (o3 h1).1, if_neg (o3 h1).2.1, if_neg (o3 h1).2.2]
    have eM : f_X3_dropColumn mc mn mf p1 p2 = (0, mc, mf, 1) := by rw [f_X3_dropColumn, M_finds2o (fun z => h1 z.1), if_pos rfl]
    refine Or.inr ⟨by rw [eX]; decide, by rw [eX, eM]; rfl, by rw [eM]; exact R⟩
set_option maxRecDepth 10000 in
theorem s_rename (R : Rl zb zo zt zm zu zr zl zf mc mw mn me mu mr mz mf) (p1 p2 p3 : Int32) :
    (f_X2_rename_x zb zo zt p1 p2 p3 = 0 ∧ (f_X3_rename mc mn mf p1 p2 p3).2.2.2 = 0 ∧ (f_X2_rename zb zo zt zf p1 p2 p3).1 = (f_X3_rename mc mn mf p1 p2 p3).1 ∧ Rl ((f_X2_rename zb zo zt zf p1 p2 p3).2.1) ((f_X2_rename zb zo zt zf p1 p2 p3).2.2.1) ((f_X2_rename zb zo zt zf p1 p2 p3).2.2.2.1) zm zu zr zl ((f_X2_rename zb zo zt zf p1 p2 p3).2.2.2.2) mc mw ((f_X3_rename mc mn mf p1 p2 p3).2.1) me mu mr mz ((f_X3_rename mc mn mf p1 p2 p3).2.2.1))
    ∨ (¬ f_X2_rename_x zb zo zt p1 p2 p3 = 0 ∧ (f_X3_rename mc mn mf p1 p2 p3).2.2.2 = nI (f_X2_rename_x zb zo zt p1 p2 p3) ∧ Rl zb zo zt zm zu zr zl zf mc mw ((f_X3_rename mc mn mf p1 p2 p3).2.1) me mu mr mz ((f_X3_rename mc mn mf p1 p2 p3).2.2.1)) := by
  obtain ⟨⟨i0, i1, i2, i3⟩, ⟨m0, m1, m2, m3⟩, -⟩ := id R
  rcases ar3 (x := p1) with (rfl | rfl | rfl) | h1
  · by_cases h2 : vp_in p2 8
    · obtain ⟨c, hc, rfl⟩ := cl8 h2
      have eF := M_finds2 (mc := mc) (K := 0) (k := 0) rfl (by decide) hc
      rw [← m0.1] at eF
      cases hb : bt zb.1 c
      · rw [hb, if_neg (by decide)] at eF
        have eX : f_X2_rename_x zb zo zt (0 : Int32) (nI c) p3 = 1 := by rw [f_X2_rename_x, if_pos (rfl : (0 : Int32) = 0), rqc_i hc, hb, if_neg (show ¬ false = true by decide), if_neg (by decide)]
        have eM : f_X3_rename mc mn mf (0 : Int32) (nI c) p3 = (0, mn, mf, 1) := by rw [f_X3_rename, eF, if_pos rfl]
        refine Or.inr ⟨by rw [eX]; decide, by rw [eX, eM]; rfl, by rw [eM]; exact R⟩
      · rw [hb, if_pos rfl] at eF
        by_cases h3 : vp_in p3 100
        · have eX : f_X2_rename_x zb zo zt (0 : Int32) (nI c) p3 = 0 := by rw [f_X2_rename_x, if_pos (rfl : (0 : Int32) = 0), rqc_i hc, hb, if_pos (rfl : true = true), if_pos (rfl : (0 : Nat) = 0), if_pos (rqName_t h3)]
          have eC : f_X2_rename zb zo zt zf (0 : Int32) (nI c) p3 = (f_X1_nameAt zb (nI c), f_X1_putName zb (nI c) p3, zo, zt, 0) := by rw [f_X2_rename, if_pos (rfl : (0 : Int32) = 0), rqc_i hc, hb, if_pos (rfl : true = true), if_pos (rfl : (0 : Nat) = 0), if_pos (rqName_t h3)]
          have eM : f_X3_rename mc mn mf (0 : Int32) (nI c) p3 = (mn (8 * 0 + c), upd mn (8 * 0 + c) p3, 0, 0) := by rw [f_X3_rename, eF, if_neg (show ¬ (1 : Int32) = 0 by decide), isIn_t (n := 99) h3 (by decide) rfl J_99, if_neg (show ¬ (1 : Int32) = 0 by decide)]; rw [show ((8 : Int32) * 0 + nI c).toNatClampNeg = 8 * 0 + c from ix_2 (k := 0) (by decide) hc]
          exact Or.inl ⟨eX, by rw [eM], by rw [eC, eM]; exact (c_nameAt i0 hc).trans (m0.2.2.1 c hc hb).symm, by rw [eC, eM]; exact Rl_0 R (tI_putName i0 hc hb p3) (tM_putName m0 hc hb p3) (fr_n hc)⟩
        · skip
          have eX : f_X2_rename_x zb zo zt (0 : Int32) (nI c) p3 = 2 := by rw [f_X2_rename_x, if_pos (rfl : (0 : Int32) = 0), rqc_i hc, hb, if_pos (rfl : true = true), if_pos (rfl : (0 : Nat) = 0), rqName_f h3, if_neg (by decide)]
          have eM : f_X3_rename mc mn mf (0 : Int32) (nI c) p3 = (0, mn, mf, 2) := by rw [f_X3_rename, eF, if_neg (show ¬ (1 : Int32) = 0 by decide), isIn_f (n := 99) h3 (by decide) rfl J_99, if_pos rfl]
          refine Or.inr ⟨by rw [eX]; decide, by rw [eX, eM]; rfl, by rw [eM]; exact R⟩
    · skip
      have eX : f_X2_rename_x zb zo zt (0 : Int32) p2 p3 = 1 := by rw [f_X2_rename_x, if_pos (rfl : (0 : Int32) = 0), rqc_o h2, if_neg (by decide)]
      have eM : f_X3_rename mc mn mf (0 : Int32) p2 p3 = (0, mn, mf, 1) := by rw [f_X3_rename, M_finds2o (fun z => h2 z.2), if_pos rfl]
      refine Or.inr ⟨by rw [eX]; decide, by rw [eX, eM]; rfl, by rw [eM]; exact R⟩
  · by_cases h2 : vp_in p2 8
    · obtain ⟨c, hc, rfl⟩ := cl8 h2
      have eF := M_finds2 (mc := mc) (K := 1) (k := 1) rfl (by decide) hc
      rw [← m1.1] at eF
      cases hb : bt zo.1 c
      · rw [hb, if_neg (by decide)] at eF
        have eX : f_X2_rename_x zb zo zt (1 : Int32) (nI c) p3 = 1 := by rw [f_X2_rename_x, if_neg (show ¬ (1 : Int32) = 0 by decide), if_pos (rfl : (1 : Int32) = 1), rqc_i hc, hb, if_neg (show ¬ false = true by decide), if_neg (by decide)]
        have eM : f_X3_rename mc mn mf (1 : Int32) (nI c) p3 = (0, mn, mf, 1) := by rw [f_X3_rename, eF, if_pos rfl]
        refine Or.inr ⟨by rw [eX]; decide, by rw [eX, eM]; rfl, by rw [eM]; exact R⟩
      · rw [hb, if_pos rfl] at eF
        by_cases h3 : vp_in p3 100
        · have eX : f_X2_rename_x zb zo zt (1 : Int32) (nI c) p3 = 0 := by rw [f_X2_rename_x, if_neg (show ¬ (1 : Int32) = 0 by decide), if_pos (rfl : (1 : Int32) = 1), rqc_i hc, hb, if_pos (rfl : true = true), if_pos (rfl : (0 : Nat) = 0), if_pos (rqName_t h3)]
          have eC : f_X2_rename zb zo zt zf (1 : Int32) (nI c) p3 = (f_X1_nameAt zo (nI c), zb, f_X1_putName zo (nI c) p3, zt, 0) := by rw [f_X2_rename, if_neg (show ¬ (1 : Int32) = 0 by decide), if_pos (rfl : (1 : Int32) = 1), rqc_i hc, hb, if_pos (rfl : true = true), if_pos (rfl : (0 : Nat) = 0), if_pos (rqName_t h3)]
          have eM : f_X3_rename mc mn mf (1 : Int32) (nI c) p3 = (mn (8 * 1 + c), upd mn (8 * 1 + c) p3, 0, 0) := by rw [f_X3_rename, eF, if_neg (show ¬ (1 : Int32) = 0 by decide), isIn_t (n := 99) h3 (by decide) rfl J_99, if_neg (show ¬ (1 : Int32) = 0 by decide)]; rw [show ((8 : Int32) * 1 + nI c).toNatClampNeg = 8 * 1 + c from ix_2 (k := 1) (by decide) hc]
          exact Or.inl ⟨eX, by rw [eM], by rw [eC, eM]; exact (c_nameAt i1 hc).trans (m1.2.2.1 c hc hb).symm, by rw [eC, eM]; exact Rl_1 R (tI_putName i1 hc hb p3) (tM_putName m1 hc hb p3) (fr_n hc)⟩
        · skip
          have eX : f_X2_rename_x zb zo zt (1 : Int32) (nI c) p3 = 2 := by rw [f_X2_rename_x, if_neg (show ¬ (1 : Int32) = 0 by decide), if_pos (rfl : (1 : Int32) = 1), rqc_i hc, hb, if_pos (rfl : true = true), if_pos (rfl : (0 : Nat) = 0), rqName_f h3, if_neg (by decide)]
          have eM : f_X3_rename mc mn mf (1 : Int32) (nI c) p3 = (0, mn, mf, 2) := by rw [f_X3_rename, eF, if_neg (show ¬ (1 : Int32) = 0 by decide), isIn_f (n := 99) h3 (by decide) rfl J_99, if_pos rfl]
          refine Or.inr ⟨by rw [eX]; decide, by rw [eX, eM]; rfl, by rw [eM]; exact R⟩
    · skip
      have eX : f_X2_rename_x zb zo zt (1 : Int32) p2 p3 = 1 := by rw [f_X2_rename_x, if_neg (show ¬ (1 : Int32) = 0 by decide), if_pos (rfl : (1 : Int32) = 1), rqc_o h2, if_neg (by decide)]
      have eM : f_X3_rename mc mn mf (1 : Int32) p2 p3 = (0, mn, mf, 1) := by rw [f_X3_rename, M_finds2o (fun z => h2 z.2), if_pos rfl]
      refine Or.inr ⟨by rw [eX]; decide, by rw [eX, eM]; rfl, by rw [eM]; exact R⟩
  · by_cases h2 : vp_in p2 8
    · obtain ⟨c, hc, rfl⟩ := cl8 h2
      have eF := M_finds2 (mc := mc) (K := 2) (k := 2) rfl (by decide) hc
      rw [← m2.1] at eF
      cases hb : bt zt.1 c
      · rw [hb, if_neg (by decide)] at eF
        have eX : f_X2_rename_x zb zo zt (2 : Int32) (nI c) p3 = 1 := by rw [f_X2_rename_x, if_neg (show ¬ (2 : Int32) = 0 by decide), if_neg (show ¬ (2 : Int32) = 1 by decide), if_pos (rfl : (2 : Int32) = 2), rqc_i hc, hb, if_neg (show ¬ false = true by decide), if_neg (by decide)]
        have eM : f_X3_rename mc mn mf (2 : Int32) (nI c) p3 = (0, mn, mf, 1) := by rw [f_X3_rename, eF, if_pos rfl]
        refine Or.inr ⟨by rw [eX]; decide, by rw [eX, eM]; rfl, by rw [eM]; exact R⟩
      · rw [hb, if_pos rfl] at eF
        by_cases h3 : vp_in p3 100
        · have eX : f_X2_rename_x zb zo zt (2 : Int32) (nI c) p3 = 0 := by rw [f_X2_rename_x, if_neg (show ¬ (2 : Int32) = 0 by decide), if_neg (show ¬ (2 : Int32) = 1 by decide), if_pos (rfl : (2 : Int32) = 2), rqc_i hc, hb, if_pos (rfl : true = true), if_pos (rfl : (0 : Nat) = 0), if_pos (rqName_t h3)]
          have eC : f_X2_rename zb zo zt zf (2 : Int32) (nI c) p3 = (f_X1_nameAt zt (nI c), zb, zo, f_X1_putName zt (nI c) p3, 0) := by rw [f_X2_rename, if_neg (show ¬ (2 : Int32) = 0 by decide), if_neg (show ¬ (2 : Int32) = 1 by decide), if_pos (rfl : (2 : Int32) = 2), rqc_i hc, hb, if_pos (rfl : true = true), if_pos (rfl : (0 : Nat) = 0), if_pos (rqName_t h3)]
          have eM : f_X3_rename mc mn mf (2 : Int32) (nI c) p3 = (mn (8 * 2 + c), upd mn (8 * 2 + c) p3, 0, 0) := by rw [f_X3_rename, eF, if_neg (show ¬ (1 : Int32) = 0 by decide), isIn_t (n := 99) h3 (by decide) rfl J_99, if_neg (show ¬ (1 : Int32) = 0 by decide)]; rw [show ((8 : Int32) * 2 + nI c).toNatClampNeg = 8 * 2 + c from ix_2 (k := 2) (by decide) hc]
          exact Or.inl ⟨eX, by rw [eM], by rw [eC, eM]; exact (c_nameAt i2 hc).trans (m2.2.2.1 c hc hb).symm, by rw [eC, eM]; exact Rl_2 R (tI_putName i2 hc hb p3) (tM_putName m2 hc hb p3) (fr_n hc)⟩
        · skip
          have eX : f_X2_rename_x zb zo zt (2 : Int32) (nI c) p3 = 2 := by rw [f_X2_rename_x, if_neg (show ¬ (2 : Int32) = 0 by decide), if_neg (show ¬ (2 : Int32) = 1 by decide), if_pos (rfl : (2 : Int32) = 2), rqc_i hc, hb, if_pos (rfl : true = true), if_pos (rfl : (0 : Nat) = 0), rqName_f h3, if_neg (by decide)]
          have eM : f_X3_rename mc mn mf (2 : Int32) (nI c) p3 = (0, mn, mf, 2) := by rw [f_X3_rename, eF, if_neg (show ¬ (1 : Int32) = 0 by decide), isIn_f (n := 99) h3 (by decide) rfl J_99, if_pos rfl]
          refine Or.inr ⟨by rw [eX]; decide, by rw [eX, eM]; rfl, by rw [eM]; exact R⟩
    · skip
      have eX : f_X2_rename_x zb zo zt (2 : Int32) p2 p3 = 1 := by rw [f_X2_rename_x, if_neg (show ¬ (2 : Int32) = 0 by decide), if_neg (show ¬ (2 : Int32) = 1 by decide), if_pos (rfl : (2 : Int32) = 2), rqc_o h2, if_neg (by decide)]
      have eM : f_X3_rename mc mn mf (2 : Int32) p2 p3 = (0, mn, mf, 1) := by rw [f_X3_rename, M_finds2o (fun z => h2 z.2), if_pos rfl]
      refine Or.inr ⟨by rw [eX]; decide, by rw [eX, eM]; rfl, by rw [eM]; exact R⟩
  · skip
    have eX : f_X2_rename_x zb zo zt p1 p2 p3 = 1 := by rw [f_X2_rename_x, if_neg (o3 h1).1, if_neg (o3 h1).2.1, if_neg (o3 h1).2.2]
    have eM : f_X3_rename mc mn mf p1 p2 p3 = (0, mn, mf, 1) := by rw [f_X3_rename, M_finds2o (fun z => h1 z.1), if_pos rfl]
    refine Or.inr ⟨by rw [eX]; decide, by rw [eX, eM]; rfl, by rw [eM]; exact R⟩
set_option maxRecDepth 10000 in
theorem s_addRow (R : Rl zb zo zt zm zu zr zl zf mc mw mn me mu mr mz mf) (p1 p2 : Int32) :
    (f_X2_addRow_x zb zo zt p1 p2 = 0 ∧ (f_X3_addRow mw me mf p1 p2).2.2.2.2 = 0 ∧ (f_X2_addRow zb zo zt zf p1 p2).1 = (f_X3_addRow mw me mf p1 p2).1 ∧ Rl ((f_X2_addRow zb zo zt zf p1 p2).2.1) ((f_X2_addRow zb zo zt zf p1 p2).2.2.1) ((f_X2_addRow zb zo zt zf p1 p2).2.2.2.1) zm zu zr zl ((f_X2_addRow zb zo zt zf p1 p2).2.2.2.2) mc ((f_X3_addRow mw me mf p1 p2).2.1) mn ((f_X3_addRow mw me mf p1 p2).2.2.1) mu mr mz ((f_X3_addRow mw me mf p1 p2).2.2.2.1))
    ∨ (¬ f_X2_addRow_x zb zo zt p1 p2 = 0 ∧ (f_X3_addRow mw me mf p1 p2).2.2.2.2 = nI (if (f_X2_addRow_x zb zo zt p1 p2) = 3 then 2 else (f_X2_addRow_x zb zo zt p1 p2)) ∧ Rl zb zo zt zm zu zr zl zf mc ((f_X3_addRow mw me mf p1 p2).2.1) mn ((f_X3_addRow mw me mf p1 p2).2.2.1) mu mr mz ((f_X3_addRow mw me mf p1 p2).2.2.2.1)) := by
  obtain ⟨⟨i0, i1, i2, i3⟩, ⟨m0, m1, m2, m3⟩, -⟩ := id R
  rcases ar3 (x := p1) with (rfl | rfl | rfl) | h1
  · by_cases h2 : vp_in p2 24
    · obtain ⟨r, hr, rfl⟩ := cl24 h2
      cases hb : bt zb.2.1 r
      · have eX : f_X2_addRow_x zb zo zt (0 : Int32) (nI r) = 0 := by rw [f_X2_addRow_x, if_pos (rfl : (0 : Int32) = 0), if_pos (rqKey_t h2), c_hasRow hr, hb, if_pos (show iB false = 0 from rfl)]
        have eC : f_X2_addRow zb zo zt zf (0 : Int32) (nI r) = (f_X1_rowCount (f_X1_putRow zb (nI r)), f_X1_putRow zb (nI r), zo, zt, 0) := by rw [f_X2_addRow, if_pos (rfl : (0 : Int32) = 0), if_pos (rqKey_t h2), c_hasRow hr, hb, if_pos (show iB false = 0 from rfl)]
        have eM := M_addRow (mw := mw) (me := me) (mf := mf) (K := 0) (k := 0) rfl (by decide) hr (by rw [← m0.2.1]; exact hb)
        obtain ⟨z1, z2, z3⟩ := z_row (me := me) (k := 0) (r := r) (by decide) hr
        have hI := tI_putRow i0 hr
        have hM := tM_putRow i0 m0 hr hb z1 z2
        exact Or.inl ⟨eX, by rw [eM], by rw [eC, eM]; exact (cnt_r hI).trans (congrArg f_X3_count hM.2.1), by rw [eC, eM]; exact Rl_0 R hI hM (fr_we z3)⟩
      · skip
        have eX : f_X2_addRow_x zb zo zt (0 : Int32) (nI r) = 3 := by rw [f_X2_addRow_x, if_pos (rfl : (0 : Int32) = 0), if_pos (rqKey_t h2), c_hasRow hr, hb, if_neg (show ¬ iB true = 0 by decide)]
        have eM : f_X3_addRow mw me mf (0 : Int32) (nI r) = (0, mw, me, mf, 2) := by rw [f_X3_addRow, isIn_t (x := (0 : Int32)) (n := 2) (v3 (k := 0) (by decide)) (by decide) rfl J_2, if_neg (show ¬ (1 : Int32) = 0 by decide), isIn_t (v24 hr) (by decide) rfl J_23, if_neg (show ¬ (1 : Int32) = 0 by decide), m_hasRow (k := 0) I_0 (by decide) (by omega), ← m0.2.1, hb, if_neg (show ¬ iB true = 0 by decide)]
        refine Or.inr ⟨by rw [eX]; decide, by rw [eX, eM]; rfl, by rw [eM]; exact R⟩
    · skip
      have eX : f_X2_addRow_x zb zo zt (0 : Int32) p2 = 1 := by rw [f_X2_addRow_x, if_pos (rfl : (0 : Int32) = 0), rqKey_f h2, if_neg (by decide)]
      have eM : f_X3_addRow mw me mf (0 : Int32) p2 = (0, mw, me, mf, 1) := by rw [f_X3_addRow, isIn_t (x := (0 : Int32)) (n := 2) (v3 (k := 0) (by decide)) (by decide) rfl J_2, if_neg (show ¬ (1 : Int32) = 0 by decide), isIn_f (n := 23) h2 (by decide) rfl J_23, if_pos rfl]
      refine Or.inr ⟨by rw [eX]; decide, by rw [eX, eM]; rfl, by rw [eM]; exact R⟩
  · by_cases h2 : vp_in p2 24
    · obtain ⟨r, hr, rfl⟩ := cl24 h2
      cases hb : bt zo.2.1 r
      · have eX : f_X2_addRow_x zb zo zt (1 : Int32) (nI r) = 0 := by rw [f_X2_addRow_x, if_neg (show ¬ (1 : Int32) = 0 by decide), if_pos (rfl : (1 : Int32) = 1), if_pos (rqKey_t h2), c_hasRow hr, hb, if_pos (show iB false = 0 from rfl)]
        have eC : f_X2_addRow zb zo zt zf (1 : Int32) (nI r) = (f_X1_rowCount (f_X1_putRow zo (nI r)), zb, f_X1_putRow zo (nI r), zt, 0) := by rw [f_X2_addRow, if_neg (show ¬ (1 : Int32) = 0 by decide), if_pos (rfl : (1 : Int32) = 1), if_pos (rqKey_t h2), c_hasRow hr, hb, if_pos (show iB false = 0 from rfl)]
        have eM := M_addRow (mw := mw) (me := me) (mf := mf) (K := 1) (k := 1) rfl (by decide) hr (by rw [← m1.2.1]; exact hb)
        obtain ⟨z1, z2, z3⟩ := z_row (me := me) (k := 1) (r := r) (by decide) hr
        have hI := tI_putRow i1 hr
        have hM := tM_putRow i1 m1 hr hb z1 z2
        exact Or.inl ⟨eX, by rw [eM], by rw [eC, eM]; exact (cnt_r hI).trans (congrArg f_X3_count hM.2.1), by rw [eC, eM]; exact Rl_1 R hI hM (fr_we z3)⟩
      · skip
        have eX : f_X2_addRow_x zb zo zt (1 : Int32) (nI r) = 3 := by rw [f_X2_addRow_x, if_neg (show ¬ (1 : Int32) = 0 by decide), if_pos (rfl : (1 : Int32) = 1), if_pos (rqKey_t h2), c_hasRow hr, hb, if_neg (show ¬ iB true = 0 by decide)]
        have eM : f_X3_addRow mw me mf (1 : Int32) (nI r) = (0, mw, me, mf, 2) := by rw [f_X3_addRow, isIn_t (x := (1 : Int32)) (n := 2) (v3 (k := 1) (by decide)) (by decide) rfl J_2, if_neg (show ¬ (1 : Int32) = 0 by decide), isIn_t (v24 hr) (by decide) rfl J_23, if_neg (show ¬ (1 : Int32) = 0 by decide), m_hasRow (k := 1) I_1 (by decide) (by omega), ← m1.2.1, hb, if_neg (show ¬ iB true = 0 by decide)]
        refine Or.inr ⟨by rw [eX]; decide, by rw [eX, eM]; rfl, by rw [eM]; exact R⟩
    · skip
      have eX : f_X2_addRow_x zb zo zt (1 : Int32) p2 = 1 := by rw [f_X2_addRow_x, if_neg (show ¬ (1 : Int32) = 0 by decide), if_pos (rfl : (1 : Int32) = 1), rqKey_f h2, if_neg (by decide)]
      have eM : f_X3_addRow mw me mf (1 : Int32) p2 = (0, mw, me, mf, 1) := by rw [f_X3_addRow, isIn_t (x := (1 : Int32)) (n := 2) (v3 (k := 1) (by decide)) (by decide) rfl J_2, if_neg (show ¬ (1 : Int32) = 0 by decide), isIn_f (n := 23) h2 (by decide) rfl J_23, if_pos rfl]
      refine Or.inr ⟨by rw [eX]; decide, by rw [eX, eM]; rfl, by rw [eM]; exact R⟩
  · by_cases h2 : vp_in p2 24
    · obtain ⟨r, hr, rfl⟩ := cl24 h2
      cases hb : bt zt.2.1 r
      · have eX : f_X2_addRow_x zb zo zt (2 : Int32) (nI r) = 0 := by rw [f_X2_addRow_x, if_neg (show ¬ (2 : Int32) = 0 by decide), if_neg (show ¬ (2 : Int32) = 1 by decide), if_pos (rfl : (2 : Int32) = 2), if_pos (rqKey_t h2), c_hasRow hr, hb, if_pos (show iB false = 0 from rfl)]
        have eC : f_X2_addRow zb zo zt zf (2 : Int32) (nI r) = (f_X1_rowCount (f_X1_putRow zt (nI r)), zb, zo, f_X1_putRow zt (nI r), 0) := by rw [f_X2_addRow, if_neg (show ¬ (2 : Int32) = 0 by decide), if_neg (show ¬ (2 : Int32) = 1 by decide), if_pos (rfl : (2 : Int32) = 2), if_pos (rqKey_t h2), c_hasRow hr, hb, if_pos (show iB false = 0 from rfl)]
        have eM := M_addRow (mw := mw) (me := me) (mf := mf) (K := 2) (k := 2) rfl (by decide) hr (by rw [← m2.2.1]; exact hb)
        obtain ⟨z1, z2, z3⟩ := z_row (me := me) (k := 2) (r := r) (by decide) hr
        have hI := tI_putRow i2 hr
        have hM := tM_putRow i2 m2 hr hb z1 z2
        exact Or.inl ⟨eX, by rw [eM], by rw [eC, eM]; exact (cnt_r hI).trans (congrArg f_X3_count hM.2.1), by rw [eC, eM]; exact Rl_2 R hI hM (fr_we z3)⟩
      · skip
        have eX : f_X2_addRow_x zb zo zt (2 : Int32) (nI r) = 3 := by rw [f_X2_addRow_x, if_neg (show ¬ (2 : Int32) = 0 by decide), if_neg (show ¬ (2 : Int32) = 1 by decide), if_pos (rfl : (2 : Int32) = 2), if_pos (rqKey_t h2), c_hasRow hr, hb, if_neg (show ¬ iB true = 0 by decide)]
        have eM : f_X3_addRow mw me mf (2 : Int32) (nI r) = (0, mw, me, mf, 2) := by rw [f_X3_addRow, isIn_t (x := (2 : Int32)) (n := 2) (v3 (k := 2) (by decide)) (by decide) rfl J_2, if_neg (show ¬ (1 : Int32) = 0 by decide), isIn_t (v24 hr) (by decide) rfl J_23, if_neg (show ¬ (1 : Int32) = 0 by decide), m_hasRow (k := 2) I_2 (by decide) (by omega), ← m2.2.1, hb, if_neg (show ¬ iB true = 0 by decide)]
        refine Or.inr ⟨by rw [eX]; decide, by rw [eX, eM]; rfl, by rw [eM]; exact R⟩
    · skip
      have eX : f_X2_addRow_x zb zo zt (2 : Int32) p2 = 1 := by rw [f_X2_addRow_x, if_neg (show ¬ (2 : Int32) = 0 by decide), if_neg (show ¬ (2 : Int32) = 1 by decide), if_pos (rfl : (2 : Int32) = 2), rqKey_f h2, if_neg (by decide)]
      have eM : f_X3_addRow mw me mf (2 : Int32) p2 = (0, mw, me, mf, 1) := by rw [f_X3_addRow, isIn_t (x := (2 : Int32)) (n := 2) (v3 (k := 2) (by decide)) (by decide) rfl J_2, if_neg (show ¬ (1 : Int32) = 0 by decide), isIn_f (n := 23) h2 (by decide) rfl J_23, if_pos rfl]
      refine Or.inr ⟨by rw [eX]; decide, by rw [eX, eM]; rfl, by rw [eM]; exact R⟩
  · skip
    have eX : f_X2_addRow_x zb zo zt p1 p2 = 1 := by rw [f_X2_addRow_x, if_neg (o3 h1).1, if_neg (o3 h1).2.1, if_neg (o3 h1).2.2]
    have eM : f_X3_addRow mw me mf p1 p2 = (0, mw, me, mf, 1) := by rw [f_X3_addRow, isIn_f (n := 2) h1 (by decide) rfl J_2, if_pos rfl]
    refine Or.inr ⟨by rw [eX]; decide, by rw [eX, eM]; rfl, by rw [eM]; exact R⟩
set_option maxRecDepth 10000 in
theorem s_removeRow (R : Rl zb zo zt zm zu zr zl zf mc mw mn me mu mr mz mf) (p1 p2 : Int32) :
    (f_X2_removeRow_x zb zo zt p1 p2 = 0 ∧ (f_X3_removeRow mw mf p1 p2).2.2.2 = 0 ∧ (f_X2_removeRow zb zo zt zf p1 p2).1 = (f_X3_removeRow mw mf p1 p2).1 ∧ Rl ((f_X2_removeRow zb zo zt zf p1 p2).2.1) ((f_X2_removeRow zb zo zt zf p1 p2).2.2.1) ((f_X2_removeRow zb zo zt zf p1 p2).2.2.2.1) zm zu zr zl ((f_X2_removeRow zb zo zt zf p1 p2).2.2.2.2) mc ((f_X3_removeRow mw mf p1 p2).2.1) mn me mu mr mz ((f_X3_removeRow mw mf p1 p2).2.2.1))
    ∨ (¬ f_X2_removeRow_x zb zo zt p1 p2 = 0 ∧ (f_X3_removeRow mw mf p1 p2).2.2.2 = nI (f_X2_removeRow_x zb zo zt p1 p2) ∧ Rl zb zo zt zm zu zr zl zf mc ((f_X3_removeRow mw mf p1 p2).2.1) mn me mu mr mz ((f_X3_removeRow mw mf p1 p2).2.2.1)) := by
  obtain ⟨⟨i0, i1, i2, i3⟩, ⟨m0, m1, m2, m3⟩, -⟩ := id R
  rcases ar3 (x := p1) with (rfl | rfl | rfl) | h1
  · by_cases h2 : vp_in p2 24
    · obtain ⟨r, hr, rfl⟩ := cl24 h2
      cases hb : bt zb.2.1 r
      · skip
        have eX : f_X2_removeRow_x zb zo zt (0 : Int32) (nI r) = 1 := by rw [f_X2_removeRow_x, if_pos (rfl : (0 : Int32) = 0), rqr_i hr, hb, if_neg (show ¬ false = true by decide), if_neg (by decide)]
        have eM : f_X3_removeRow mw mf (0 : Int32) (nI r) = (0, mw, mf, 1) := by rw [f_X3_removeRow, isIn_t (x := (0 : Int32)) (n := 2) (v3 (k := 0) (by decide)) (by decide) rfl J_2, if_neg (show ¬ (1 : Int32) = 0 by decide), isIn_t (v24 hr) (by decide) rfl J_23, if_neg (show ¬ (1 : Int32) = 0 by decide), m_hasRow (k := 0) I_0 (by decide) (by omega), ← m0.2.1, hb, if_pos (show iB false = 0 from rfl)]
        refine Or.inr ⟨by rw [eX]; decide, by rw [eX, eM]; rfl, by rw [eM]; exact R⟩
      · have eX : f_X2_removeRow_x zb zo zt (0 : Int32) (nI r) = 0 := by rw [f_X2_removeRow_x, if_pos (rfl : (0 : Int32) = 0), rqr_i hr, hb, if_pos (rfl : true = true), if_pos rfl]
        have eC : f_X2_removeRow zb zo zt zf (0 : Int32) (nI r) = (f_X1_rowCount (f_X1_cutRow zb (nI r)), f_X1_cutRow zb (nI r), zo, zt, 0) := by rw [f_X2_removeRow, if_pos (rfl : (0 : Int32) = 0), rqr_i hr, hb, if_pos (rfl : true = true), if_pos (rfl : (0 : Nat) = 0)]
        have eM : f_X3_removeRow mw mf (0 : Int32) (nI r) = (f_X3_count (upd mw 0 (mw 0 &&& (((1 : Int32) <<< (nI r &&& 31)) ^^^ (-1))) 0), upd mw 0 (mw 0 &&& (((1 : Int32) <<< (nI r &&& 31)) ^^^ (-1))), 0, 0) := by rw [f_X3_removeRow, isIn_t (x := (0 : Int32)) (n := 2) (v3 (k := 0) (by decide)) (by decide) rfl J_2, if_neg (show ¬ (1 : Int32) = 0 by decide), isIn_t (v24 hr) (by decide) rfl J_23, if_neg (show ¬ (1 : Int32) = 0 by decide), m_hasRow (k := 0) I_0 (by decide) (by omega), ← m0.2.1, hb, if_neg (show ¬ iB true = 0 by decide)]; rw [m0.2.1]; rfl
        have hI := tI_cutRow i0 hr hb
        have hM := tM_cutRow i0 m0 hr hb
        exact Or.inl ⟨eX, by rw [eM], by rw [eC, eM]; exact (cnt_r hI).trans (congrArg f_X3_count hM.2.1), by rw [eC, eM]; exact Rl_0 R hI hM fr_w⟩
    · skip
      have eX : f_X2_removeRow_x zb zo zt (0 : Int32) p2 = 1 := by rw [f_X2_removeRow_x, if_pos (rfl : (0 : Int32) = 0), rqr_o h2, if_neg (by decide)]
      have eM : f_X3_removeRow mw mf (0 : Int32) p2 = (0, mw, mf, 1) := by rw [f_X3_removeRow, isIn_t (x := (0 : Int32)) (n := 2) (v3 (k := 0) (by decide)) (by decide) rfl J_2, if_neg (show ¬ (1 : Int32) = 0 by decide), isIn_f (n := 23) h2 (by decide) rfl J_23, if_pos rfl]
      refine Or.inr ⟨by rw [eX]; decide, by rw [eX, eM]; rfl, by rw [eM]; exact R⟩
  · by_cases h2 : vp_in p2 24
    · obtain ⟨r, hr, rfl⟩ := cl24 h2
      cases hb : bt zo.2.1 r
      · skip
        have eX : f_X2_removeRow_x zb zo zt (1 : Int32) (nI r) = 1 := by rw [f_X2_removeRow_x, if_neg (show ¬ (1 : Int32) = 0 by decide), if_pos (rfl : (1 : Int32) = 1), rqr_i hr, hb, if_neg (show ¬ false = true by decide), if_neg (by decide)]
        have eM : f_X3_removeRow mw mf (1 : Int32) (nI r) = (0, mw, mf, 1) := by rw [f_X3_removeRow, isIn_t (x := (1 : Int32)) (n := 2) (v3 (k := 1) (by decide)) (by decide) rfl J_2, if_neg (show ¬ (1 : Int32) = 0 by decide), isIn_t (v24 hr) (by decide) rfl J_23, if_neg (show ¬ (1 : Int32) = 0 by decide), m_hasRow (k := 1) I_1 (by decide) (by omega), ← m1.2.1, hb, if_pos (show iB false = 0 from rfl)]
        refine Or.inr ⟨by rw [eX]; decide, by rw [eX, eM]; rfl, by rw [eM]; exact R⟩
      · have eX : f_X2_removeRow_x zb zo zt (1 : Int32) (nI r) = 0 := by rw [f_X2_removeRow_x, if_neg (show ¬ (1 : Int32) = 0 by decide), if_pos (rfl : (1 : Int32) = 1), rqr_i hr, hb, if_pos (rfl : true = true), if_pos rfl]
        have eC : f_X2_removeRow zb zo zt zf (1 : Int32) (nI r) = (f_X1_rowCount (f_X1_cutRow zo (nI r)), zb, f_X1_cutRow zo (nI r), zt, 0) := by rw [f_X2_removeRow, if_neg (show ¬ (1 : Int32) = 0 by decide), if_pos (rfl : (1 : Int32) = 1), rqr_i hr, hb, if_pos (rfl : true = true), if_pos (rfl : (0 : Nat) = 0)]
        have eM : f_X3_removeRow mw mf (1 : Int32) (nI r) = (f_X3_count (upd mw 1 (mw 1 &&& (((1 : Int32) <<< (nI r &&& 31)) ^^^ (-1))) 1), upd mw 1 (mw 1 &&& (((1 : Int32) <<< (nI r &&& 31)) ^^^ (-1))), 0, 0) := by rw [f_X3_removeRow, isIn_t (x := (1 : Int32)) (n := 2) (v3 (k := 1) (by decide)) (by decide) rfl J_2, if_neg (show ¬ (1 : Int32) = 0 by decide), isIn_t (v24 hr) (by decide) rfl J_23, if_neg (show ¬ (1 : Int32) = 0 by decide), m_hasRow (k := 1) I_1 (by decide) (by omega), ← m1.2.1, hb, if_neg (show ¬ iB true = 0 by decide)]; rw [m1.2.1]; rfl
        have hI := tI_cutRow i1 hr hb
        have hM := tM_cutRow i1 m1 hr hb
        exact Or.inl ⟨eX, by rw [eM], by rw [eC, eM]; exact (cnt_r hI).trans (congrArg f_X3_count hM.2.1), by rw [eC, eM]; exact Rl_1 R hI hM fr_w⟩
    · skip
      have eX : f_X2_removeRow_x zb zo zt (1 : Int32) p2 = 1 := by rw [f_X2_removeRow_x, if_neg (show ¬ (1 : Int32) = 0 by decide), if_pos (rfl : (1 : Int32) = 1), rqr_o h2, if_neg (by decide)]
      have eM : f_X3_removeRow mw mf (1 : Int32) p2 = (0, mw, mf, 1) := by rw [f_X3_removeRow, isIn_t (x := (1 : Int32)) (n := 2) (v3 (k := 1) (by decide)) (by decide) rfl J_2, if_neg (show ¬ (1 : Int32) = 0 by decide), isIn_f (n := 23) h2 (by decide) rfl J_23, if_pos rfl]
      refine Or.inr ⟨by rw [eX]; decide, by rw [eX, eM]; rfl, by rw [eM]; exact R⟩
  · by_cases h2 : vp_in p2 24
    · obtain ⟨r, hr, rfl⟩ := cl24 h2
      cases hb : bt zt.2.1 r
      · skip
        have eX : f_X2_removeRow_x zb zo zt (2 : Int32) (nI r) = 1 := by rw [f_X2_removeRow_x, if_neg (show ¬ (2 : Int32) = 0 by decide), if_neg (show ¬ (2 : Int32) = 1 by decide), if_pos (rfl : (2 : Int32) = 2), rqr_i hr, hb, if_neg (show ¬ false = true by decide), if_neg (by decide)]
        have eM : f_X3_removeRow mw mf (2 : Int32) (nI r) = (0, mw, mf, 1) := by rw [f_X3_removeRow, isIn_t (x := (2 : Int32)) (n := 2) (v3 (k := 2) (by decide)) (by decide) rfl J_2, if_neg (show ¬ (1 : Int32) = 0 by decide), isIn_t (v24 hr) (by decide) rfl J_23, if_neg (show ¬ (1 : Int32) = 0 by decide), m_hasRow (k := 2) I_2 (by decide) (by omega), ← m2.2.1, hb, if_pos (show iB false = 0 from rfl)]
        refine Or.inr ⟨by rw [eX]; decide, by rw [eX, eM]; rfl, by rw [eM]; exact R⟩
      · have eX : f_X2_removeRow_x zb zo zt (2 : Int32) (nI r) = 0 := by rw [f_X2_removeRow_x, if_neg (show ¬ (2 : Int32) = 0 by decide), if_neg (show ¬ (2 : Int32) = 1 by decide), if_pos (rfl : (2 : Int32) = 2), rqr_i hr, hb, if_pos (rfl : true = true), if_pos rfl]
        have eC : f_X2_removeRow zb zo zt zf (2 : Int32) (nI r) = (f_X1_rowCount (f_X1_cutRow zt (nI r)), zb, zo, f_X1_cutRow zt (nI r), 0) := by rw [f_X2_removeRow, if_neg (show ¬ (2 : Int32) = 0 by decide), if_neg (show ¬ (2 : Int32) = 1 by decide), if_pos (rfl : (2 : Int32) = 2), rqr_i hr, hb, if_pos (rfl : true = true), if_pos (rfl : (0 : Nat) = 0)]
        have eM : f_X3_removeRow mw mf (2 : Int32) (nI r) = (f_X3_count (upd mw 2 (mw 2 &&& (((1 : Int32) <<< (nI r &&& 31)) ^^^ (-1))) 2), upd mw 2 (mw 2 &&& (((1 : Int32) <<< (nI r &&& 31)) ^^^ (-1))), 0, 0) := by rw [f_X3_removeRow, isIn_t (x := (2 : Int32)) (n := 2) (v3 (k := 2) (by decide)) (by decide) rfl J_2, if_neg (show ¬ (1 : Int32) = 0 by decide), isIn_t (v24 hr) (by decide) rfl J_23, if_neg (show ¬ (1 : Int32) = 0 by decide), m_hasRow (k := 2) I_2 (by decide) (by omega), ← m2.2.1, hb, if_neg (show ¬ iB true = 0 by decide)]; rw [m2.2.1]; rfl
        have hI := tI_cutRow i2 hr hb
        have hM := tM_cutRow i2 m2 hr hb
        exact Or.inl ⟨eX, by rw [eM], by rw [eC, eM]; exact (cnt_r hI).trans (congrArg f_X3_count hM.2.1), by rw [eC, eM]; exact Rl_2 R hI hM fr_w⟩
    · skip
      have eX : f_X2_removeRow_x zb zo zt (2 : Int32) p2 = 1 := by rw [f_X2_removeRow_x, if_neg (show ¬ (2 : Int32) = 0 by decide), if_neg (show ¬ (2 : Int32) = 1 by decide), if_pos (rfl : (2 : Int32) = 2), rqr_o h2, if_neg (by decide)]
      have eM : f_X3_removeRow mw mf (2 : Int32) p2 = (0, mw, mf, 1) := by rw [f_X3_removeRow, isIn_t (x := (2 : Int32)) (n := 2) (v3 (k := 2) (by decide)) (by decide) rfl J_2, if_neg (show ¬ (1 : Int32) = 0 by decide), isIn_f (n := 23) h2 (by decide) rfl J_23, if_pos rfl]
      refine Or.inr ⟨by rw [eX]; decide, by rw [eX, eM]; rfl, by rw [eM]; exact R⟩
  · skip
    have eX : f_X2_removeRow_x zb zo zt p1 p2 = 1 := by rw [f_X2_removeRow_x, if_neg (o3 h1).1, if_neg (o3 h1).2.1, if_neg (o3 h1).2.2]
    have eM : f_X3_removeRow mw mf p1 p2 = (0, mw, mf, 1) := by rw [f_X3_removeRow, isIn_f (n := 2) h1 (by decide) rfl J_2, if_pos rfl]
    refine Or.inr ⟨by rw [eX]; decide, by rw [eX, eM]; rfl, by rw [eM]; exact R⟩
set_option maxRecDepth 10000 in
theorem s_set (R : Rl zb zo zt zm zu zr zl zf mc mw mn me mu mr mz mf) (p1 p2 p3 p4 : Int32) :
    (f_X2_set_x zb zo zt p1 p2 p3 p4 = 0 ∧ (f_X3_set mc mw me mf p1 p2 p3 p4).2.2.2 = 0 ∧ (f_X2_set zb zo zt zf p1 p2 p3 p4).1 = (f_X3_set mc mw me mf p1 p2 p3 p4).1 ∧ Rl ((f_X2_set zb zo zt zf p1 p2 p3 p4).2.1) ((f_X2_set zb zo zt zf p1 p2 p3 p4).2.2.1) ((f_X2_set zb zo zt zf p1 p2 p3 p4).2.2.2.1) zm zu zr zl ((f_X2_set zb zo zt zf p1 p2 p3 p4).2.2.2.2) mc mw mn ((f_X3_set mc mw me mf p1 p2 p3 p4).2.1) mu mr mz ((f_X3_set mc mw me mf p1 p2 p3 p4).2.2.1))
    ∨ (¬ f_X2_set_x zb zo zt p1 p2 p3 p4 = 0 ∧ (f_X3_set mc mw me mf p1 p2 p3 p4).2.2.2 = nI (f_X2_set_x zb zo zt p1 p2 p3 p4) ∧ Rl zb zo zt zm zu zr zl zf mc mw mn ((f_X3_set mc mw me mf p1 p2 p3 p4).2.1) mu mr mz ((f_X3_set mc mw me mf p1 p2 p3 p4).2.2.1)) := by
  obtain ⟨⟨i0, i1, i2, i3⟩, ⟨m0, m1, m2, m3⟩, -⟩ := id R
  rcases ar3 (x := p1) with (rfl | rfl | rfl) | h1
  · by_cases h2 : vp_in p2 24
    · obtain ⟨r, hr, rfl⟩ := cl24 h2
      by_cases h3 : vp_in p3 8
      · obtain ⟨c, hc, rfl⟩ := cl8 h3
        have eF := M_findc2 (mc := mc) (mw := mw) (K := 0) (k := 0) rfl (by decide) hr hc
        rw [← m0.1, ← m0.2.1] at eF
        cases hb : bt zb.2.1 r
        · rw [hb, Bool.false_and, if_neg (by decide)] at eF
          have eX : f_X2_set_x zb zo zt (0 : Int32) (nI r) (nI c) p4 = 1 := by rw [f_X2_set_x, if_pos (rfl : (0 : Int32) = 0), rqr_i hr, hb, if_neg (show ¬ false = true by decide), if_neg (by decide)]
          have eM : f_X3_set mc mw me mf (0 : Int32) (nI r) (nI c) p4 = (0, me, mf, 1) := by rw [f_X3_set, eF, if_pos rfl]
          refine Or.inr ⟨by rw [eX]; decide, by rw [eX, eM]; rfl, by rw [eM]; exact R⟩
        · cases hd : bt zb.1 c
          · rw [hb, hd, Bool.and_false, if_neg (by decide)] at eF
            have eX : f_X2_set_x zb zo zt (0 : Int32) (nI r) (nI c) p4 = 1 := by rw [f_X2_set_x, if_pos (rfl : (0 : Int32) = 0), rqr_i hr, hb, if_pos (rfl : true = true), if_pos (rfl : (0 : Nat) = 0), rqc_i hc, hd, if_neg (show ¬ false = true by decide), if_neg (by decide)]
            have eM : f_X3_set mc mw me mf (0 : Int32) (nI r) (nI c) p4 = (0, me, mf, 1) := by rw [f_X3_set, eF, if_pos rfl]
            refine Or.inr ⟨by rw [eX]; decide, by rw [eX, eM]; rfl, by rw [eM]; exact R⟩
          · rw [hb, hd, Bool.and_true, if_pos rfl] at eF
            by_cases h4 : p4 < -9999
            · skip
              have eX : f_X2_set_x zb zo zt (0 : Int32) (nI r) (nI c) p4 = 2 := by rw [f_X2_set_x, if_pos (rfl : (0 : Int32) = 0), rqr_i hr, hb, if_pos (rfl : true = true), if_pos (rfl : (0 : Nat) = 0), rqc_i hc, hd, if_pos (rfl : true = true), if_pos (rfl : (0 : Nat) = 0), if_pos h4]
              have eM : f_X3_set mc mw me mf (0 : Int32) (nI r) (nI c) p4 = (0, me, mf, 2) := by rw [f_X3_set, eF, if_neg (show ¬ (1 : Int32) = 0 by decide), f_X3_isIn, if_pos h4, if_pos rfl]
              refine Or.inr ⟨by rw [eX]; decide, by rw [eX, eM]; rfl, by rw [eM]; exact R⟩
            · by_cases h5 : p4 ≤ 9999
              · have eX : f_X2_set_x zb zo zt (0 : Int32) (nI r) (nI c) p4 = 0 := by rw [f_X2_set_x, if_pos (rfl : (0 : Int32) = 0), rqr_i hr, hb, if_pos (rfl : true = true), if_pos (rfl : (0 : Nat) = 0), rqc_i hc, hd, if_pos (rfl : true = true), if_pos (rfl : (0 : Nat) = 0), if_neg h4, if_pos h5]
                have eC : f_X2_set zb zo zt zf (0 : Int32) (nI r) (nI c) p4 = (f_X1_cellAt zb (nI r) (nI c), f_X1_putCell zb (nI r) (nI c) p4, zo, zt, 0) := by rw [f_X2_set, if_pos (rfl : (0 : Int32) = 0), rqr_i hr, hb, if_pos (rfl : true = true), if_pos (rfl : (0 : Nat) = 0), rqc_i hc, hd, if_pos (rfl : true = true), if_pos (rfl : (0 : Nat) = 0), if_neg h4, if_pos h5]
                have eM : f_X3_set mc mw me mf (0 : Int32) (nI r) (nI c) p4 = (f_X3_at me 0 (nI r) (nI c), upd me (192 * 0 + 8 * r + c) p4, 0, 0) := by rw [f_X3_set, eF, if_neg (show ¬ (1 : Int32) = 0 by decide), f_X3_isIn, if_neg h4, if_neg (Int32.not_lt.mpr h5), if_neg (show ¬ (1 : Int32) = 0 by decide)]; rw [show (((192 : Int32) * 0 + 8 * nI r) + nI c).toNatClampNeg = 192 * 0 + 8 * r + c from ix_3 (k := 0) (by decide) hr hc]
                exact Or.inl ⟨eX, by rw [eM], by rw [eC, eM]; exact (c_cellAt i0 hr hc).trans (m_at m0 I_0 (by decide) hr hc (cel_iff.mpr ⟨hb, hd⟩)).symm, by rw [eC, eM]; exact Rl_0 R (tI_putCell i0 hr hc p4) (tM_putCell m0 hr hc p4) (fr_e hr hc)⟩
              · skip
                have eX : f_X2_set_x zb zo zt (0 : Int32) (nI r) (nI c) p4 = 2 := by rw [f_X2_set_x, if_pos (rfl : (0 : Int32) = 0), rqr_i hr, hb, if_pos (rfl : true = true), if_pos (rfl : (0 : Nat) = 0), rqc_i hc, hd, if_pos (rfl : true = true), if_pos (rfl : (0 : Nat) = 0), if_neg h4, if_neg h5]
                have eM : f_X3_set mc mw me mf (0 : Int32) (nI r) (nI c) p4 = (0, me, mf, 2) := by rw [f_X3_set, eF, if_neg (show ¬ (1 : Int32) = 0 by decide), f_X3_isIn, if_neg h4, if_pos (Int32.not_le.mp h5), if_pos rfl]
                refine Or.inr ⟨by rw [eX]; decide, by rw [eX, eM]; rfl, by rw [eM]; exact R⟩
      · have eF : f_X3_findsCell_2 mc mw 0 (nI r) p3 = (0, 1) := M_findc2o (fun z => h3 z.2.2)
        cases hb : bt zb.2.1 r
        · skip
          have eX : f_X2_set_x zb zo zt (0 : Int32) (nI r) p3 p4 = 1 := by rw [f_X2_set_x, if_pos (rfl : (0 : Int32) = 0), rqr_i hr, hb, if_neg (show ¬ false = true by decide), if_neg (by decide)]
          have eM : f_X3_set mc mw me mf (0 : Int32) (nI r) p3 p4 = (0, me, mf, 1) := by rw [f_X3_set, eF, if_pos rfl]
          refine Or.inr ⟨by rw [eX]; decide, by rw [eX, eM]; rfl, by rw [eM]; exact R⟩
        · skip
          have eX : f_X2_set_x zb zo zt (0 : Int32) (nI r) p3 p4 = 1 := by rw [f_X2_set_x, if_pos (rfl : (0 : Int32) = 0), rqr_i hr, hb, if_pos (rfl : true = true), if_pos (rfl : (0 : Nat) = 0), rqc_o h3, if_neg (by decide)]
          have eM : f_X3_set mc mw me mf (0 : Int32) (nI r) p3 p4 = (0, me, mf, 1) := by rw [f_X3_set, eF, if_pos rfl]
          refine Or.inr ⟨by rw [eX]; decide, by rw [eX, eM]; rfl, by rw [eM]; exact R⟩
    · skip
      have eX : f_X2_set_x zb zo zt (0 : Int32) p2 p3 p4 = 1 := by rw [f_X2_set_x, if_pos (rfl : (0 : Int32) = 0), rqr_o h2, if_neg (by decide)]
      have eM : f_X3_set mc mw me mf (0 : Int32) p2 p3 p4 = (0, me, mf, 1) := by rw [f_X3_set, M_findc2o (fun z => h2 z.2.1), if_pos rfl]
      refine Or.inr ⟨by rw [eX]; decide, by rw [eX, eM]; rfl, by rw [eM]; exact R⟩
  · by_cases h2 : vp_in p2 24
    · obtain ⟨r, hr, rfl⟩ := cl24 h2
      by_cases h3 : vp_in p3 8
      · obtain ⟨c, hc, rfl⟩ := cl8 h3
        have eF := M_findc2 (mc := mc) (mw := mw) (K := 1) (k := 1) rfl (by decide) hr hc
        rw [← m1.1, ← m1.2.1] at eF
        cases hb : bt zo.2.1 r
        · rw [hb, Bool.false_and, if_neg (by decide)] at eF
          have eX : f_X2_set_x zb zo zt (1 : Int32) (nI r) (nI c) p4 = 1 := by rw [f_X2_set_x, if_neg (show ¬ (1 : Int32) = 0 by decide), if_pos (rfl : (1 : Int32) = 1), rqr_i hr, hb, if_neg (show ¬ false = true by decide), if_neg (by decide)]
          have eM : f_X3_set mc mw me mf (1 : Int32) (nI r) (nI c) p4 = (0, me, mf, 1) := by rw [f_X3_set, eF, if_pos rfl]
          refine Or.inr ⟨by rw [eX]; decide, by rw [eX, eM]; rfl, by rw [eM]; exact R⟩
        · cases hd : bt zo.1 c
          · rw [hb, hd, Bool.and_false, if_neg (by decide)] at eF
            have eX : f_X2_set_x zb zo zt (1 : Int32) (nI r) (nI c) p4 = 1 := by rw [f_X2_set_x, if_neg (show ¬ (1 : Int32) = 0 by decide), if_pos (rfl : (1 : Int32) = 1), rqr_i hr, hb, if_pos (rfl : true = true), if_pos (rfl : (0 : Nat) = 0), rqc_i hc, hd, if_neg (show ¬ false = true by decide), if_neg (by decide)]
            have eM : f_X3_set mc mw me mf (1 : Int32) (nI r) (nI c) p4 = (0, me, mf, 1) := by rw [f_X3_set, eF, if_pos rfl]
            refine Or.inr ⟨by rw [eX]; decide, by rw [eX, eM]; rfl, by rw [eM]; exact R⟩
          · rw [hb, hd, Bool.and_true, if_pos rfl] at eF
            by_cases h4 : p4 < -9999
            · skip
              have eX : f_X2_set_x zb zo zt (1 : Int32) (nI r) (nI c) p4 = 2 := by rw [f_X2_set_x, if_neg (show ¬ (1 : Int32) = 0 by decide), if_pos (rfl : (1 : Int32) = 1), rqr_i hr, hb, if_pos (rfl : true = true), if_pos (rfl : (0 : Nat) = 0), rqc_i hc, hd, if_pos (rfl : true = true), if_pos (rfl : (0 : Nat) = 0), if_pos h4]
              have eM : f_X3_set mc mw me mf (1 : Int32) (nI r) (nI c) p4 = (0, me, mf, 2) := by rw [f_X3_set, eF, if_neg (show ¬ (1 : Int32) = 0 by decide), f_X3_isIn, if_pos h4, if_pos rfl]
              refine Or.inr ⟨by rw [eX]; decide, by rw [eX, eM]; rfl, by rw [eM]; exact R⟩
            · by_cases h5 : p4 ≤ 9999
              · have eX : f_X2_set_x zb zo zt (1 : Int32) (nI r) (nI c) p4 = 0 := by rw [f_X2_set_x, if_neg (show ¬ (1 : Int32) = 0 by decide), if_pos (rfl : (1 : Int32) = 1), rqr_i hr, hb, if_pos (rfl : true = true), if_pos (rfl : (0 : Nat) = 0), rqc_i hc, hd, if_pos (rfl : true = true), if_pos (rfl : (0 : Nat) = 0), if_neg h4, if_pos h5]
                have eC : f_X2_set zb zo zt zf (1 : Int32) (nI r) (nI c) p4 = (f_X1_cellAt zo (nI r) (nI c), zb, f_X1_putCell zo (nI r) (nI c) p4, zt, 0) := by rw [f_X2_set, if_neg (show ¬ (1 : Int32) = 0 by decide), if_pos (rfl : (1 : Int32) = 1), rqr_i hr, hb, if_pos (rfl : true = true), if_pos (rfl : (0 : Nat) = 0), rqc_i hc, hd, if_pos (rfl : true = true), if_pos (rfl : (0 : Nat) = 0), if_neg h4, if_pos h5]
                have eM : f_X3_set mc mw me mf (1 : Int32) (nI r) (nI c) p4 = (f_X3_at me 1 (nI r) (nI c), upd me (192 * 1 + 8 * r + c) p4, 0, 0) := by rw [f_X3_set, eF, if_neg (show ¬ (1 : Int32) = 0 by decide), f_X3_isIn, if_neg h4, if_neg (Int32.not_lt.mpr h5), if_neg (show ¬ (1 : Int32) = 0 by decide)]; rw [show (((192 : Int32) * 1 + 8 * nI r) + nI c).toNatClampNeg = 192 * 1 + 8 * r + c from ix_3 (k := 1) (by decide) hr hc]
                exact Or.inl ⟨eX, by rw [eM], by rw [eC, eM]; exact (c_cellAt i1 hr hc).trans (m_at m1 I_1 (by decide) hr hc (cel_iff.mpr ⟨hb, hd⟩)).symm, by rw [eC, eM]; exact Rl_1 R (tI_putCell i1 hr hc p4) (tM_putCell m1 hr hc p4) (fr_e hr hc)⟩
              · skip
                have eX : f_X2_set_x zb zo zt (1 : Int32) (nI r) (nI c) p4 = 2 := by rw [f_X2_set_x, if_neg (show ¬ (1 : Int32) = 0 by decide), if_pos (rfl : (1 : Int32) = 1), rqr_i hr, hb, if_pos (rfl : true = true), if_pos (rfl : (0 : Nat) = 0), rqc_i hc, hd, if_pos (rfl : true = true), if_pos (rfl : (0 : Nat) = 0), if_neg h4, if_neg h5]
                have eM : f_X3_set mc mw me mf (1 : Int32) (nI r) (nI c) p4 = (0, me, mf, 2) := by rw [f_X3_set, eF, if_neg (show ¬ (1 : Int32) = 0 by decide), f_X3_isIn, if_neg h4, if_pos (Int32.not_le.mp h5), if_pos rfl]
                refine Or.inr ⟨by rw [eX]; decide, by rw [eX, eM]; rfl, by rw [eM]; exact R⟩
      · have eF : f_X3_findsCell_2 mc mw 1 (nI r) p3 = (0, 1) := M_findc2o (fun z => h3 z.2.2)
        cases hb : bt zo.2.1 r
        · skip
          have eX : f_X2_set_x zb zo zt (1 : Int32) (nI r) p3 p4 = 1 := by rw [f_X2_set_x, if_neg (show ¬ (1 : Int32) = 0 by decide), if_pos (rfl : (1 : Int32) = 1), rqr_i hr, hb, if_neg (show ¬ false = true by decide), if_neg (by decide)]
          have eM : f_X3_set mc mw me mf (1 : Int32) (nI r) p3 p4 = (0, me, mf, 1) := by rw [f_X3_set, eF, if_pos rfl]
          refine Or.inr ⟨by rw [eX]; decide, by rw [eX, eM]; rfl, by rw [eM]; exact R⟩
        · skip
          have eX : f_X2_set_x zb zo zt (1 : Int32) (nI r) p3 p4 = 1 := by rw [f_X2_set_x, if_neg (show ¬ (1 : Int32) = 0 by decide), if_pos (rfl : (1 : Int32) = 1), rqr_i hr, hb, if_pos (rfl : true = true), if_pos (rfl : (0 : Nat) = 0), rqc_o h3, if_neg (by decide)]
          have eM : f_X3_set mc mw me mf (1 : Int32) (nI r) p3 p4 = (0, me, mf, 1) := by rw [f_X3_set, eF, if_pos rfl]
          refine Or.inr ⟨by rw [eX]; decide, by rw [eX, eM]; rfl, by rw [eM]; exact R⟩
    · skip
      have eX : f_X2_set_x zb zo zt (1 : Int32) p2 p3 p4 = 1 := by rw [f_X2_set_x, if_neg (show ¬ (1 : Int32) = 0 by decide), if_pos (rfl : (1 : Int32) = 1), rqr_o h2, if_neg (by decide)]
      have eM : f_X3_set mc mw me mf (1 : Int32) p2 p3 p4 = (0, me, mf, 1) := by rw [f_X3_set, M_findc2o (fun z => h2 z.2.1), if_pos rfl]
      refine Or.inr ⟨by rw [eX]; decide, by rw [eX, eM]; rfl, by rw [eM]; exact R⟩
  · by_cases h2 : vp_in p2 24
    · obtain ⟨r, hr, rfl⟩ := cl24 h2
      by_cases h3 : vp_in p3 8
      · obtain ⟨c, hc, rfl⟩ := cl8 h3
        have eF := M_findc2 (mc := mc) (mw := mw) (K := 2) (k := 2) rfl (by decide) hr hc
        rw [← m2.1, ← m2.2.1] at eF
        cases hb : bt zt.2.1 r
        · rw [hb, Bool.false_and, if_neg (by decide)] at eF
          have eX : f_X2_set_x zb zo zt (2 : Int32) (nI r) (nI c) p4 = 1 := by rw [f_X2_set_x, if_neg (show ¬ (2 : Int32) = 0 by decide), if_neg (show ¬ (2 : Int32) = 1 by decide), if_pos (rfl : (2 : Int32) = 2), rqr_i hr, hb, if_neg (show ¬ false = true by decide), if_neg (by decide)]
          have eM : f_X3_set mc mw me mf (2 : Int32) (nI r) (nI c) p4 = (0, me, mf, 1) := by rw [f_X3_set, eF, if_pos rfl]
          refine Or.inr ⟨by rw [eX]; decide, by rw [eX, eM]; rfl, by rw [eM]; exact R⟩
        · cases hd : bt zt.1 c
          · rw [hb, hd, Bool.and_false, if_neg (by decide)] at eF
            have eX : f_X2_set_x zb zo zt (2 : Int32) (nI r) (nI c) p4 = 1 := by rw [f_X2_set_x, if_neg (show ¬ (2 : Int32) = 0 by decide), if_neg (show ¬ (2 : Int32) = 1 by decide), if_pos (rfl : (2 : Int32) = 2), rqr_i hr, hb, if_pos (rfl : true = true), if_pos (rfl : (0 : Nat) = 0), rqc_i hc, hd, if_neg (show ¬ false = true by decide), if_neg (by decide)]
            have eM : f_X3_set mc mw me mf (2 : Int32) (nI r) (nI c) p4 = (0, me, mf, 1) := by rw [f_X3_set, eF, if_pos rfl]
            refine Or.inr ⟨by rw [eX]; decide, by rw [eX, eM]; rfl, by rw [eM]; exact R⟩
          · rw [hb, hd, Bool.and_true, if_pos rfl] at eF
            by_cases h4 : p4 < -9999
            · skip
              have eX : f_X2_set_x zb zo zt (2 : Int32) (nI r) (nI c) p4 = 2 := by rw [f_X2_set_x, if_neg (show ¬ (2 : Int32) = 0 by decide), if_neg (show ¬ (2 : Int32) = 1 by decide), if_pos (rfl : (2 : Int32) = 2), rqr_i hr, hb, if_pos (rfl : true = true), if_pos (rfl : (0 : Nat) = 0), rqc_i hc, hd, if_pos (rfl : true = true), if_pos (rfl : (0 : Nat) = 0), if_pos h4]
              have eM : f_X3_set mc mw me mf (2 : Int32) (nI r) (nI c) p4 = (0, me, mf, 2) := by rw [f_X3_set, eF, if_neg (show ¬ (1 : Int32) = 0 by decide), f_X3_isIn, if_pos h4, if_pos rfl]
              refine Or.inr ⟨by rw [eX]; decide, by rw [eX, eM]; rfl, by rw [eM]; exact R⟩
            · by_cases h5 : p4 ≤ 9999
              · have eX : f_X2_set_x zb zo zt (2 : Int32) (nI r) (nI c) p4 = 0 := by rw [f_X2_set_x, if_neg (show ¬ (2 : Int32) = 0 by decide), if_neg (show ¬ (2 : Int32) = 1 by decide), if_pos (rfl : (2 : Int32) = 2), rqr_i hr, hb, if_pos (rfl : true = true), if_pos (rfl : (0 : Nat) = 0), rqc_i hc, hd, if_pos (rfl : true = true), if_pos (rfl : (0 : Nat) = 0), if_neg h4, if_pos h5]
                have eC : f_X2_set zb zo zt zf (2 : Int32) (nI r) (nI c) p4 = (f_X1_cellAt zt (nI r) (nI c), zb, zo, f_X1_putCell zt (nI r) (nI c) p4, 0) := by rw [f_X2_set, if_neg (show ¬ (2 : Int32) = 0 by decide), if_neg (show ¬ (2 : Int32) = 1 by decide), if_pos (rfl : (2 : Int32) = 2), rqr_i hr, hb, if_pos (rfl : true = true), if_pos (rfl : (0 : Nat) = 0), rqc_i hc, hd, if_pos (rfl : true = true), if_pos (rfl : (0 : Nat) = 0), if_neg h4, if_pos h5]
                have eM : f_X3_set mc mw me mf (2 : Int32) (nI r) (nI c) p4 = (f_X3_at me 2 (nI r) (nI c), upd me (192 * 2 + 8 * r + c) p4, 0, 0) := by rw [f_X3_set, eF, if_neg (show ¬ (1 : Int32) = 0 by decide), f_X3_isIn, if_neg h4, if_neg (Int32.not_lt.mpr h5), if_neg (show ¬ (1 : Int32) = 0 by decide)]; rw [show (((192 : Int32) * 2 + 8 * nI r) + nI c).toNatClampNeg = 192 * 2 + 8 * r + c from ix_3 (k := 2) (by decide) hr hc]
                exact Or.inl ⟨eX, by rw [eM], by rw [eC, eM]; exact (c_cellAt i2 hr hc).trans (m_at m2 I_2 (by decide) hr hc (cel_iff.mpr ⟨hb, hd⟩)).symm, by rw [eC, eM]; exact Rl_2 R (tI_putCell i2 hr hc p4) (tM_putCell m2 hr hc p4) (fr_e hr hc)⟩
              · skip
                have eX : f_X2_set_x zb zo zt (2 : Int32) (nI r) (nI c) p4 = 2 := by rw [f_X2_set_x, if_neg (show ¬ (2 : Int32) = 0 by decide), if_neg (show ¬ (2 : Int32) = 1 by decide), if_pos (rfl : (2 : Int32) = 2), rqr_i hr, hb, if_pos (rfl : true = true), if_pos (rfl : (0 : Nat) = 0), rqc_i hc, hd, if_pos (rfl : true = true), if_pos (rfl : (0 : Nat) = 0), if_neg h4, if_neg h5]
                have eM : f_X3_set mc mw me mf (2 : Int32) (nI r) (nI c) p4 = (0, me, mf, 2) := by rw [f_X3_set, eF, if_neg (show ¬ (1 : Int32) = 0 by decide), f_X3_isIn, if_neg h4, if_pos (Int32.not_le.mp h5), if_pos rfl]
                refine Or.inr ⟨by rw [eX]; decide, by rw [eX, eM]; rfl, by rw [eM]; exact R⟩
      · have eF : f_X3_findsCell_2 mc mw 2 (nI r) p3 = (0, 1) := M_findc2o (fun z => h3 z.2.2)
        cases hb : bt zt.2.1 r
        · skip
          have eX : f_X2_set_x zb zo zt (2 : Int32) (nI r) p3 p4 = 1 := by rw [f_X2_set_x, if_neg (show ¬ (2 : Int32) = 0 by decide), if_neg (show ¬ (2 : Int32) = 1 by decide), if_pos (rfl : (2 : Int32) = 2), rqr_i hr, hb, if_neg (show ¬ false = true by decide), if_neg (by decide)]
          have eM : f_X3_set mc mw me mf (2 : Int32) (nI r) p3 p4 = (0, me, mf, 1) := by rw [f_X3_set, eF, if_pos rfl]
          refine Or.inr ⟨by rw [eX]; decide, by rw [eX, eM]; rfl, by rw [eM]; exact R⟩
        · skip
          have eX : f_X2_set_x zb zo zt (2 : Int32) (nI r) p3 p4 = 1 := by rw [f_X2_set_x, if_neg (show ¬ (2 : Int32) = 0 by decide), if_neg (show ¬ (2 : Int32) = 1 by decide), if_pos (rfl : (2 : Int32) = 2), rqr_i hr, hb, if_pos (rfl : true = true), if_pos (rfl : (0 : Nat) = 0), rqc_o h3, if_neg (by decide)]
          have eM : f_X3_set mc mw me mf (2 : Int32) (nI r) p3 p4 = (0, me, mf, 1) := by rw [f_X3_set, eF, if_pos rfl]
          refine Or.inr ⟨by rw [eX]; decide, by rw [eX, eM]; rfl, by rw [eM]; exact R⟩
    · skip
      have eX : f_X2_set_x zb zo zt (2 : Int32) p2 p3 p4 = 1 := by rw [f_X2_set_x, if_neg (show ¬ (2 : Int32) = 0 by decide), if_neg (show ¬ (2 : Int32) = 1 by decide), if_pos (rfl : (2 : Int32) = 2), rqr_o h2, if_neg (by decide)]
      have eM : f_X3_set mc mw me mf (2 : Int32) p2 p3 p4 = (0, me, mf, 1) := by rw [f_X3_set, M_findc2o (fun z => h2 z.2.1), if_pos rfl]
      refine Or.inr ⟨by rw [eX]; decide, by rw [eX, eM]; rfl, by rw [eM]; exact R⟩
  · skip
    have eX : f_X2_set_x zb zo zt p1 p2 p3 p4 = 1 := by rw [f_X2_set_x, if_neg (o3 h1).1, if_neg (o3 h1).2.1, if_neg (o3 h1).2.2]
    have eM : f_X3_set mc mw me mf p1 p2 p3 p4 = (0, me, mf, 1) := by rw [f_X3_set, M_findc2o (fun z => h1 z.1), if_pos rfl]
    refine Or.inr ⟨by rw [eX]; decide, by rw [eX, eM]; rfl, by rw [eM]; exact R⟩
end Fill
