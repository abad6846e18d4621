/-! ===== rules, references, what is read ===== -/
section Small
variable {zb zo zt zm : Tr} {zu zr : Nat → Int32} {zl : Lr} {zf : Int32} {mc mw mn me mu mr : Nat → Int32} {mz : Kr} {mf : Int32}
theorem s_setRule (R : Rl zb zo zt zm zu zr zl zf mc mw mn me mu mr mz mf) (p1 p2 : Int32) :
    (f_X2_setRule_x p1 p2 = 0 ∧ (f_X3_setRule mu mf p1 p2).2.2.2 = 0 ∧ (f_X2_setRule zu zf p1 p2).1 = (f_X3_setRule mu mf p1 p2).1 ∧ Rl zb zo zt zm (f_X2_setRule zu zf p1 p2).2.1 zr zl (f_X2_setRule zu zf p1 p2).2.2 mc mw mn me (f_X3_setRule mu mf p1 p2).2.1 mr mz (f_X3_setRule mu mf p1 p2).2.2.1)
    ∨ (¬ f_X2_setRule_x p1 p2 = 0 ∧ (f_X3_setRule mu mf p1 p2).2.2.2 = nI (f_X2_setRule_x p1 p2) ∧ Rl zb zo zt zm zu zr zl zf mc mw mn me (f_X3_setRule mu mf p1 p2).2.1 mr mz (f_X3_setRule mu mf p1 p2).2.2.1) := by
  obtain ⟨ri, rm, ru, rr, rl, re, -, -, -⟩ := id R
  by_cases h1 : vp_in p1 8
  · obtain ⟨c, hc, rfl⟩ := cl8 h1
    by_cases h2 : p2 < 0
    · have eX : f_X2_setRule_x (nI c) p2 = 2 := by rw [f_X2_setRule_x, if_pos (rqCol_t h1), if_pos h2]
      have eM : f_X3_setRule mu mf (nI c) p2 = (0, mu, mf, 2) := by rw [f_X3_setRule, isIn_t (v8 hc) (by decide) rfl J_7, if_neg (show ¬ (1 : Int32) = 0 by decide), f_X3_isIn, if_pos h2, if_pos rfl]
      exact Or.inr ⟨by rw [eX]; decide, by rw [eX, eM]; rfl, by rw [eM]; exact R⟩
    · by_cases h3 : p2 ≤ 3
      · have eX : f_X2_setRule_x (nI c) p2 = 0 := by rw [f_X2_setRule_x, if_pos (rqCol_t h1), if_neg h2, if_pos h3]
        have eC : f_X2_setRule zu zf (nI c) p2 = (zu c, upd zu c p2, 0) := by rw [f_X2_setRule, if_pos (rqCol_t h1), if_neg h2, if_pos h3, nI_clamp (show c < 2 ^ 31 by omega)]
        have eM : f_X3_setRule mu mf (nI c) p2 = (mu c, upd mu c p2, 0, 0) := by rw [f_X3_setRule, isIn_t (v8 hc) (by decide) rfl J_7, if_neg (show ¬ (1 : Int32) = 0 by decide), f_X3_isIn, if_neg h2, if_neg (Int32.not_lt.mpr h3), if_neg (show ¬ (1 : Int32) = 0 by decide), nI_clamp (show c < 2 ^ 31 by omega)]
        have ru' : ∀ d, d < 8 → upd zu c p2 d = upd mu c p2 d := fun d hd => by
          by_cases e : d = c
          · rw [e, pk_us, pk_us]
          · rw [pk_un e, pk_un e]; exact ru d hd
        exact Or.inl ⟨eX, by rw [eM], by rw [eC, eM]; exact ru c hc, by rw [eC, eM]; exact ⟨ri, rm, ru', rr, rl, re, fun z => absurd (show (0 : Int32) = 1 from z) (by decide), rfl, Or.inl rfl⟩⟩
      · have eX : f_X2_setRule_x (nI c) p2 = 2 := by rw [f_X2_setRule_x, if_pos (rqCol_t h1), if_neg h2, if_neg h3]
        have eM : f_X3_setRule mu mf (nI c) p2 = (0, mu, mf, 2) := by rw [f_X3_setRule, isIn_t (v8 hc) (by decide) rfl J_7, if_neg (show ¬ (1 : Int32) = 0 by decide), f_X3_isIn, if_neg h2, if_pos (Int32.not_le.mp h3), if_pos rfl]
        exact Or.inr ⟨by rw [eX]; decide, by rw [eX, eM]; rfl, by rw [eM]; exact R⟩
  · have eX : f_X2_setRule_x p1 p2 = 1 := by rw [f_X2_setRule_x, rqCol_f h1, if_neg (by decide)]
    have eM : f_X3_setRule mu mf p1 p2 = (0, mu, mf, 1) := by rw [f_X3_setRule, isIn_f (n := 7) h1 (by decide) rfl J_7, if_pos rfl]
    exact Or.inr ⟨by rw [eX]; decide, by rw [eX, eM]; rfl, by rw [eM]; exact R⟩
theorem s_setReference (R : Rl zb zo zt zm zu zr zl zf mc mw mn me mu mr mz mf) (p1 p2 : Int32) (hb2 : p2 = 0 ∨ p2 = 1) :
    (f_X2_setReference_x p1 = 0 ∧ (f_X3_setReference mr mf p1 p2).2.2.2 = 0 ∧ (f_X2_setReference zr zf p1 p2).1 = (f_X3_setReference mr mf p1 p2).1 ∧ Rl zb zo zt zm zu (f_X2_setReference zr zf p1 p2).2.1 zl (f_X2_setReference zr zf p1 p2).2.2 mc mw mn me mu (f_X3_setReference mr mf p1 p2).2.1 mz (f_X3_setReference mr mf p1 p2).2.2.1)
    ∨ (¬ f_X2_setReference_x p1 = 0 ∧ (f_X3_setReference mr mf p1 p2).2.2.2 = nI (f_X2_setReference_x p1) ∧ Rl zb zo zt zm zu zr zl zf mc mw mn me mu (f_X3_setReference mr mf p1 p2).2.1 mz (f_X3_setReference mr mf p1 p2).2.2.1) := by
  obtain ⟨ri, rm, ru, rr, rl, re, -, -, -⟩ := id R
  by_cases h1 : vp_in p1 8
  · obtain ⟨c, hc, rfl⟩ := cl8 h1
    have eX : f_X2_setReference_x (nI c) = 0 := by rw [f_X2_setReference_x, if_pos (rqCol_t h1)]
    have rr' : ∀ d, d < 8 → upd zr c p2 d = upd mr c p2 d ∧ (upd mr c p2 d = 0 ∨ upd mr c p2 d = 1) := fun d hd => by
      by_cases e : d = c
      · rw [e, pk_us, pk_us]; exact ⟨rfl, hb2⟩
      · rw [pk_un e, pk_un e]; exact rr d hd
    have hz := (rr c hc).1
    by_cases h2 : mr c = p2
    · have eC : f_X2_setReference zr zf (nI c) p2 = (0, upd zr c p2, 0) := by rw [f_X2_setReference, if_pos (rqCol_t h1), nI_clamp (show c < 2 ^ 31 by omega), if_pos (hz.trans h2)]
      have eM : f_X3_setReference mr mf (nI c) p2 = (0, upd mr c p2, 0, 0) := by rw [f_X3_setReference, isIn_t (v8 hc) (by decide) rfl J_7, if_neg (show ¬ (1 : Int32) = 0 by decide), nI_clamp (show c < 2 ^ 31 by omega), if_pos h2]
      exact Or.inl ⟨eX, by rw [eM], by rw [eC, eM], by rw [eC, eM]; exact ⟨ri, rm, ru, rr', rl, re, fun z => absurd (show (0 : Int32) = 1 from z) (by decide), rfl, Or.inl rfl⟩⟩
    · have eC : f_X2_setReference zr zf (nI c) p2 = (1, upd zr c p2, 0) := by rw [f_X2_setReference, if_pos (rqCol_t h1), nI_clamp (show c < 2 ^ 31 by omega), if_neg (fun z => h2 (hz.symm.trans z))]
      have eM : f_X3_setReference mr mf (nI c) p2 = (1, upd mr c p2, 0, 0) := by rw [f_X3_setReference, isIn_t (v8 hc) (by decide) rfl J_7, if_neg (show ¬ (1 : Int32) = 0 by decide), nI_clamp (show c < 2 ^ 31 by omega), if_neg h2]
      exact Or.inl ⟨eX, by rw [eM], by rw [eC, eM], by rw [eC, eM]; exact ⟨ri, rm, ru, rr', rl, re, fun z => absurd (show (0 : Int32) = 1 from z) (by decide), rfl, Or.inl rfl⟩⟩
  · have eX : f_X2_setReference_x p1 = 1 := by rw [f_X2_setReference_x, rqCol_f h1, if_neg (by decide)]
    have eM : f_X3_setReference mr mf p1 p2 = (0, mr, mf, 1) := by rw [f_X3_setReference, isIn_f (n := 7) h1 (by decide) rfl J_7, if_pos rfl]
    exact Or.inr ⟨by rw [eX]; decide, by rw [eX, eM]; rfl, by rw [eM]; exact R⟩
theorem s_columns (R : Rl zb zo zt zm zu zr zl zf mc mw mn me mu mr mz mf) (p1 : Int32) :
    (f_X2_columns_x p1 = 0 ∧ (f_X3_columns mc p1).2 = 0 ∧ f_X2_columns zb zo zt zm p1 = (f_X3_columns mc p1).1) ∨ (¬ f_X2_columns_x p1 = 0 ∧ (f_X3_columns mc p1).2 = nI (f_X2_columns_x p1)) := by
  obtain ⟨-, ⟨m0, m1, m2, m3⟩, -⟩ := id R
  rcases ar4 (x := p1) with (rfl | rfl | rfl | rfl) | h1
  · have eM : f_X3_columns mc (0 : Int32) = (mc 0, 0) := by rw [f_X3_columns, isIn_t (x := (0 : Int32)) (n := 3) (vp_in_nI (n := 0) (by decide) (by decide)) (by decide) rfl J_3, if_neg (show ¬ (1 : Int32) = 0 by decide)]; rfl
    exact Or.inl ⟨by rw [f_X2_columns_x, if_pos (rfl : (0 : Int32) = 0)], by rw [eM], by rw [eM, f_X2_columns, if_pos (rfl : (0 : Int32) = 0)]; exact m0.1⟩
  · have eM : f_X3_columns mc (1 : Int32) = (mc 1, 0) := by rw [f_X3_columns, isIn_t (x := (1 : Int32)) (n := 3) (vp_in_nI (n := 1) (by decide) (by decide)) (by decide) rfl J_3, if_neg (show ¬ (1 : Int32) = 0 by decide)]; rfl
    exact Or.inl ⟨by rw [f_X2_columns_x, if_neg (show ¬ (1 : Int32) = 0 by decide), if_pos (rfl : (1 : Int32) = 1)], by rw [eM], by rw [eM, f_X2_columns, if_neg (show ¬ (1 : Int32) = 0 by decide), if_pos (rfl : (1 : Int32) = 1)]; exact m1.1⟩
  · have eM : f_X3_columns mc (2 : Int32) = (mc 2, 0) := by rw [f_X3_columns, isIn_t (x := (2 : Int32)) (n := 3) (vp_in_nI (n := 2) (by decide) (by decide)) (by decide) rfl J_3, if_neg (show ¬ (1 : Int32) = 0 by decide)]; rfl
    exact Or.inl ⟨by rw [f_X2_columns_x, if_neg (show ¬ (2 : Int32) = 0 by decide), if_neg (show ¬ (2 : Int32) = 1 by decide), if_pos (rfl : (2 : Int32) = 2)], by rw [eM], by rw [eM, f_X2_columns, if_neg (show ¬ (2 : Int32) = 0 by decide), if_neg (show ¬ (2 : Int32) = 1 by decide), if_pos (rfl : (2 : Int32) = 2)]; exact m2.1⟩
  · have eM : f_X3_columns mc (3 : Int32) = (mc 3, 0) := by rw [f_X3_columns, isIn_t (x := (3 : Int32)) (n := 3) (vp_in_nI (n := 3) (by decide) (by decide)) (by decide) rfl J_3, if_neg (show ¬ (1 : Int32) = 0 by decide)]; rfl
    exact Or.inl ⟨by rw [f_X2_columns_x, if_neg (show ¬ (3 : Int32) = 0 by decide), if_neg (show ¬ (3 : Int32) = 1 by decide), if_neg (show ¬ (3 : Int32) = 2 by decide), if_pos (rfl : (3 : Int32) = 3)], by rw [eM], by rw [eM, f_X2_columns, if_neg (show ¬ (3 : Int32) = 0 by decide), if_neg (show ¬ (3 : Int32) = 1 by decide), if_neg (show ¬ (3 : Int32) = 2 by decide), if_pos (rfl : (3 : Int32) = 3)]; exact m3.1⟩
  · have eX : f_X2_columns_x p1 = 1 := by rw [f_X2_columns_x, if_neg (o4 h1).1, if_neg (o4 h1).2.1, if_neg (o4 h1).2.2.1, if_neg (o4 h1).2.2.2]
    have eM : f_X3_columns mc p1 = (0, 1) := by rw [f_X3_columns, isIn_f (n := 3) h1 (by decide) rfl J_3, if_pos rfl]
    exact Or.inr ⟨by rw [eX]; decide, by rw [eX, eM]; rfl⟩
theorem s_rows (R : Rl zb zo zt zm zu zr zl zf mc mw mn me mu mr mz mf) (p1 : Int32) :
    (f_X2_rows_x p1 = 0 ∧ (f_X3_rows mw p1).2 = 0 ∧ f_X2_rows zb zo zt zm p1 = (f_X3_rows mw p1).1) ∨ (¬ f_X2_rows_x p1 = 0 ∧ (f_X3_rows mw p1).2 = nI (f_X2_rows_x p1)) := by
  obtain ⟨-, ⟨m0, m1, m2, m3⟩, -⟩ := id R
  rcases ar4 (x := p1) with (rfl | rfl | rfl | rfl) | h1
  · have eM : f_X3_rows mw (0 : Int32) = (mw 0, 0) := by rw [f_X3_rows, isIn_t (x := (0 : Int32)) (n := 3) (vp_in_nI (n := 0) (by decide) (by decide)) (by decide) rfl J_3, if_neg (show ¬ (1 : Int32) = 0 by decide)]; rfl
    exact Or.inl ⟨by rw [f_X2_rows_x, if_pos (rfl : (0 : Int32) = 0)], by rw [eM], by rw [eM, f_X2_rows, if_pos (rfl : (0 : Int32) = 0)]; exact m0.2.1⟩
  · have eM : f_X3_rows mw (1 : Int32) = (mw 1, 0) := by rw [f_X3_rows, isIn_t (x := (1 : Int32)) (n := 3) (vp_in_nI (n := 1) (by decide) (by decide)) (by decide) rfl J_3, if_neg (show ¬ (1 : Int32) = 0 by decide)]; rfl
    exact Or.inl ⟨by rw [f_X2_rows_x, if_neg (show ¬ (1 : Int32) = 0 by decide), if_pos (rfl : (1 : Int32) = 1)], by rw [eM], by rw [eM, f_X2_rows, if_neg (show ¬ (1 : Int32) = 0 by decide), if_pos (rfl : (1 : Int32) = 1)]; exact m1.2.1⟩
  · have eM : f_X3_rows mw (2 : Int32) = (mw 2, 0) := by rw [f_X3_rows, isIn_t (x := (2 : Int32)) (n := 3) (vp_in_nI (n := 2) (by decide) (by decide)) (by decide) rfl J_3, if_neg (show ¬ (1 : Int32) = 0 by decide)]; rfl
    exact Or.inl ⟨by rw [f_X2_rows_x, if_neg (show ¬ (2 : Int32) = 0 by decide), if_neg (show ¬ (2 : Int32) = 1 by decide), if_pos (rfl : (2 : Int32) = 2)], by rw [eM], by rw [eM, f_X2_rows, if_neg (show ¬ (2 : Int32) = 0 by decide), if_neg (show ¬ (2 : Int32) = 1 by decide), if_pos (rfl : (2 : Int32) = 2)]; exact m2.2.1⟩
  · have eM : f_X3_rows mw (3 : Int32) = (mw 3, 0) := by rw [f_X3_rows, isIn_t (x := (3 : Int32)) (n := 3) (vp_in_nI (n := 3) (by decide) (by decide)) (by decide) rfl J_3, if_neg (show ¬ (1 : Int32) = 0 by decide)]; rfl
    exact Or.inl ⟨by rw [f_X2_rows_x, if_neg (show ¬ (3 : Int32) = 0 by decide), if_neg (show ¬ (3 : Int32) = 1 by decide), if_neg (show ¬ (3 : Int32) = 2 by decide), if_pos (rfl : (3 : Int32) = 3)], by rw [eM], by rw [eM, f_X2_rows, if_neg (show ¬ (3 : Int32) = 0 by decide), if_neg (show ¬ (3 : Int32) = 1 by decide), if_neg (show ¬ (3 : Int32) = 2 by decide), if_pos (rfl : (3 : Int32) = 3)]; exact m3.2.1⟩
  · have eX : f_X2_rows_x p1 = 1 := by rw [f_X2_rows_x, if_neg (o4 h1).1, if_neg (o4 h1).2.1, if_neg (o4 h1).2.2.1, if_neg (o4 h1).2.2.2]
    have eM : f_X3_rows mw p1 = (0, 1) := by rw [f_X3_rows, isIn_f (n := 3) h1 (by decide) rfl J_3, if_pos rfl]
    exact Or.inr ⟨by rw [eX]; decide, by rw [eX, eM]; rfl⟩
theorem M_finds3 {K : Int32} {k c : Nat} (hK : K = nI k) (hk : k < 4) (hc : c < 8) : f_X3_findsColumn_3 mc K (nI c) = if bt (mc k) c = true then (1, 0) else (0, 1) := by
  subst hK
  rw [f_X3_findsColumn_3, isIn_t (n := 3) (vp_in_nI hk (by decide)) (by decide) rfl J_3, if_neg (show ¬ (1 : Int32) = 0 by decide), isIn_t (v8 hc) (by decide) rfl J_7, if_neg (show ¬ (1 : Int32) = 0 by decide), m_hasColumn rfl (by omega) (by omega), ite_iB]
theorem M_finds3o {p1 p2 : Int32} (h : ¬ (vp_in p1 4 ∧ vp_in p2 8)) : f_X3_findsColumn_3 mc p1 p2 = (0, 1) := by
  rw [f_X3_findsColumn_3]
  by_cases h1 : vp_in p1 4
  · rw [isIn_t (n := 3) h1 (by decide) rfl J_3, if_neg (show ¬ (1 : Int32) = 0 by decide), isIn_f (n := 7) (fun z => h ⟨h1, z⟩) (by decide) rfl J_7, if_pos rfl]
  · rw [isIn_f (n := 3) h1 (by decide) rfl J_3, if_pos rfl]
theorem M_findc3 {K : Int32} {k r c : Nat} (hK : K = nI k) (hk : k < 4) (hr : r < 24) (hc : c < 8) : f_X3_findsCell_3 mc mw K (nI r) (nI c) = if (bt (mw k) r && bt (mc k) c) = true then (1, 0) else (0, 1) := by
  subst hK
  rw [f_X3_findsCell_3, isIn_t (n := 3) (vp_in_nI hk (by decide)) (by decide) rfl J_3, if_neg (show ¬ (1 : Int32) = 0 by decide), isIn_t (v24 hr) (by decide) rfl J_23, if_neg (show ¬ (1 : Int32) = 0 by decide), isIn_t (v8 hc) (by decide) rfl J_7, if_neg (show ¬ (1 : Int32) = 0 by decide), f_X3_hasCell, m_hasRow rfl (by omega) (by omega), m_hasColumn rfl (by omega) (by omega)]
  cases bt (mw k) r <;> cases bt (mc k) c <;> rfl
theorem M_findc3o {p1 p2 p3 : Int32} (h : ¬ (vp_in p1 4 ∧ vp_in p2 24 ∧ vp_in p3 8)) : f_X3_findsCell_3 mc mw p1 p2 p3 = (0, 1) := by
  rw [f_X3_findsCell_3]
  by_cases h1 : vp_in p1 4
  · rw [isIn_t (n := 3) h1 (by decide) rfl J_3, if_neg (show ¬ (1 : Int32) = 0 by decide)]
    by_cases h2 : vp_in p2 24
    · rw [isIn_t (n := 23) h2 (by decide) rfl J_23, if_neg (show ¬ (1 : Int32) = 0 by decide), isIn_f (n := 7) (fun z => h ⟨h1, h2, z⟩) (by decide) rfl J_7, if_pos rfl]
    · rw [isIn_f (n := 23) h2 (by decide) rfl J_23, if_pos rfl]
  · rw [isIn_f (n := 3) h1 (by decide) rfl J_3, if_pos rfl]
theorem s_name (R : Rl zb zo zt zm zu zr zl zf mc mw mn me mu mr mz mf) (p1 p2 : Int32) :
    (f_X2_name_x zb zo zt zm p1 p2 = 0 ∧ (f_X3_name mc mn p1 p2).2 = 0 ∧ f_X2_name zb zo zt zm p1 p2 = (f_X3_name mc mn p1 p2).1) ∨ (¬ f_X2_name_x zb zo zt zm p1 p2 = 0 ∧ (f_X3_name mc mn p1 p2).2 = nI (f_X2_name_x zb zo zt zm p1 p2)) := by
  obtain ⟨⟨i0, i1, i2, i3⟩, ⟨m0, m1, m2, m3⟩, -⟩ := id R
  rcases ar4 (x := p1) with (rfl | rfl | rfl | rfl) | h1
  · by_cases h2 : vp_in p2 8
    · obtain ⟨c, hc, rfl⟩ := cl8 h2
      have eF := M_finds3 (mc := mc) (K := 0) (k := 0) rfl (by decide) hc
      rw [← m0.1] at eF
      cases hb : bt zb.1 c
      · rw [hb, if_neg (by decide)] at eF
        have eX : f_X2_name_x zb zo zt zm (0 : Int32) (nI c) = 1 := by rw [f_X2_name_x, if_pos (rfl : (0 : Int32) = 0), rqc_i hc, hb, if_neg (show ¬ false = true by decide), if_neg (by decide)]
        have eM : f_X3_name mc mn (0 : Int32) (nI c) = (0, 1) := by rw [f_X3_name, eF, if_pos rfl]
        exact Or.inr ⟨by rw [eX]; decide, by rw [eX, eM]; rfl⟩
      · rw [hb, if_pos rfl] at eF
        have eX : f_X2_name_x zb zo zt zm (0 : Int32) (nI c) = 0 := by rw [f_X2_name_x, if_pos (rfl : (0 : Int32) = 0), rqc_i hc, hb, if_pos (rfl : true = true), if_pos rfl]
        have eC : f_X2_name zb zo zt zm (0 : Int32) (nI c) = f_X1_nameAt zb (nI c) := by rw [f_X2_name, if_pos (rfl : (0 : Int32) = 0), rqc_i hc, hb, if_pos (rfl : true = true), if_pos (rfl : (0 : Nat) = 0)]
        have eM : f_X3_name mc mn (0 : Int32) (nI c) = (mn (8 * 0 + c), 0) := by rw [f_X3_name, eF, if_neg (show ¬ (1 : Int32) = 0 by decide)]; rw [show ((8 : Int32) * 0 + nI c).toNatClampNeg = 8 * 0 + c from ix_2 (k := 0) (by decide) hc]
        exact Or.inl ⟨eX, by rw [eM], by rw [eC, eM]; exact (c_nameAt i0 hc).trans (m0.2.2.1 c hc hb).symm⟩
    · have eX : f_X2_name_x zb zo zt zm (0 : Int32) p2 = 1 := by rw [f_X2_name_x, if_pos (rfl : (0 : Int32) = 0), rqc_o h2, if_neg (by decide)]
      have eM : f_X3_name mc mn (0 : Int32) p2 = (0, 1) := by rw [f_X3_name, M_finds3o (fun z => h2 z.2), if_pos rfl]
      exact Or.inr ⟨by rw [eX]; decide, by rw [eX, eM]; rfl⟩
  · by_cases h2 : vp_in p2 8
    · obtain ⟨c, hc, rfl⟩ := cl8 h2
      have eF := M_finds3 (mc := mc) (K := 1) (k := 1) rfl (by decide) hc
      rw [← m1.1] at eF
      cases hb : bt zo.1 c
      · rw [hb, if_neg (by decide)] at eF
        have eX : f_X2_name_x zb zo zt zm (1 : Int32) (nI c) = 1 := by rw [f_X2_name_x, if_neg (show ¬ (1 : Int32) = 0 by decide), if_pos (rfl : (1 : Int32) = 1), rqc_i hc, hb, if_neg (show ¬ false = true by decide), if_neg (by decide)]
        have eM : f_X3_name mc mn (1 : Int32) (nI c) = (0, 1) := by rw [f_X3_name, eF, if_pos rfl]
        exact Or.inr ⟨by rw [eX]; decide, by rw [eX, eM]; rfl⟩
      · rw [hb, if_pos rfl] at eF
        have eX : f_X2_name_x zb zo zt zm (1 : Int32) (nI c) = 0 := by rw [f_X2_name_x, if_neg (show ¬ (1 : Int32) = 0 by decide), if_pos (rfl : (1 : Int32) = 1), rqc_i hc, hb, if_pos (rfl : true = true), if_pos rfl]
        have eC : f_X2_name zb zo zt zm (1 : Int32) (nI c) = f_X1_nameAt zo (nI c) := by rw [f_X2_name, if_neg (show ¬ (1 : Int32) = 0 by decide), if_pos (rfl : (1 : Int32) = 1), rqc_i hc, hb, if_pos (rfl : true = true), if_pos (rfl : (0 : Nat) = 0)]
        have eM : f_X3_name mc mn (1 : Int32) (nI c) = (mn (8 * 1 + c), 0) := by rw [f_X3_name, eF, if_neg (show ¬ (1 : Int32) = 0 by decide)]; rw [show ((8 : Int32) * 1 + nI c).toNatClampNeg = 8 * 1 + c from ix_2 (k := 1) (by decide) hc]
        exact Or.inl ⟨eX, by rw [eM], by rw [eC, eM]; exact (c_nameAt i1 hc).trans (m1.2.2.1 c hc hb).symm⟩
    · have eX : f_X2_name_x zb zo zt zm (1 : Int32) p2 = 1 := by rw [f_X2_name_x, if_neg (show ¬ (1 : Int32) = 0 by decide), if_pos (rfl : (1 : Int32) = 1), rqc_o h2, if_neg (by decide)]
      have eM : f_X3_name mc mn (1 : Int32) p2 = (0, 1) := by rw [f_X3_name, M_finds3o (fun z => h2 z.2), if_pos rfl]
      exact Or.inr ⟨by rw [eX]; decide, by rw [eX, eM]; rfl⟩
  · by_cases h2 : vp_in p2 8
    · obtain ⟨c, hc, rfl⟩ := cl8 h2
      have eF := M_finds3 (mc := mc) (K := 2) (k := 2) rfl (by decide) hc
      rw [← m2.1] at eF
      cases hb : bt zt.1 c
      · rw [hb, if_neg (by decide)] at eF
        have eX : f_X2_name_x zb zo zt zm (2 : Int32) (nI c) = 1 := by rw [f_X2_name_x, if_neg (show ¬ (2 : Int32) = 0 by decide), if_neg (show ¬ (2 : Int32) = 1 by decide), if_pos (rfl : (2 : Int32) = 2), rqc_i hc, hb, if_neg (show ¬ false = true by decide), if_neg (by decide)]
        have eM : f_X3_name mc mn (2 : Int32) (nI c) = (0, 1) := by rw [f_X3_name, eF, if_pos rfl]
        exact Or.inr ⟨by rw [eX]; decide, by rw [eX, eM]; rfl⟩
      · rw [hb, if_pos rfl] at eF
        have eX : f_X2_name_x zb zo zt zm (2 : Int32) (nI c) = 0 := by rw [f_X2_name_x, if_neg (show ¬ (2 : Int32) = 0 by decide), if_neg (show ¬ (2 : Int32) = 1 by decide), if_pos (rfl : (2 : Int32) = 2), rqc_i hc, hb, if_pos (rfl : true = true), if_pos rfl]
        have eC : f_X2_name zb zo zt zm (2 : Int32) (nI c) = f_X1_nameAt zt (nI c) := by rw [f_X2_name, if_neg (show ¬ (2 : Int32) = 0 by decide), if_neg (show ¬ (2 : Int32) = 1 by decide), if_pos (rfl : (2 : Int32) = 2), rqc_i hc, hb, if_pos (rfl : true = true), if_pos (rfl : (0 : Nat) = 0)]
        have eM : f_X3_name mc mn (2 : Int32) (nI c) = (mn (8 * 2 + c), 0) := by rw [f_X3_name, eF, if_neg (show ¬ (1 : Int32) = 0 by decide)]; rw [show ((8 : Int32) * 2 + nI c).toNatClampNeg = 8 * 2 + c from ix_2 (k := 2) (by decide) hc]
        exact Or.inl ⟨eX, by rw [eM], by rw [eC, eM]; exact (c_nameAt i2 hc).trans (m2.2.2.1 c hc hb).symm⟩
    · have eX : f_X2_name_x zb zo zt zm (2 : Int32) p2 = 1 := by rw [f_X2_name_x, if_neg (show ¬ (2 : Int32) = 0 by decide), if_neg (show ¬ (2 : Int32) = 1 by decide), if_pos (rfl : (2 : Int32) = 2), rqc_o h2, if_neg (by decide)]
      have eM : f_X3_name mc mn (2 : Int32) p2 = (0, 1) := by rw [f_X3_name, M_finds3o (fun z => h2 z.2), if_pos rfl]
      exact Or.inr ⟨by rw [eX]; decide, by rw [eX, eM]; rfl⟩
  · by_cases h2 : vp_in p2 8
    · obtain ⟨c, hc, rfl⟩ := cl8 h2
      have eF := M_finds3 (mc := mc) (K := 3) (k := 3) rfl (by decide) hc
      rw [← m3.1] at eF
      cases hb : bt zm.1 c
      · rw [hb, if_neg (by decide)] at eF
        have eX : f_X2_name_x zb zo zt zm (3 : Int32) (nI c) = 1 := by rw [f_X2_name_x, if_neg (show ¬ (3 : Int32) = 0 by decide), if_neg (show ¬ (3 : Int32) = 1 by decide), if_neg (show ¬ (3 : Int32) = 2 by decide), if_pos (rfl : (3 : Int32) = 3), rqc_i hc, hb, if_neg (show ¬ false = true by decide), if_neg (by decide)]
        have eM : f_X3_name mc mn (3 : Int32) (nI c) = (0, 1) := by rw [f_X3_name, eF, if_pos rfl]
        exact Or.inr ⟨by rw [eX]; decide, by rw [eX, eM]; rfl⟩
      · rw [hb, if_pos rfl] at eF
        have eX : f_X2_name_x zb zo zt zm (3 : Int32) (nI c) = 0 := by rw [f_X2_name_x, if_neg (show ¬ (3 : Int32) = 0 by decide), if_neg (show ¬ (3 : Int32) = 1 by decide), if_neg (show ¬ (3 : Int32) = 2 by decide), if_pos (rfl : (3 : Int32) = 3), rqc_i hc, hb, if_pos (rfl : true = true), if_pos rfl]
        have eC : f_X2_name zb zo zt zm (3 : Int32) (nI c) = f_X1_nameAt zm (nI c) := by rw [f_X2_name, if_neg (show ¬ (3 : Int32) = 0 by decide), if_neg (show ¬ (3 : Int32) = 1 by decide), if_neg (show ¬ (3 : Int32) = 2 by decide), if_pos (rfl : (3 : Int32) = 3), rqc_i hc, hb, if_pos (rfl : true = true), if_pos (rfl : (0 : Nat) = 0)]
        have eM : f_X3_name mc mn (3 : Int32) (nI c) = (mn (8 * 3 + c), 0) := by rw [f_X3_name, eF, if_neg (show ¬ (1 : Int32) = 0 by decide)]; rw [show ((8 : Int32) * 3 + nI c).toNatClampNeg = 8 * 3 + c from ix_2 (k := 3) (by decide) hc]
        exact Or.inl ⟨eX, by rw [eM], by rw [eC, eM]; exact (c_nameAt i3 hc).trans (m3.2.2.1 c hc hb).symm⟩
    · have eX : f_X2_name_x zb zo zt zm (3 : Int32) p2 = 1 := by rw [f_X2_name_x, if_neg (show ¬ (3 : Int32) = 0 by decide), if_neg (show ¬ (3 : Int32) = 1 by decide), if_neg (show ¬ (3 : Int32) = 2 by decide), if_pos (rfl : (3 : Int32) = 3), rqc_o h2, if_neg (by decide)]
      have eM : f_X3_name mc mn (3 : Int32) p2 = (0, 1) := by rw [f_X3_name, M_finds3o (fun z => h2 z.2), if_pos rfl]
      exact Or.inr ⟨by rw [eX]; decide, by rw [eX, eM]; rfl⟩
  · have eX : f_X2_name_x zb zo zt zm p1 p2 = 1 := by rw [f_X2_name_x, if_neg (o4 h1).1, if_neg (o4 h1).2.1, if_neg (o4 h1).2.2.1, if_neg (o4 h1).2.2.2]
    have eM : f_X3_name mc mn p1 p2 = (0, 1) := by rw [f_X3_name, M_finds3o (fun z => h1 z.1), if_pos rfl]
    exact Or.inr ⟨by rw [eX]; decide, by rw [eX, eM]; rfl⟩
theorem s_get (R : Rl zb zo zt zm zu zr zl zf mc mw mn me mu mr mz mf) (p1 p2 p3 : Int32) :
    (f_X2_get_x zb zo zt zm p1 p2 p3 = 0 ∧ (f_X3_get mc mw me p1 p2 p3).2 = 0 ∧ f_X2_get zb zo zt zm p1 p2 p3 = (f_X3_get mc mw me p1 p2 p3).1) ∨ (¬ f_X2_get_x zb zo zt zm p1 p2 p3 = 0 ∧ (f_X3_get mc mw me p1 p2 p3).2 = nI (f_X2_get_x zb zo zt zm p1 p2 p3)) := by
  obtain ⟨⟨i0, i1, i2, i3⟩, ⟨m0, m1, m2, m3⟩, -⟩ := id R
  rcases ar4 (x := p1) with (rfl | rfl | rfl | rfl) | h1
  · by_cases h2 : vp_in p2 24
    · obtain ⟨r, hr, rfl⟩ := cl24 h2
      by_cases h3 : vp_in p3 8
      · obtain ⟨c, hc, rfl⟩ := cl8 h3
        have eF := M_findc3 (mc := mc) (mw := mw) (K := 0) (k := 0) rfl (by decide) hr hc
        rw [← m0.1, ← m0.2.1] at eF
        cases hb : bt zb.2.1 r
        · rw [hb, Bool.false_and, if_neg (by decide)] at eF
          have eX : f_X2_get_x zb zo zt zm (0 : Int32) (nI r) (nI c) = 1 := by rw [f_X2_get_x, if_pos (rfl : (0 : Int32) = 0), rqr_i hr, hb, if_neg (show ¬ false = true by decide), if_neg (by decide)]
          have eM : f_X3_get mc mw me (0 : Int32) (nI r) (nI c) = (0, 1) := by rw [f_X3_get, eF, if_pos rfl]
          exact Or.inr ⟨by rw [eX]; decide, by rw [eX, eM]; rfl⟩
        · cases hd : bt zb.1 c
          · rw [hb, hd, Bool.and_false, if_neg (by decide)] at eF
            have eX : f_X2_get_x zb zo zt zm (0 : Int32) (nI r) (nI c) = 1 := by rw [f_X2_get_x, if_pos (rfl : (0 : Int32) = 0), rqr_i hr, hb, if_pos (rfl : true = true), if_pos (rfl : (0 : Nat) = 0), rqc_i hc, hd, if_neg (show ¬ false = true by decide), if_neg (by decide)]
            have eM : f_X3_get mc mw me (0 : Int32) (nI r) (nI c) = (0, 1) := by rw [f_X3_get, eF, if_pos rfl]
            exact Or.inr ⟨by rw [eX]; decide, by rw [eX, eM]; rfl⟩
          · rw [hb, hd, Bool.and_true, if_pos rfl] at eF
            have eX : f_X2_get_x zb zo zt zm (0 : Int32) (nI r) (nI c) = 0 := by rw [f_X2_get_x, if_pos (rfl : (0 : Int32) = 0), rqr_i hr, hb, if_pos (rfl : true = true), if_pos (rfl : (0 : Nat) = 0), rqc_i hc, hd, if_pos (rfl : true = true), if_pos rfl]
            have eC : f_X2_get zb zo zt zm (0 : Int32) (nI r) (nI c) = f_X1_cellAt zb (nI r) (nI c) := by rw [f_X2_get, if_pos (rfl : (0 : Int32) = 0), rqr_i hr, hb, if_pos (rfl : true = true), if_pos (rfl : (0 : Nat) = 0), rqc_i hc, hd, if_pos (rfl : true = true), if_pos (rfl : (0 : Nat) = 0)]
            have eM : f_X3_get mc mw me (0 : Int32) (nI r) (nI c) = (f_X3_at me 0 (nI r) (nI c), 0) := by rw [f_X3_get, eF, if_neg (show ¬ (1 : Int32) = 0 by decide)]
            exact Or.inl ⟨eX, by rw [eM], by rw [eC, eM]; exact (c_cellAt i0 hr hc).trans (m_at m0 I_0 (by decide) hr hc (cel_iff.mpr ⟨hb, hd⟩)).symm⟩
      · have eM : f_X3_get mc mw me (0 : Int32) (nI r) p3 = (0, 1) := by rw [f_X3_get, M_findc3o (fun z => h3 z.2.2), if_pos rfl]
        have eX : f_X2_get_x zb zo zt zm (0 : Int32) (nI r) p3 = 1 := by
          rw [f_X2_get_x, if_pos (rfl : (0 : Int32) = 0), rqr_i hr, rqc_o h3]
          cases bt zb.2.1 r <;> rfl
        exact Or.inr ⟨by rw [eX]; decide, by rw [eX, eM]; rfl⟩
    · have eX : f_X2_get_x zb zo zt zm (0 : Int32) p2 p3 = 1 := by rw [f_X2_get_x, if_pos (rfl : (0 : Int32) = 0), rqr_o h2, if_neg (by decide)]
      have eM : f_X3_get mc mw me (0 : Int32) p2 p3 = (0, 1) := by rw [f_X3_get, M_findc3o (fun z => h2 z.2.1), if_pos rfl]
      exact Or.inr ⟨by rw [eX]; decide, by rw [eX, eM]; rfl⟩
  · by_cases h2 : vp_in p2 24
    · obtain ⟨r, hr, rfl⟩ := cl24 h2
      by_cases h3 : vp_in p3 8
      · obtain ⟨c, hc, rfl⟩ := cl8 h3
        have eF := M_findc3 (mc := mc) (mw := mw) (K := 1) (k := 1) rfl (by decide) hr hc
        rw [← m1.1, ← m1.2.1] at eF
        cases hb : bt zo.2.1 r
        · rw [hb, Bool.false_and, if_neg (by decide)] at eF
          have eX : f_X2_get_x zb zo zt zm (1 : Int32) (nI r) (nI c) = 1 := by rw [f_X2_get_x, if_neg (show ¬ (1 : Int32) = 0 by decide), if_pos (rfl : (1 : Int32) = 1), rqr_i hr, hb, if_neg (show ¬ false = true by decide), if_neg (by decide)]
          have eM : f_X3_get mc mw me (1 : Int32) (nI r) (nI c) = (0, 1) := by rw [f_X3_get, eF, if_pos rfl]
          exact Or.inr ⟨by rw [eX]; decide, by rw [eX, eM]; rfl⟩
        · cases hd : bt zo.1 c
          · rw [hb, hd, Bool.and_false, if_neg (by decide)] at eF
            have eX : f_X2_get_x zb zo zt zm (1 : Int32) (nI r) (nI c) = 1 := by rw [f_X2_get_x, if_neg (show ¬ (1 : Int32) = 0 by decide), if_pos (rfl : (1 : Int32) = 1), rqr_i hr, hb, if_pos (rfl : true = true), if_pos (rfl : (0 : Nat) = 0), rqc_i hc, hd, if_neg (show ¬ false = true by decide), if_neg (by decide)]
            have eM : f_X3_get mc mw me (1 : Int32) (nI r) (nI c) = (0, 1) := by rw [f_X3_get, eF, if_pos rfl]
            exact Or.inr ⟨by rw [eX]; decide, by rw [eX, eM]; rfl⟩
          · rw [hb, hd, Bool.and_true, if_pos rfl] at eF
            have eX : f_X2_get_x zb zo zt zm (1 : Int32) (nI r) (nI c) = 0 := by rw [f_X2_get_x, if_neg (show ¬ (1 : Int32) = 0 by decide), if_pos (rfl : (1 : Int32) = 1), rqr_i hr, hb, if_pos (rfl : true = true), if_pos (rfl : (0 : Nat) = 0), rqc_i hc, hd, if_pos (rfl : true = true), if_pos rfl]
            have eC : f_X2_get zb zo zt zm (1 : Int32) (nI r) (nI c) = f_X1_cellAt zo (nI r) (nI c) := by rw [f_X2_get, if_neg (show ¬ (1 : Int32) = 0 by decide), if_pos (rfl : (1 : Int32) = 1), rqr_i hr, hb, if_pos (rfl : true = true), if_pos (rfl : (0 : Nat) = 0), rqc_i hc, hd, if_pos (rfl : true = true), if_pos (rfl : (0 : Nat) = 0)]
            have eM : f_X3_get mc mw me (1 : Int32) (nI r) (nI c) = (f_X3_at me 1 (nI r) (nI c), 0) := by rw [f_X3_get, eF, if_neg (show ¬ (1 : Int32) = 0 by decide)]
            exact Or.inl ⟨eX, by rw [eM], by rw [eC, eM]; exact (c_cellAt i1 hr hc).trans (m_at m1 I_1 (by decide) hr hc (cel_iff.mpr ⟨hb, hd⟩)).symm⟩
      · have eM : f_X3_get mc mw me (1 : Int32) (nI r) p3 = (0, 1) := by rw [f_X3_get, M_findc3o (fun z => h3 z.2.2), if_pos rfl]
        have eX : f_X2_get_x zb zo zt zm (1 : Int32) (nI r) p3 = 1 := by
          rw [f_X2_get_x, if_neg (show ¬ (1 : Int32) = 0 by decide), if_pos (rfl : (1 : Int32) = 1), rqr_i hr, rqc_o h3]
          cases bt zo.2.1 r <;> rfl
        exact Or.inr ⟨by rw [eX]; decide, by rw [eX, eM]; rfl⟩
    · have eX : f_X2_get_x zb zo zt zm (1 : Int32) p2 p3 = 1 := by rw [f_X2_get_x, if_neg (show ¬ (1 : Int32) = 0 by decide), if_pos (rfl : (1 : Int32) = 1), rqr_o h2, if_neg (by decide)]
      have eM : f_X3_get mc mw me (1 : Int32) p2 p3 = (0, 1) := by rw [f_X3_get, M_findc3o (fun z => h2 z.2.1), if_pos rfl]
      exact Or.inr ⟨by rw [eX]; decide, by rw [eX, eM]; rfl⟩
  · by_cases h2 : vp_in p2 24
    · obtain ⟨r, hr, rfl⟩ := cl24 h2
      by_cases h3 : vp_in p3 8
      · obtain ⟨c, hc, rfl⟩ := cl8 h3
        have eF := M_findc3 (mc := mc) (mw := mw) (K := 2) (k := 2) rfl (by decide) hr hc
        rw [← m2.1, ← m2.2.1] at eF
        cases hb : bt zt.2.1 r
        · rw [hb, Bool.false_and, if_neg (by decide)] at eF
          have eX : f_X2_get_x zb zo zt zm (2 : Int32) (nI r) (nI c) = 1 := by rw [f_X2_get_x, if_neg (show ¬ (2 : Int32) = 0 by decide), if_neg (show ¬ (2 : Int32) = 1 by decide), if_pos (rfl : (2 : Int32) = 2), rqr_i hr, hb, if_neg (show ¬ false = true by decide), if_neg (by decide)]
          have eM : f_X3_get mc mw me (2 : Int32) (nI r) (nI c) = (0, 1) := by rw [f_X3_get, eF, if_pos rfl]
          exact Or.inr ⟨by rw [eX]; decide, by rw [eX, eM]; rfl⟩
        · cases hd : bt zt.1 c
          · rw [hb, hd, Bool.and_false, if_neg (by decide)] at eF
            have eX : f_X2_get_x zb zo zt zm (2 : Int32) (nI r) (nI c) = 1 := by rw [f_X2_get_x, if_neg (show ¬ (2 : Int32) = 0 by decide), if_neg (show ¬ (2 : Int32) = 1 by decide), if_pos (rfl : (2 : Int32) = 2), rqr_i hr, hb, if_pos (rfl : true = true), if_pos (rfl : (0 : Nat) = 0), rqc_i hc, hd, if_neg (show ¬ false = true by decide), if_neg (by decide)]
            have eM : f_X3_get mc mw me (2 : Int32) (nI r) (nI c) = (0, 1) := by rw [f_X3_get, eF, if_pos rfl]
            exact Or.inr ⟨by rw [eX]; decide, by rw [eX, eM]; rfl⟩
          · rw [hb, hd, Bool.and_true, if_pos rfl] at eF
            have eX : f_X2_get_x zb zo zt zm (2 : Int32) (nI r) (nI c) = 0 := by rw [f_X2_get_x, if_neg (show ¬ (2 : Int32) = 0 by decide), if_neg (show ¬ (2 : Int32) = 1 by decide), if_pos (rfl : (2 : Int32) = 2), rqr_i hr, hb, if_pos (rfl : true = true), if_pos (rfl : (0 : Nat) = 0), rqc_i hc, hd, if_pos (rfl : true = true), if_pos rfl]
            have eC : f_X2_get zb zo zt zm (2 : Int32) (nI r) (nI c) = f_X1_cellAt zt (nI r) (nI c) := by rw [f_X2_get, if_neg (show ¬ (2 : Int32) = 0 by decide), if_neg (show ¬ (2 : Int32) = 1 by decide), if_pos (rfl : (2 : Int32) = 2), rqr_i hr, hb, if_pos (rfl : true = true), if_pos (rfl : (0 : Nat) = 0), rqc_i hc, hd, if_pos (rfl : true = true), if_pos (rfl : (0 : Nat) = 0)]
            have eM : f_X3_get mc mw me (2 : Int32) (nI r) (nI c) = (f_X3_at me 2 (nI r) (nI c), 0) := by rw [f_X3_get, eF, if_neg (show ¬ (1 : Int32) = 0 by decide)]
            exact Or.inl ⟨eX, by rw [eM], by rw [eC, eM]; exact (c_cellAt i2 hr hc).trans (m_at m2 I_2 (by decide) hr hc (cel_iff.mpr ⟨hb, hd⟩)).symm⟩
      · have eM : f_X3_get mc mw me (2 : Int32) (nI r) p3 = (0, 1) := by rw [f_X3_get, M_findc3o (fun z => h3 z.2.2), if_pos rfl]
        have eX : f_X2_get_x zb zo zt zm (2 : Int32) (nI r) p3 = 1 := by
          rw [f_X2_get_x, if_neg (show ¬ (2 : Int32) = 0 by decide), if_neg (show ¬ (2 : Int32) = 1 by decide), if_pos (rfl : (2 : Int32) = 2), rqr_i hr, rqc_o h3]
          cases bt zt.2.1 r <;> rfl
        exact Or.inr ⟨by rw [eX]; decide, by rw [eX, eM]; rfl⟩
    · have eX : f_X2_get_x zb zo zt zm (2 : Int32) p2 p3 = 1 := by rw [f_X2_get_x, if_neg (show ¬ (2 : Int32) = 0 by decide), if_neg (show ¬ (2 : Int32) = 1 by decide), if_pos (rfl : (2 : Int32) = 2), rqr_o h2, if_neg (by decide)]
      have eM : f_X3_get mc mw me (2 : Int32) p2 p3 = (0, 1) := by rw [f_X3_get, M_findc3o (fun z => h2 z.2.1), if_pos rfl]
      exact Or.inr ⟨by rw [eX]; decide, by rw [eX, eM]; rfl⟩
  · by_cases h2 : vp_in p2 24
    · obtain ⟨r, hr, rfl⟩ := cl24 h2
      by_cases h3 : vp_in p3 8
      · obtain ⟨c, hc, rfl⟩ := cl8 h3
        have eF := M_findc3 (mc := mc) (mw := mw) (K := 3) (k := 3) rfl (by decide) hr hc
        rw [← m3.1, ← m3.2.1] at eF
        cases hb : bt zm.2.1 r
        · rw [hb, Bool.false_and, if_neg (by decide)] at eF
          have eX : f_X2_get_x zb zo zt zm (3 : Int32) (nI r) (nI c) = 1 := by rw [f_X2_get_x, if_neg (show ¬ (3 : Int32) = 0 by decide), if_neg (show ¬ (3 : Int32) = 1 by decide), if_neg (show ¬ (3 : Int32) = 2 by decide), if_pos (rfl : (3 : Int32) = 3), rqr_i hr, hb, if_neg (show ¬ false = true by decide), if_neg (by decide)]
          have eM : f_X3_get mc mw me (3 : Int32) (nI r) (nI c) = (0, 1) := by rw [f_X3_get, eF, if_pos rfl]
          exact Or.inr ⟨by rw [eX]; decide, by rw [eX, eM]; rfl⟩
        · cases hd : bt zm.1 c
          · rw [hb, hd, Bool.and_false, if_neg (by decide)] at eF
            have eX : f_X2_get_x zb zo zt zm (3 : Int32) (nI r) (nI c) = 1 := by rw [f_X2_get_x, if_neg (show ¬ (3 : Int32) = 0 by decide), if_neg (show ¬ (3 : Int32) = 1 by decide), if_neg (show ¬ (3 : Int32) = 2 by decide), if_pos (rfl : (3 : Int32) = 3), rqr_i hr, hb, if_pos (rfl : true = true), if_pos (rfl : (0 : Nat) = 0), rqc_i hc, hd, if_neg (show ¬ false = true by decide), if_neg (by decide)]
            have eM : f_X3_get mc mw me (3 : Int32) (nI r) (nI c) = (0, 1) := by rw [f_X3_get, eF, if_pos rfl]
            exact Or.inr ⟨by rw [eX]; decide, by rw [eX, eM]; rfl⟩
          · rw [hb, hd, Bool.and_true, if_pos rfl] at eF
            have eX : f_X2_get_x zb zo zt zm (3 : Int32) (nI r) (nI c) = 0 := by rw [f_X2_get_x, if_neg (show ¬ (3 : Int32) = 0 by decide), if_neg (show ¬ (3 : Int32) = 1 by decide), if_neg (show ¬ (3 : Int32) = 2 by decide), if_pos (rfl : (3 : Int32) = 3), rqr_i hr, hb, if_pos (rfl : true = true), if_pos (rfl : (0 : Nat) = 0), rqc_i hc, hd, if_pos (rfl : true = true), if_pos rfl]
            have eC : f_X2_get zb zo zt zm (3 : Int32) (nI r) (nI c) = f_X1_cellAt zm (nI r) (nI c) := by rw [f_X2_get, if_neg (show ¬ (3 : Int32) = 0 by decide), if_neg (show ¬ (3 : Int32) = 1 by decide), if_neg (show ¬ (3 : Int32) = 2 by decide), if_pos (rfl : (3 : Int32) = 3), rqr_i hr, hb, if_pos (rfl : true = true), if_pos (rfl : (0 : Nat) = 0), rqc_i hc, hd, if_pos (rfl : true = true), if_pos (rfl : (0 : Nat) = 0)]
            have eM : f_X3_get mc mw me (3 : Int32) (nI r) (nI c) = (f_X3_at me 3 (nI r) (nI c), 0) := by rw [f_X3_get, eF, if_neg (show ¬ (1 : Int32) = 0 by decide)]
            exact Or.inl ⟨eX, by rw [eM], by rw [eC, eM]; exact (c_cellAt i3 hr hc).trans (m_at m3 I_3 (by decide) hr hc (cel_iff.mpr ⟨hb, hd⟩)).symm⟩
      · have eM : f_X3_get mc mw me (3 : Int32) (nI r) p3 = (0, 1) := by rw [f_X3_get, M_findc3o (fun z => h3 z.2.2), if_pos rfl]
        have eX : f_X2_get_x zb zo zt zm (3 : Int32) (nI r) p3 = 1 := by
          rw [f_X2_get_x, if_neg (show ¬ (3 : Int32) = 0 by decide), if_neg (show ¬ (3 : Int32) = 1 by decide), if_neg (show ¬ (3 : Int32) = 2 by decide), if_pos (rfl : (3 : Int32) = 3), rqr_i hr, rqc_o h3]
          cases bt zm.2.1 r <;> rfl
        exact Or.inr ⟨by rw [eX]; decide, by rw [eX, eM]; rfl⟩
    · have eX : f_X2_get_x zb zo zt zm (3 : Int32) p2 p3 = 1 := by rw [f_X2_get_x, if_neg (show ¬ (3 : Int32) = 0 by decide), if_neg (show ¬ (3 : Int32) = 1 by decide), if_neg (show ¬ (3 : Int32) = 2 by decide), if_pos (rfl : (3 : Int32) = 3), rqr_o h2, if_neg (by decide)]
      have eM : f_X3_get mc mw me (3 : Int32) p2 p3 = (0, 1) := by rw [f_X3_get, M_findc3o (fun z => h2 z.2.1), if_pos rfl]
      exact Or.inr ⟨by rw [eX]; decide, by rw [eX, eM]; rfl⟩
  · have eX : f_X2_get_x zb zo zt zm p1 p2 p3 = 1 := by rw [f_X2_get_x, if_neg (o4 h1).1, if_neg (o4 h1).2.1, if_neg (o4 h1).2.2.1, if_neg (o4 h1).2.2.2]
    have eM : f_X3_get mc mw me p1 p2 p3 = (0, 1) := by rw [f_X3_get, M_findc3o (fun z => h1 z.1), if_pos rfl]
    exact Or.inr ⟨by rw [eX]; decide, by rw [eX, eM]; rfl⟩
theorem side_f {x : Int32} (h1 : ¬ x = 1) (h2 : ¬ x = 2) : f_X3_isIn x 1 2 = 0 := by
  rw [f_X3_isIn]
  by_cases a : x < 1
  · rw [if_pos a]
  · by_cases b : 2 < x
    · rw [if_neg a, if_pos b]
    · have e1 : (1 : Int32).toInt = 1 := by decide
      have e2 : (2 : Int32).toInt = 2 := by decide
      rw [Int32.not_lt, Int32.le_iff_toInt_le] at a b
      have h : x.toInt = 1 ∨ x.toInt = 2 := by omega
      rcases h with h | h
      · exact absurd (Int32.toInt_inj.mp (h.trans e1.symm)) h1
      · exact absurd (Int32.toInt_inj.mp (h.trans e2.symm)) h2
theorem mgd_s (b o t co ct : Bool) : mgd b o t co ct < 2 ^ 31 := by cases b <;> cases o <;> cases t <;> cases co <;> cases ct <;> decide
theorem c_xor {x y : Int32} {n : Nat} (hx : ∀ i, n ≤ i → bt x i = false) (hy : ∀ i, n ≤ i → bt y i = false) : ∀ i, n ≤ i → bt (x ^^^ y) i = false := fun i hi => by rw [b_xor, hx i hi, hy i hi]; rfl
theorem c_changes {t b : Tr} (ht : tI t) (hb : tI b) : f_X1_countChangesFrom t b = nI (((cn (t.1 ^^^ b.1) + cn (t.2.1 ^^^ b.2.1)) + sm (fun c => b1 (renC t b c)) 8) + sm (fun r => sm (fun c => b1 (chC t b r c)) 8) 24) := by
  rw [f_X1_countChangesFrom, c_bitc (fun i hi => c_xor ht.1 hb.1 i (by omega)), c_bitc (c_xor ht.2.1 hb.2.1), nI_add]
  have h1 := it_sm (g := fun (i9 : Nat) (z9 : Int32) => f_X1_countChangesFrom_sa t b i9 z9) (q := fun c => b1 (renC t b c)) (cn (t.1 ^^^ b.1) + cn (t.2.1 ^^^ b.2.1)) (n := 8) (fun i hi m => by
    show f_X1_countChangesFrom_sa t b i (nI m) = nI (m + b1 (renC t b i))
    rw [f_X1_countChangesFrom_sa, c_renamed ht hb hi, ite_iB]
    cases renC t b i
    · rfl
    · rw [if_pos rfl, nI_1]; rfl)
  rw [h1]
  exact it_sm (g := fun (i9 : Nat) (z9 : Int32) => f_X1_countChangesFrom_sb t b i9 z9) (q := fun r => sm (fun c => b1 (chC t b r c)) 8) _ (n := 24) (fun i hi m => by
    show f_X1_countChangesFrom_sb t b i (nI m) = nI (m + sm (fun c => b1 (chC t b i c)) 8)
    rw [f_X1_countChangesFrom_sb, c_count hi, nI_add])
theorem m_changes {t b : Tr} {K : Int32} {k : Nat} (h0 : tM 0 b mc mw mn me) (h : tM k t mc mw mn me) (hK : K = nI k) (hk : k < 4) (hin : ¬ f_X3_isIn K 1 2 = 0) : f_X3_changes mc mw mn me K = (nI (((cn (t.1 ^^^ b.1) + cn (t.2.1 ^^^ b.2.1)) + sm (fun c => b1 (renC t b c)) 8) + sm (fun r => sm (fun c => b1 (chC t b r c)) 8) 24), 0) := by
  have hd : f_X3_changes mc mw mn me K = (it (fun (i9 : Nat) (z9 : Int32) => f_X3_changes_sa mc mw mn me K i9 z9) ((f_X3_count ((mc (K).toNatClampNeg) ^^^ (mc (0 : Int32).toNatClampNeg))) + (f_X3_count ((mw (K).toNatClampNeg) ^^^ (mw (0 : Int32).toNatClampNeg)))) 8, 0) := by
    rw [f_X3_changes, if_neg hin]
  have e0 : (0 : Int32).toNatClampNeg = 0 := by decide
  have eK : K.toNatClampNeg = k := by rw [hK, nI_clamp (by omega)]
  rw [hd, e0, eK, ← h.1, ← h0.1, ← h.2.1, ← h0.2.1, m_count, m_count, nI_add]
  rw [sm_swap, Nat.add_assoc, ← sm_add]
  rw [it_sm (g := fun (i9 : Nat) (z9 : Int32) => f_X3_changes_sa mc mw mn me K i9 z9) (q := fun c => b1 (renC t b c) + sm (fun r => b1 (chC t b r c)) 24) _ (n := 8) (fun i hi m => by
    show f_X3_changes_sa mc mw mn me K i (nI m) = nI (m + (b1 (renC t b i) + sm (fun r => b1 (chC t b r i)) 24))
    have hi2 : ∀ m2 : Nat, it (fun (i9 : Nat) (z9 : Int32) => f_X3_changes_sb mc mw me K i i9 z9) (nI m2) 24 = nI (m2 + sm (fun r => b1 (chC t b r i)) 24) := fun m2 => it_sm (g := fun (i9 : Nat) (z9 : Int32) => f_X3_changes_sb mc mw me K i i9 z9) (q := fun r => b1 (chC t b r i)) m2 (n := 24) (fun j hj m3 => by
      show f_X3_changes_sb mc mw me K i j (nI m3) = nI (m3 + b1 (chC t b j i))
      rw [f_X3_changes_sb, m_changedCell h0 h hK hk hj hi, ite_iB]
      cases chC t b j i
      · rw [if_neg (by decide)]; exact Int32.add_zero _
      · rw [if_pos rfl, nI_1]; rfl)
    rw [f_X3_changes_sa, m_renamed h0 h hK hk hi, ite_iB]
    cases renC t b i
    · rw [if_neg (by decide), Int32.add_zero, hi2]
      exact congrArg nI (by rw [show b1 false = 0 from rfl, Nat.zero_add])
    · rw [if_pos rfl, nI_1, hi2]
      exact congrArg nI (by rw [show b1 true = 1 from rfl, Nat.add_assoc]))]
theorem s_changes (R : Rl zb zo zt zm zu zr zl zf mc mw mn me mu mr mz mf) (p1 : Int32) :
    (f_X2_changes_x p1 = 0 ∧ (f_X3_changes mc mw mn me p1).2 = 0 ∧ f_X2_changes zb zo zt p1 = (f_X3_changes mc mw mn me p1).1) ∨ (¬ f_X2_changes_x p1 = 0 ∧ (f_X3_changes mc mw mn me p1).2 = nI (f_X2_changes_x p1)) := by
  obtain ⟨⟨i0, i1, i2, i3⟩, ⟨m0, m1, m2, m3⟩, -⟩ := id R
  by_cases h1 : p1 = 1
  · subst h1
    have eM := m_changes (K := 1) m0 m1 rfl (by decide) (by decide)
    exact Or.inl ⟨by rw [f_X2_changes_x, if_pos rfl], by rw [eM], by rw [eM, f_X2_changes, if_pos rfl, c_changes i1 i0]⟩
  · by_cases h2 : p1 = 2
    · subst h2
      have eM := m_changes (K := 2) m0 m2 rfl (by decide) (by decide)
      exact Or.inl ⟨by rw [f_X2_changes_x, if_neg h1, if_pos rfl], by rw [eM], by rw [eM, f_X2_changes, if_neg h1, if_pos rfl, c_changes i2 i0]⟩
    · have eX : f_X2_changes_x p1 = 1 := by rw [f_X2_changes_x, if_neg h1, if_neg h2]
      have eM : f_X3_changes mc mw mn me p1 = (0, 1) := by rw [f_X3_changes, if_pos (side_f h1 h2)]
      exact Or.inr ⟨by rw [eX]; decide, by rw [eX, eM]; rfl⟩
theorem s_cellBy (R : Rl zb zo zt zm zu zr zl zf mc mw mn me mu mr mz mf) (p1 p2 : Int32) :
    (f_X2_cellByChanges_x zb zo zt zu p1 p2 = 0 ∧ (f_X3_cellByChanges mc mw mn me mu p1 p2).2 = 0 ∧ f_X2_cellByChanges zb zo zt zu p1 p2 = (f_X3_cellByChanges mc mw mn me mu p1 p2).1) ∨ (¬ f_X2_cellByChanges_x zb zo zt zu p1 p2 = 0 ∧ (f_X3_cellByChanges mc mw mn me mu p1 p2).2 = nI (f_X2_cellByChanges_x zb zo zt zu p1 p2)) := by
  obtain ⟨⟨i0, i1, i2, i3⟩, ⟨m0, m1, m2, m3⟩, ru, -⟩ := id R
  by_cases h1 : vp_in p1 24
  · by_cases h2 : vp_in p2 8
    · obtain ⟨r, hr, rfl⟩ := cl24 h1
      obtain ⟨c, hc, rfl⟩ := cl8 h2
      have eX : f_X2_cellByChanges_x zb zo zt zu (nI r) (nI c) = 0 := by
        rw [f_X2_cellByChanges_x, if_pos (rqKey_t h1), if_pos (rqCol_t h2)]
        repeat' split
        all_goals rfl
      have eM : f_X3_cellByChanges mc mw mn me mu (nI r) (nI c) = (if 0 < mgR zb zo zt r then (if 0 < mgC zb zo zt c then (f_X2_mergedCell zb zo zt (nI r) (nI c) (mu c) (iB (unl zb zo zt r c)), 0) else (0, 0)) else (0, 0)) := by
        rw [f_X3_cellByChanges, isIn_t (v24 hr) (by decide) rfl J_23, if_neg (show ¬ (1 : Int32) = 0 by decide), isIn_t (v8 hc) (by decide) rfl J_7, if_neg (show ¬ (1 : Int32) = 0 by decide), m_mergedRow m0 m1 m2 hr, m_mergedColumn m0 m1 m2 hc, m_mergedCell m0 m1 m2 i0 i1 i2 hr hc]
        by_cases g1 : 0 < mgR zb zo zt r
        · rw [if_neg (nI_nle g1 (mgd_s _ _ _ _ _)), if_pos g1]
          by_cases g2 : 0 < mgC zb zo zt c
          · rw [if_neg (nI_nle g2 (mgd_s _ _ _ _ _)), if_pos g2]
          · rw [show mgC zb zo zt c = 0 by omega, if_pos (by decide), if_neg (by decide)]
        · rw [show mgR zb zo zt r = 0 by omega, if_pos (by decide), if_neg (by decide)]
      have eC : f_X2_cellByChanges zb zo zt zu (nI r) (nI c) = (if 0 < mgR zb zo zt r then (if 0 < mgC zb zo zt c then f_X2_mergedCell zb zo zt (nI r) (nI c) (mu c) (iB (unl zb zo zt r c)) else 0) else 0) := by
        rw [f_X2_cellByChanges, if_pos (rqKey_t h1), if_pos (rqCol_t h2), c_rowStaysBy hr, c_columnStaysBy i0 i1 i2 hc, nI_clamp (show c < 2 ^ 31 by omega), c_byCell i0 i1 i2 hr hc, ru c hc, ite_iB, ite_iB]
        simp only [decide_eq_true_eq]
      refine Or.inl ⟨eX, ?_, ?_⟩
      · rw [eM]; repeat' split
        all_goals rfl
      · rw [eM, eC]; repeat' split
        all_goals rfl
    · have eX : f_X2_cellByChanges_x zb zo zt zu p1 p2 = 1 := by rw [f_X2_cellByChanges_x, if_pos (rqKey_t h1), rqCol_f h2, if_neg (by decide)]
      have eM : f_X3_cellByChanges mc mw mn me mu p1 p2 = (0, 1) := by rw [f_X3_cellByChanges, isIn_t (n := 23) h1 (by decide) rfl J_23, if_neg (show ¬ (1 : Int32) = 0 by decide), isIn_f (n := 7) h2 (by decide) rfl J_7, if_pos rfl]
      exact Or.inr ⟨by rw [eX]; decide, by rw [eX, eM]; rfl⟩
  · have eX : f_X2_cellByChanges_x zb zo zt zu p1 p2 = 1 := by rw [f_X2_cellByChanges_x, rqKey_f h1, if_neg (by decide)]
    have eM : f_X3_cellByChanges mc mw mn me mu p1 p2 = (0, 1) := by rw [f_X3_cellByChanges, isIn_f (n := 23) h1 (by decide) rfl J_23, if_pos rfl]
    exact Or.inr ⟨by rw [eX]; decide, by rw [eX, eM]; rfl⟩
theorem s_conflicts (R : Rl zb zo zt zm zu zr zl zf mc mw mn me mu mr mz mf) : f_X2_conflicts zl = (f_X3_conflicts mz).1 := by
  obtain ⟨-, -, -, -, rl, -⟩ := id R
  exact rl.1
theorem m_left {mz : Kr} (hm : mz.1 ≤ 440) : f_X3_left mz = nI (sm (fun i => if mz.2.2.2.2 i = 0 then 1 else 0) mz.1) := by
  rw [f_X3_left, f_X3_left_la]
  have h := it_sm (g := fun (i9 : Nat) (z9 : Int32) => f_X3_left_sa mz i9 z9) (q := fun i => if mz.2.2.2.2 i = 0 then 1 else 0) 0 (n := mz.1) (fun i hi m => by
    show f_X3_left_sa mz i (nI m) = nI (m + if mz.2.2.2.2 i = 0 then 1 else 0)
    rw [f_X3_left_sa, nI_clamp (by omega)]
    by_cases e : mz.2.2.2.2 i = 0
    · rw [if_pos e, if_pos e, nI_1]
    · rw [if_neg e, if_neg e]; exact Int32.add_zero _)
  rw [Nat.zero_add] at h
  exact h
theorem s_open (R : Rl zb zo zt zm zu zr zl zf mc mw mn me mu mr mz mf) : f_X2_open zl = (f_X3_open mz).1 := by
  obtain ⟨-, -, -, -, rl, -⟩ := id R
  have hm : mz.1 ≤ 440 := Nat.le_trans rl.2.1 (by decide)
  show zl.2.1 = f_X3_left mz
  rw [m_left hm]
  exact rl.2.2.2
theorem c_holds {zl : Lr} {n : Nat} (h : zl.1 = nI n) (hn : n ≤ 424) {p : Int32} : (vp_in p n → f_X0_holds zl p = 1) ∧ (¬ vp_in p n → f_X0_holds zl p = 0) := by
  constructor
  · intro hp
    obtain ⟨j, hj, rfl⟩ := vp_in_of hp (by omega)
    rw [f_X0_holds, if_neg (nI_pos (by omega)), h, if_neg (nI_ge hj (by omega)), if_neg (show ¬ (424 : Int32) ≤ nI j from nI_ge (b := 424) (by omega) (by decide))]
  · intro hp
    rw [f_X0_holds]
    by_cases a : p < 0
    · rw [if_pos a]
    · by_cases b : zl.1 ≤ p
      · rw [if_neg a, if_pos b]
      · rw [h] at b
        exact absurd (vi_of (nI_toInt (by omega)) a b) hp
theorem m_listed {n : Nat} (hn : n ≤ 424) {p : Int32} : (vp_in p n → f_X3_isIn p 0 (nI n - 1) = 1) ∧ (¬ vp_in p n → f_X3_isIn p 0 (nI n - 1) = 0) := by
  constructor
  · intro hp
    obtain ⟨j, hj, rfl⟩ := vp_in_of hp (by omega)
    rw [f_X3_isIn, if_neg (nI_pos (by omega)), show nI n - 1 = nI (n - 1) from pk_sub (b := 1) (by omega), if_neg (nI_nlt (by omega) (by omega))]
  · intro hp
    by_cases e : f_X3_isIn p 0 (nI n - 1) = 0
    · exact e
    · exact absurd (lt_lst (by omega) e) hp
theorem s_kindOf (R : Rl zb zo zt zm zu zr zl zf mc mw mn me mu mr mz mf) (p1 : Int32) :
    (f_X2_kindOf_x zl p1 = 0 ∧ (f_X3_kindOf mz p1).2 = 0 ∧ f_X2_kindOf zl p1 = (f_X3_kindOf mz p1).1) ∨ (¬ f_X2_kindOf_x zl p1 = 0 ∧ (f_X3_kindOf mz p1).2 = nI (f_X2_kindOf_x zl p1)) := by
  obtain ⟨-, -, -, -, rl, -⟩ := id R
  by_cases h : vp_in p1 mz.1
  · have e1 := (c_holds rl.1 rl.2.1).1 h
    have e2 := (m_listed rl.2.1).1 h
    obtain ⟨j, hj, rfl⟩ := vp_in_of h (Nat.lt_of_le_of_lt rl.2.1 (by decide))
    have hj2 : j < 2 ^ 31 := by have := rl.2.1; omega
    have eM : f_X3_kindOf mz (nI j) = (mz.2.1 j, 0) := by rw [f_X3_kindOf, f_X3_isListed, e2, if_neg (show ¬ (1 : Int32) = 0 by decide), if_neg (show ¬ (1 : Int32) = 0 by decide), nI_clamp hj2]
    have eX : f_X2_kindOf_x zl (nI j) = 0 := by rw [f_X2_kindOf_x, f_X2_requireConflict_x, e1, if_neg (show ¬ (1 : Int32) = 0 by decide), if_pos rfl]
    refine Or.inl ⟨eX, by rw [eM], ?_⟩
    rw [eM, f_X2_kindOf, f_X2_requireConflict_x, e1, if_neg (show ¬ (1 : Int32) = 0 by decide), if_pos rfl, f_X0_kindAt, e1, if_neg (show ¬ (1 : Int32) = 0 by decide), nI_clamp hj2]
    exact (rl.2.2.1 j hj).1
  · have e1 := (c_holds rl.1 rl.2.1).2 h
    have e2 := (m_listed rl.2.1).2 h
    have eM : f_X3_kindOf mz p1 = (0, 1) := by rw [f_X3_kindOf, f_X3_isListed, e2, if_pos rfl, if_pos rfl]
    have eX : f_X2_kindOf_x zl p1 = 1 := by rw [f_X2_kindOf_x, f_X2_requireConflict_x, e1, if_pos rfl, if_neg (by decide)]
    exact Or.inr ⟨by rw [eX]; decide, by rw [eX, eM]; rfl⟩
theorem s_keyOf (R : Rl zb zo zt zm zu zr zl zf mc mw mn me mu mr mz mf) (p1 : Int32) :
    (f_X2_keyOf_x zl p1 = 0 ∧ (f_X3_keyOf mz p1).2 = 0 ∧ f_X2_keyOf zl p1 = (f_X3_keyOf mz p1).1) ∨ (¬ f_X2_keyOf_x zl p1 = 0 ∧ (f_X3_keyOf mz p1).2 = nI (f_X2_keyOf_x zl p1)) := by
  obtain ⟨-, -, -, -, rl, -⟩ := id R
  by_cases h : vp_in p1 mz.1
  · have e1 := (c_holds rl.1 rl.2.1).1 h
    have e2 := (m_listed rl.2.1).1 h
    obtain ⟨j, hj, rfl⟩ := vp_in_of h (Nat.lt_of_le_of_lt rl.2.1 (by decide))
    have hj2 : j < 2 ^ 31 := by have := rl.2.1; omega
    have eM : f_X3_keyOf mz (nI j) = (mz.2.2.1 j, 0) := by rw [f_X3_keyOf, f_X3_isListed, e2, if_neg (show ¬ (1 : Int32) = 0 by decide), if_neg (show ¬ (1 : Int32) = 0 by decide), nI_clamp hj2]
    have eX : f_X2_keyOf_x zl (nI j) = 0 := by rw [f_X2_keyOf_x, f_X2_requireConflict_x, e1, if_neg (show ¬ (1 : Int32) = 0 by decide), if_pos rfl]
    refine Or.inl ⟨eX, by rw [eM], ?_⟩
    rw [eM, f_X2_keyOf, f_X2_requireConflict_x, e1, if_neg (show ¬ (1 : Int32) = 0 by decide), if_pos rfl, f_X0_keyAt, e1, if_neg (show ¬ (1 : Int32) = 0 by decide), nI_clamp hj2]
    exact (rl.2.2.1 j hj).2.1
  · have e1 := (c_holds rl.1 rl.2.1).2 h
    have e2 := (m_listed rl.2.1).2 h
    have eM : f_X3_keyOf mz p1 = (0, 1) := by rw [f_X3_keyOf, f_X3_isListed, e2, if_pos rfl, if_pos rfl]
    have eX : f_X2_keyOf_x zl p1 = 1 := by rw [f_X2_keyOf_x, f_X2_requireConflict_x, e1, if_pos rfl, if_neg (by decide)]
    exact Or.inr ⟨by rw [eX]; decide, by rw [eX, eM]; rfl⟩
theorem s_columnOf (R : Rl zb zo zt zm zu zr zl zf mc mw mn me mu mr mz mf) (p1 : Int32) :
    (f_X2_columnOf_x zl p1 = 0 ∧ (f_X3_columnOf mz p1).2 = 0 ∧ f_X2_columnOf zl p1 = (f_X3_columnOf mz p1).1) ∨ (¬ f_X2_columnOf_x zl p1 = 0 ∧ (f_X3_columnOf mz p1).2 = nI (f_X2_columnOf_x zl p1)) := by
  obtain ⟨-, -, -, -, rl, -⟩ := id R
  by_cases h : vp_in p1 mz.1
  · have e1 := (c_holds rl.1 rl.2.1).1 h
    have e2 := (m_listed rl.2.1).1 h
    obtain ⟨j, hj, rfl⟩ := vp_in_of h (Nat.lt_of_le_of_lt rl.2.1 (by decide))
    have hj2 : j < 2 ^ 31 := by have := rl.2.1; omega
    have eM : f_X3_columnOf mz (nI j) = (mz.2.2.2.1 j, 0) := by rw [f_X3_columnOf, f_X3_isListed, e2, if_neg (show ¬ (1 : Int32) = 0 by decide), if_neg (show ¬ (1 : Int32) = 0 by decide), nI_clamp hj2]
    have eX : f_X2_columnOf_x zl (nI j) = 0 := by rw [f_X2_columnOf_x, f_X2_requireConflict_x, e1, if_neg (show ¬ (1 : Int32) = 0 by decide), if_pos rfl]
    refine Or.inl ⟨eX, by rw [eM], ?_⟩
    rw [eM, f_X2_columnOf, f_X2_requireConflict_x, e1, if_neg (show ¬ (1 : Int32) = 0 by decide), if_pos rfl, f_X0_columnAt, e1, if_neg (show ¬ (1 : Int32) = 0 by decide), nI_clamp hj2]
    exact (rl.2.2.1 j hj).2.2.1
  · have e1 := (c_holds rl.1 rl.2.1).2 h
    have e2 := (m_listed rl.2.1).2 h
    have eM : f_X3_columnOf mz p1 = (0, 1) := by rw [f_X3_columnOf, f_X3_isListed, e2, if_pos rfl, if_pos rfl]
    have eX : f_X2_columnOf_x zl p1 = 1 := by rw [f_X2_columnOf_x, f_X2_requireConflict_x, e1, if_pos rfl, if_neg (by decide)]
    exact Or.inr ⟨by rw [eX]; decide, by rw [eX, eM]; rfl⟩
end Small
