/-! ===== the class and the reference side by side ===== -/
def lR (zl : Lr) (mz : Kr) : Prop := zl.1 = nI mz.1 ∧ mz.1 ≤ 424 ∧ (∀ i, i < mz.1 → zl.2.2.1 i = mz.2.1 i ∧ zl.2.2.2.1 i = mz.2.2.1 i ∧ zl.2.2.2.2.1 i = mz.2.2.2.1 i ∧ zl.2.2.2.2.2 i = mz.2.2.2.2 i ∧ (mz.2.2.2.2 i = 0 ∨ mz.2.2.2.2 i = 1)) ∧ zl.2.1 = nI (sm (fun i => if mz.2.2.2.2 i = 0 then 1 else 0) mz.1)
def eR (k y q : Int32) : Prop := (k = 1 → vp_in y 24 ∧ vp_in q 8) ∧ (k = 2 → vp_in y 24) ∧ (k = 3 → vp_in q 8) ∧ (k = 4 → vp_in q 8)
def eF (o t : Tr) (k y q : Int32) : Prop := (k = 1 → ∀ r c, r < 24 → c < 8 → y = nI r → q = nI c → cel o r c = true ∧ cel t r c = true) ∧ (k = 4 → ∀ c, c < 8 → q = nI c → bt o.1 c = true ∧ bt t.1 c = true)
def Rl (zb zo zt zm : Tr) (zu zr : Nat → Int32) (zl : Lr) (zf : Int32) (mc mw mn me mu mr : Nat → Int32) (mz : Kr) (mf : Int32) : Prop :=
  (tI zb ∧ tI zo ∧ tI zt ∧ tI zm) ∧ (tM 0 zb mc mw mn me ∧ tM 1 zo mc mw mn me ∧ tM 2 zt mc mw mn me ∧ tM 3 zm mc mw mn me) ∧ (∀ c, c < 8 → zu c = mu c) ∧ (∀ c, c < 8 → zr c = mr c ∧ (mr c = 0 ∨ mr c = 1)) ∧
  lR zl mz ∧ (∀ i, i < mz.1 → eR (mz.2.1 i) (mz.2.2.1 i) (mz.2.2.2.1 i)) ∧ (zf = 1 → ∀ i, i < mz.1 → eF zo zt (mz.2.1 i) (mz.2.2.1 i) (mz.2.2.2.1 i)) ∧ zf = mf ∧ (zf = 0 ∨ zf = 1)
section Ar
variable {x lo hi : Int32} {n : Nat}
theorem isIn_t (h : vp_in x (n + 1)) (hn : n < 1000000) (hlo : lo = 0) (hh : hi = nI n) : f_X3_isIn x lo hi = 1 := by
  obtain ⟨j, hj, rfl⟩ := vp_in_of h (by omega)
  subst hlo; subst hh
  rw [f_X3_isIn, if_neg (nI_pos (by omega)), if_neg (nI_nlt (by omega) (by omega))]
theorem isIn_f (h : ¬ vp_in x (n + 1)) (hn : n < 1000000) (hlo : lo = 0) (hh : hi = nI n) : f_X3_isIn x lo hi = 0 := by
  by_cases e : f_X3_isIn x lo hi = 0
  · exact e
  · exact absurd (in_isIn hh (by subst hlo; exact ⟨Int32.le_refl _, hn⟩) e) h
theorem isCol_t (h : vp_in x 8) : f_X2_isColumnNumber x = 1 := by
  obtain ⟨c, hc, rfl⟩ := cl8 h
  rw [f_X2_isColumnNumber, if_neg (nI_pos (by omega)), if_neg (show ¬ (8 : Int32) ≤ nI c from nI_ge hc (by decide))]
theorem isCol_f (h : ¬ vp_in x 8) : f_X2_isColumnNumber x = 0 := by
  by_cases e : f_X2_isColumnNumber x = 0
  · exact e
  · exact absurd (in_colnum e) h
theorem isKey_t (h : vp_in x 24) : f_X2_isKey x = 1 := by
  obtain ⟨c, hc, rfl⟩ := cl24 h
  rw [f_X2_isKey, if_neg (nI_pos (by omega)), if_neg (show ¬ (24 : Int32) ≤ nI c from nI_ge hc (by decide))]
theorem isKey_f (h : ¬ vp_in x 24) : f_X2_isKey x = 0 := by
  rw [f_X2_isKey]
  by_cases h1 : x < 0
  · rw [if_pos h1]
  · by_cases h2 : 24 ≤ x
    · rw [if_neg h1, if_pos h2]
    · exact absurd (vi_of (by decide) h1 h2) h
theorem rqCol_t (h : vp_in x 8) : f_X2_requireColumnNumber_x x = 0 := by rw [f_X2_requireColumnNumber_x, isCol_t h, if_neg (by decide)]
theorem rqCol_f (h : ¬ vp_in x 8) : f_X2_requireColumnNumber_x x = 1 := by rw [f_X2_requireColumnNumber_x, isCol_f h, if_pos rfl]
theorem rqKey_t (h : vp_in x 24) : f_X2_requireKey_x x = 0 := by rw [f_X2_requireKey_x, isKey_t h, if_neg (by decide)]
theorem rqKey_f (h : ¬ vp_in x 24) : f_X2_requireKey_x x = 1 := by rw [f_X2_requireKey_x, isKey_f h, if_pos rfl]
theorem rqName_t (h : vp_in x 100) : f_X2_requireName_x x = 0 := by
  obtain ⟨c, hc, rfl⟩ := vp_in_of h (by decide)
  rw [f_X2_requireName_x, if_neg (nI_pos (by omega)), if_pos (show nI c ≤ (99 : Int32) from nI_le (b := 99) (by omega) (by decide))]
theorem rqName_f (h : ¬ vp_in x 100) : f_X2_requireName_x x = 2 := by
  rw [f_X2_requireName_x]
  by_cases h1 : x < 0
  · rw [if_pos h1]
  · by_cases h2 : x ≤ 99
    · refine absurd (vi_of (N := 100) (n := 100) (by decide) h1 (fun z => ?_)) h
      have a := Int32.le_iff_toInt_le.mp h2
      have b := Int32.le_iff_toInt_le.mp z
      have e1 : (99 : Int32).toInt = 99 := by decide
      have e2 : (100 : Int32).toInt = 100 := by decide
      omega
    · rw [if_neg h1, if_neg h2]
theorem ar3 : (x = 0 ∨ x = 1 ∨ x = 2) ∨ ¬ vp_in x 3 := by
  by_cases h : vp_in x 3
  · obtain ⟨j, hj, rfl⟩ := vp_in_of h (by decide)
    rcases (show j = 0 ∨ j = 1 ∨ j = 2 by omega) with rfl | rfl | rfl
    · exact Or.inl (Or.inl rfl)
    · exact Or.inl (Or.inr (Or.inl rfl))
    · exact Or.inl (Or.inr (Or.inr rfl))
  · exact Or.inr h
theorem ar4 : (x = 0 ∨ x = 1 ∨ x = 2 ∨ x = 3) ∨ ¬ vp_in x 4 := by
  by_cases h : vp_in x 4
  · obtain ⟨j, hj, rfl⟩ := vp_in_of h (by decide)
    rcases (show j = 0 ∨ j = 1 ∨ j = 2 ∨ j = 3 by omega) with rfl | rfl | rfl | rfl
    · exact Or.inl (Or.inl rfl)
    · exact Or.inl (Or.inr (Or.inl rfl))
    · exact Or.inl (Or.inr (Or.inr (Or.inl rfl)))
    · exact Or.inl (Or.inr (Or.inr (Or.inr rfl)))
  · exact Or.inr h
theorem o3 (h : ¬ vp_in x 3) : ¬ x = 0 ∧ ¬ x = 1 ∧ ¬ x = 2 := ⟨fun z => h (by rw [z]; exact vp_in_nI (n := 0) (by decide) (by decide)), fun z => h (by rw [z]; exact vp_in_nI (n := 1) (by decide) (by decide)), fun z => h (by rw [z]; exact vp_in_nI (n := 2) (by decide) (by decide))⟩
theorem o4 (h : ¬ vp_in x 4) : ¬ x = 0 ∧ ¬ x = 1 ∧ ¬ x = 2 ∧ ¬ x = 3 := ⟨fun z => h (by rw [z]; exact vp_in_nI (n := 0) (by decide) (by decide)), fun z => h (by rw [z]; exact vp_in_nI (n := 1) (by decide) (by decide)), fun z => h (by rw [z]; exact vp_in_nI (n := 2) (by decide) (by decide)), fun z => h (by rw [z]; exact vp_in_nI (n := 3) (by decide) (by decide))⟩
end Ar
section Rel
variable {zb zo zt zm : Tr} {zu zr : Nat → Int32} {zl : Lr} {zf : Int32} {mc mw mn me mu mr : Nat → Int32} {mz : Kr} {mf : Int32} {mc' mw' mn' me' : Nat → Int32} {t' : Tr}
theorem Rl_0 (R : Rl zb zo zt zm zu zr zl zf mc mw mn me mu mr mz mf) (i : tI t') (m : tM 0 t' mc' mw' mn' me') (fr : fr4 0 mc mw mn me mc' mw' mn' me') : Rl t' zo zt zm zu zr zl 0 mc' mw' mn' me' mu mr mz 0 := by
  obtain ⟨⟨i0, i1, i2, i3⟩, ⟨m0, m1, m2, m3⟩, ru, rr, rl, re, -, -, -⟩ := R
  exact ⟨⟨i, i1, i2, i3⟩, ⟨m, fr 1 _ (by decide) (by decide) m1, fr 2 _ (by decide) (by decide) m2, fr 3 _ (by decide) (by decide) m3⟩, ru, rr, rl, re, fun z => absurd z (by decide), rfl, Or.inl rfl⟩
theorem Rl_1 (R : Rl zb zo zt zm zu zr zl zf mc mw mn me mu mr mz mf) (i : tI t') (m : tM 1 t' mc' mw' mn' me') (fr : fr4 1 mc mw mn me mc' mw' mn' me') : Rl zb t' zt zm zu zr zl 0 mc' mw' mn' me' mu mr mz 0 := by
  obtain ⟨⟨i0, i1, i2, i3⟩, ⟨m0, m1, m2, m3⟩, ru, rr, rl, re, -, -, -⟩ := R
  exact ⟨⟨i0, i, i2, i3⟩, ⟨fr 0 _ (by decide) (by decide) m0, m, fr 2 _ (by decide) (by decide) m2, fr 3 _ (by decide) (by decide) m3⟩, ru, rr, rl, re, fun z => absurd z (by decide), rfl, Or.inl rfl⟩
theorem Rl_2 (R : Rl zb zo zt zm zu zr zl zf mc mw mn me mu mr mz mf) (i : tI t') (m : tM 2 t' mc' mw' mn' me') (fr : fr4 2 mc mw mn me mc' mw' mn' me') : Rl zb zo t' zm zu zr zl 0 mc' mw' mn' me' mu mr mz 0 := by
  obtain ⟨⟨i0, i1, i2, i3⟩, ⟨m0, m1, m2, m3⟩, ru, rr, rl, re, -, -, -⟩ := R
  exact ⟨⟨i0, i1, i, i3⟩, ⟨fr 0 _ (by decide) (by decide) m0, fr 1 _ (by decide) (by decide) m1, m, fr 3 _ (by decide) (by decide) m3⟩, ru, rr, rl, re, fun z => absurd z (by decide), rfl, Or.inl rfl⟩
end Rel
