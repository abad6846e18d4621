/-! ===== the class and the reference side by side ===== -/
section Ar
variable {x lo hi : Int32} {n : Nat}
theorem isCol_t (h : vp_in x 8) : f_X2_isColumnNumber x = 1 := by
  obtain ⟨c, hc, rfl⟩ := cl8 h
  rw [f_X2_isColumnNumber, if_neg (nI_pos (by omega)), if_neg (show ¬ (8 : Int32) ≤ nI c from nI_ge hc (by decide))]
theorem isCol_f (h : ¬ vp_in x 8) : f_X2_isColumnNumber x = 0 := by
  by_cases e : f_X2_isColumnNumber x = 0
  · exact e
  · exact absurd (in_colnum e) h
theorem isKey_t (h : vp_in x 24) : f_X2_isKey x = 1 := by
  obtain ⟨c, hc, rfl⟩ := cl24 h
  rw [f_X2_isKey, if_neg (nI_pos (by omega)), if_neg (show ¬ (24 : Int32) ≤ nI c from nI_ge hc (by decide))]
theorem isKey_f (h : ¬ vp_in x 24) : f_X2_isKey x = 0 := by
  rw [f_X2_isKey]
  by_cases h1 : x < 0
  · rw [if_pos h1]
  · by_cases h2 : 24 ≤ x
    · rw [if_neg h1, if_pos h2]
    · exact absurd (vi_of (by decide) h1 h2) h
theorem rqCol_t (h : vp_in x 8) : f_X2_requireColumnNumber_x x = 0 := by rw [f_X2_requireColumnNumber_x, isCol_t h, if_neg (by decide)]
theorem rqCol_f (h : ¬ vp_in x 8) : f_X2_requireColumnNumber_x x = 1 := by rw [f_X2_requireColumnNumber_x, isCol_f h, if_pos rfl]
theorem rqKey_t (h : vp_in x 24) : f_X2_requireKey_x x = 0 := by rw [f_X2_requireKey_x, isKey_t h, if_neg (by decide)]
theorem rqKey_f (h : ¬ vp_in x 24) : f_X2_requireKey_x x = 1 := by rw [f_X2_requireKey_x, isKey_f h, if_pos rfl]
theorem rqName_t (h : vp_in x 100) : f_X2_requireName_x x = 0 := by
  obtain ⟨c, hc, rfl⟩ := vp_in_of h (by decide)
  rw [f_X2_requireName_x, if_neg (nI_pos (by omega)), if_pos (show nI c ≤ (99 : Int32) from nI_le (b := 99) (by omega) (by decide))]
theorem rqName_f (h : ¬ vp_in x 100) : f_X2_requireName_x x = 2 := by
  rw [f_X2_requireName_x]
  by_cases h1 : x < 0
  · rw [if_pos h1]
  · by_cases h2 : x ≤ 99
    · refine absurd (vi_of (N := 100) (n := 100) (by decide) h1 (fun z => ?_)) h
      have a := Int32.le_iff_toInt_le.mp h2
      have b := Int32.le_iff_toInt_le.mp z
      have e1 : (99 : Int32).toInt = 99 := by decide
      have e2 : (100 : Int32).toInt = 100 := by decide
      omega
    · rw [if_neg h1, if_neg h2]
theorem ar3 : (x = 0 ∨ x = 1 ∨ x = 2) ∨ ¬ vp_in x 3 := by
  by_cases h : vp_in x 3
  · obtain ⟨j, hj, rfl⟩ := vp_in_of h (by decide)
    rcases (show j = 0 ∨ j = 1 ∨ j = 2 by omega) with rfl | rfl | rfl
    · exact Or.inl (Or.inl rfl)
    · exact Or.inl (Or.inr (Or.inl rfl))
    · exact Or.inl (Or.inr (Or.inr rfl))
  · exact Or.inr h
theorem ar4 : (x = 0 ∨ x = 1 ∨ x = 2 ∨ x = 3) ∨ ¬ vp_in x 4 := by
  by_cases h : vp_in x 4
  · obtain ⟨j, hj, rfl⟩ := vp_in_of h (by decide)
    rcases (show j = 0 ∨ j = 1 ∨ j = 2 ∨ j = 3 by omega) with rfl | rfl | rfl | rfl
    · exact Or.inl (Or.inl rfl)
    · exact Or.inl (Or.inr (Or.inl rfl))
    · exact Or.inl (Or.inr (Or.inr (Or.inl rfl)))
    · exact Or.inl (Or.inr (Or.inr (Or.inr rfl)))
  · exact Or.inr h
theorem o3 (h : ¬ vp_in x 3) : ¬ x = 0 ∧ ¬ x = 1 ∧ ¬ x = 2 := ⟨fun z => h (by rw [z]; exact vp_in_nI (n := 0) (by decide) (by decide)), fun z => h (by rw [z]; exact vp_in_nI (n := 1) (by decide) (by decide)), fun z => h (by rw [z]; exact vp_in_nI (n := 2) (by decide) (by decide))⟩
theorem o4 (h : ¬ vp_in x 4) : ¬ x = 0 ∧ ¬ x = 1 ∧ ¬ x = 2 ∧ ¬ x = 3 := ⟨fun z => h (by rw [z]; exact vp_in_nI (n := 0) (by decide) (by decide)), fun z => h (by rw [z]; exact vp_in_nI (n := 1) (by decide) (by decide)), fun z => h (by rw [z]; exact vp_in_nI (n := 2) (by decide) (by decide)), fun z => h (by rw [z]; exact vp_in_nI (n := 3) (by decide) (by decide))⟩
end Ar
section Rel
variable {zb zo zt zm : Tr} {zu zr : Nat → Int32} {zl : Lr} {zf : Int32} {mu mr : Nat → Int32} {mf : Int32} {t' : Tr}
end Rel

