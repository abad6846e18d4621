/-! ===== merged cells and names ===== -/
def unl (b o t : Tr) (r c : Nat) : Bool := cel o r c && (cel t r c && (decide (¬ o.2.2.2 (r * 8 + c) = t.2.2.2 (r * 8 + c)) && (!cel b r c || (decide (¬ o.2.2.2 (r * 8 + c) = b.2.2.2 (r * 8 + c)) && decide (¬ t.2.2.2 (r * 8 + c) = b.2.2.2 (r * 8 + c))))))
theorem p_unl (co ct cb : Bool) (x y z : Int32) : (if co = true then (if ct = true then (if x = y then (0 : Int32) else (if cb = true then (if x = z then 0 else (if y = z then 0 else 1)) else 1)) else 0) else 0) = iB (co && (ct && (decide (¬ x = y) && (!cb || (decide (¬ x = z) && decide (¬ y = z)))))) := by
  cases co
  · rfl
  cases ct
  · rfl
  by_cases e1 : x = y
  · subst e1; simp [iB]
  cases cb
  · simp [iB, e1]
  by_cases e2 : x = z
  · subst e2; simp [iB, e1]
  by_cases e3 : y = z
  · subst e3; simp [iB, e1]
  · simp [iB, e1, e2, e3]
section Cells
variable {mu : Nat → Int32} {r c : Nat} {b o t : Tr}
theorem c_unlike (h0 : tI b) (h1 : tI o) (h2 : tI t) (hr : r < 24) (hc : c < 8) : f_X2_cellsAreUnlike b o t (nI r) (nI c) = iB (unl b o t r c) := by
  rw [f_X2_cellsAreUnlike]
  simp only [c_hasCell hr hc, c_cellAt h0 hr hc, c_cellAt h1 hr hc, c_cellAt h2 hr hc, ite_iB]
  exact p_unl _ _ _ _ _ _
theorem p_max (x y : Int32) : (if y ≤ x then x else y) = (if x < y then y else x) := by
  by_cases h : x < y
  · rw [if_pos h, if_neg (Int32.not_le.mpr h)]
  · rw [if_neg h, if_pos (Int32.not_lt.mp h)]
/-! the class's other way to a merged cell -/
theorem q_sub1 (z x : Int32) : z + (x - z) = x := by rw [Int32.add_comm, Int32.sub_add_cancel]
theorem q_sub2 (z x y : Int32) : x + (y - z) = (x + y) - z := by rw [Int32.sub_eq_add_neg, ← Int32.add_assoc, ← Int32.sub_eq_add_neg]
theorem p_by (co ct cb : Bool) (x y z u : Int32) (h1 : co = false → x = 0) (h2 : ct = false → y = 0) (h3 : cb = false → z = 0) :
    (if co = true then (if u = 3 then (if co = true then (if ct = true then (z + (x - z)) + (y - z) else z + (x - z)) else (if ct = true then z + (y - z) else z))
        else (if (co && (!cb || decide (¬ x = z))) = true then (if (ct && (!cb || decide (¬ y = z))) = true then (if u = 2 then (if x < y then y else x) else x) else x) else (if (ct && (!cb || decide (¬ y = z))) = true then y else z)))
      else (if ct = true then (if u = 3 then (if co = true then (if ct = true then (z + (x - z)) + (y - z) else z + (x - z)) else (if ct = true then z + (y - z) else z))
        else (if (co && (!cb || decide (¬ x = z))) = true then (if (ct && (!cb || decide (¬ y = z))) = true then (if u = 2 then (if x < y then y else x) else x) else x) else (if (ct && (!cb || decide (¬ y = z))) = true then y else z))) else 0))
    = (if co = true then (if ct = true then (if u = 3 then (x + y) - z else (if (co && (ct && (decide (¬ x = y) && (!cb || (decide (¬ x = z) && decide (¬ y = z)))))) = true then (if u = 2 then (if x < y then y else x) else x) else (if cb = true then (if x = z then y else x) else x))) else x) else y) := by
  cases co
  · cases ct
    · rw [h2 rfl]; rfl
    · simp only [q_sub1]
      by_cases hu : u = 3
      · simp [hu]
      · cases cb
        · simp [hu]
        · by_cases e : y = z
          · subst e; simp [hu]
          · simp [hu, e]
  · cases ct
    · simp only [q_sub1]
      by_cases hu : u = 3
      · simp [hu]
      · cases cb
        · simp [hu]
        · by_cases e : x = z
          · subst e; simp [hu]
          · simp [hu, e]
    · simp only [q_sub1, q_sub2]
      by_cases hu : u = 3
      · simp [hu]
      · have hlt : ¬ x < x := Int32.lt_irrefl
        by_cases e1 : x = y
        · subst e1
          cases cb
          · simp [hu]
          · by_cases e2 : x = z
            · subst e2; simp [hu]
            · simp [hu, e2]
        · cases cb
          · simp [hu, e1]
          · by_cases e2 : x = z
            · subst e2; simp [hu, e1, Ne.symm e1]
            · by_cases e3 : y = z
              · subst e3; simp [hu, e1]
              · simp [hu, e1, e2, e3]
theorem c_added (hr : r < 24) (hc : c < 8) : f_X1_addedOrChangedCellOf o b (nI r) (nI c) = iB (cel o r c && (!cel b r c || decide (¬ o.2.2.2 (r * 8 + c) = b.2.2.2 (r * 8 + c)))) := by
  rw [f_X1_addedOrChangedCellOf, c_hasCell hr hc, c_hasCell hr hc, c_changedCell hr hc, ite_iB, ite_iB, ite_iB, chC]
  cases cel o r c <;> cases cel b r c <;> cases decide (¬ o.2.2.2 (r * 8 + c) = b.2.2.2 (r * 8 + c)) <;> rfl
theorem c_byCell (i0 : tI b) (i1 : tI o) (i2 : tI t) (hr : r < 24) (hc : c < 8) (u : Int32) : (if f_X1_hasCell o (nI r) (nI c) = 0 then (if f_X1_hasCell t (nI r) (nI c) = 0 then 0 else (if u = 3 then f_X2_sumByChanges b o t (nI r) (nI c) else f_X2_choiceByChanges b o t (nI r) (nI c) u)) else (if u = 3 then f_X2_sumByChanges b o t (nI r) (nI c) else f_X2_choiceByChanges b o t (nI r) (nI c) u)) = f_X2_mergedCell b o t (nI r) (nI c) u (iB (unl b o t r c)) := by
  rw [f_X2_sumByChanges, f_X2_choiceByChanges, f_X2_mergedCell, unl]
  simp only [c_hasCell hr hc, c_cellAt i0 hr hc, c_cellAt i1 hr hc, c_cellAt i2 hr hc, c_added hr hc, ite_iB]
  exact p_by _ _ _ _ _ _ _ (i1.2.2.2 r c hr hc) (i2.2.2.2 r c hr hc) (i0.2.2.2 r c hr hc)
/-! names -/
def nmg (b o t : Tr) (c : Nat) : Nat := if bt o.1 c = true then (if bt t.1 c = true then (if o.2.2.1 c = t.2.2.1 c then 1 else (if renC o b c = renC t b c then 0 else (if renC o b c = true then 1 else 2))) else 1) else 2
theorem ix_k {K : Int32} {k : Nat} (hK : K = nI k) (hk : k < 1000) {c : Nat} (hc : c < 8) : (K + nI c).toNatClampNeg = k + c := by rw [hK, nI_add, nI_clamp (by omega)]
theorem c_mergedName (i0 : tI b) (i1 : tI o) (i2 : tI t) (hc : c < 8) : f_X2_mergedName b o t (nI c) = if nmg b o t c = 2 then t.2.2.1 c else o.2.2.1 c := by
  rw [f_X2_mergedName, c_hasColumn hc, c_renamed i1 i0 hc, c_renamed i2 i0 hc, c_nameAt i1 hc, c_nameAt i2 hc, nmg]
  simp only [ite_iB]
  cases e1 : bt o.1 c
  · simp
  cases e2 : bt t.1 c
  · have hn : renC t b c = false := by rw [renC, e2]; rfl
    simp [hn]
  by_cases e : o.2.2.1 c = t.2.2.1 c
  · simp [e]
  · cases renC o b c <;> cases renC t b c <;> simp [e]
theorem c_namesOdd (i0 : tI b) (i1 : tI o) (i2 : tI t) (hc : c < 8) (e1 : bt o.1 c = true) (e2 : bt t.1 c = true) : f_X2_namesAreAtOdds b o t (nI c) = iB (decide (nmg b o t c = 0)) := by
  rw [f_X2_namesAreAtOdds, c_renamed i1 i0 hc, c_renamed i2 i0 hc, c_nameAt i1 hc, c_nameAt i2 hc, nmg, e1, e2]
  by_cases e : o.2.2.1 c = t.2.2.1 c
  · simp [e, iB]
  · cases renC o b c <;> cases renC t b c <;> simp [e, iB]
theorem nmg_0 (h : nmg b o t c = 0) : bt o.1 c = true ∧ bt t.1 c = true := by
  rw [nmg] at h
  cases e1 : bt o.1 c
  · rw [e1] at h; simp at h
  cases e2 : bt t.1 c
  · rw [e1, e2] at h; simp at h
  exact ⟨rfl, rfl⟩
end Cells

