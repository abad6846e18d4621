/-! ===== a table's view; the class's reads over it ===== -/
def cel (t : Tr) (r c : Nat) : Bool := bt t.2.1 r && bt t.1 c
/-- what the class keeps of a table: no bit beyond, 0 where nothing is -/
def tI (t : Tr) : Prop := (∀ i, 8 ≤ i → bt t.1 i = false) ∧ (∀ i, 24 ≤ i → bt t.2.1 i = false) ∧ (∀ c, c < 8 → bt t.1 c = false → t.2.2.1 c = 0) ∧ (∀ r c, r < 24 → c < 8 → cel t r c = false → t.2.2.2 (r * 8 + c) = 0)
theorem c_hasColumn {t : Tr} {c : Nat} (hc : c < 8) : f_X1_hasColumn t (nI c) = iB (bt t.1 c) := by
  rw [f_X1_hasColumn, if_neg (nI_pos (by omega)), if_neg (show ¬ (8 : Int32) ≤ nI c from nI_ge hc (by decide))]
  cases h : bt t.1 c
  · rw [if_pos ((t_and0 (by omega)).mpr h)]; rfl
  · rw [if_neg (fun z => by rw [(t_and0 (by omega)).mp z] at h; cases h)]; rfl
theorem c_hasColumn_o {t : Tr} {x : Int32} (h : ¬ vp_in x 8) : f_X1_hasColumn t x = 0 := by
  by_cases e : f_X1_hasColumn t x = 0
  · exact e
  · exact absurd (in_col e) h
theorem c_hasRow {t : Tr} {r : Nat} (hr : r < 24) : f_X1_hasRow t (nI r) = iB (bt t.2.1 r) := by
  rw [f_X1_hasRow, if_neg (nI_pos (by omega)), if_neg (show ¬ (24 : Int32) ≤ nI r from nI_ge hr (by decide))]
  cases h : bt t.2.1 r
  · rw [if_pos ((t_and0 (by omega)).mpr h)]; rfl
  · rw [if_neg (fun z => by rw [(t_and0 (by omega)).mp z] at h; cases h)]; rfl
theorem c_hasRow_o {t : Tr} {x : Int32} (h : ¬ vp_in x 24) : f_X1_hasRow t x = 0 := by
  by_cases e : f_X1_hasRow t x = 0
  · exact e
  · exact absurd (in_row e) h
theorem c_hasCell {t : Tr} {r c : Nat} (hr : r < 24) (hc : c < 8) : f_X1_hasCell t (nI r) (nI c) = iB (cel t r c) := by
  rw [f_X1_hasCell, c_hasRow hr, c_hasColumn hc, cel, ite_iB, ite_iB]
  cases bt t.2.1 r <;> cases bt t.1 c <;> rfl
theorem c_nameAt {t : Tr} {c : Nat} (h : tI t) (hc : c < 8) : f_X1_nameAt t (nI c) = t.2.2.1 c := by
  rw [f_X1_nameAt, c_hasColumn hc, ite_iB, nI_clamp (by omega)]
  cases e : bt t.1 c
  · rw [if_neg (by decide)]; exact (h.2.2.1 c hc e).symm
  · rw [if_pos rfl]
theorem c_cellAt {t : Tr} {r c : Nat} (h : tI t) (hr : r < 24) (hc : c < 8) : f_X1_cellAt t (nI r) (nI c) = t.2.2.2 (r * 8 + c) := by
  rw [f_X1_cellAt, c_hasCell hr hc, ite_iB, ix_1 hr hc]
  cases e : cel t r c
  · rw [if_neg (by decide)]; exact (h.2.2.2 r c hr hc e).symm
  · rw [if_pos rfl]
def chC (t b : Tr) (r c : Nat) : Bool := cel t r c && (cel b r c && decide (¬ t.2.2.2 (r * 8 + c) = b.2.2.2 (r * 8 + c)))
def renC (t b : Tr) (c : Nat) : Bool := bt t.1 c && (bt b.1 c && decide (¬ t.2.2.1 c = b.2.2.1 c))
def chCo (t b : Tr) (c : Nat) : Bool := renC t b c || anyN (fun r => chC t b r c) 24
def chRo (t b : Tr) (r : Nat) : Bool := anyN (fun c => chC t b r c) 8
def b1 (b : Bool) : Nat := if b = true then 1 else 0
theorem c_changedCell {t b : Tr} {r c : Nat} (hr : r < 24) (hc : c < 8) : f_X1_changedCellOf t b (nI r) (nI c) = iB (chC t b r c) := by
  rw [f_X1_changedCellOf, c_hasCell hr hc, c_hasCell hr hc, ix_1 hr hc, ite_iB, ite_iB, chC]
  cases cel t r c
  · rfl
  · cases cel b r c
    · rfl
    · by_cases e : t.2.2.2 (r * 8 + c) = b.2.2.2 (r * 8 + c)
      · rw [if_pos rfl, if_pos rfl, if_pos e, decide_eq_false (fun z => z e)]; rfl
      · rw [if_pos rfl, if_pos rfl, if_neg e, decide_eq_true e]; rfl
theorem c_renamed {t b : Tr} {c : Nat} (ht : tI t) (hb : tI b) (hc : c < 8) : f_X1_renamedColumnOf t b (nI c) = iB (renC t b c) := by
  rw [f_X1_renamedColumnOf, c_hasColumn hc, c_hasColumn hc, c_nameAt ht hc, c_nameAt hb hc, ite_iB, ite_iB, renC]
  cases bt t.1 c
  · rfl
  · cases bt b.1 c
    · rfl
    · by_cases e : t.2.2.1 c = b.2.2.1 c
      · rw [if_pos rfl, if_pos rfl, if_pos e, decide_eq_false (fun z => z e)]; rfl
      · rw [if_pos rfl, if_pos rfl, if_neg e, decide_eq_true e]; rfl
theorem iB_n {b : Bool} : decide (¬ iB b = 0) = b := by cases b <;> decide
theorem c_changedColumn {t b : Tr} {c : Nat} (ht : tI t) (hb : tI b) (hc : c < 8) : f_X1_changedColumnOf t b (nI c) = iB (chCo t b c) := by
  rw [f_X1_changedColumnOf, c_renamed ht hb hc, ite_iB, chCo]
  rw [anyN_cong (p := fun i => decide (¬ f_X1_changedCellOf t b (nI i) (nI c) = 0)) (q := fun r => chC t b r c) (fun i hi => by
    show decide (¬ f_X1_changedCellOf t b (nI i) (nI c) = 0) = chC t b i c
    rw [c_changedCell hi hc, iB_n])]
  cases renC t b c <;> cases anyN (fun r => chC t b r c) 24 <;> rfl
theorem c_count {t b : Tr} {r : Nat} (hr : r < 24) : f_X1_countCellsChanged t b (nI r) = nI (sm (fun c => b1 (chC t b r c)) 8) := by
  rw [f_X1_countCellsChanged]
  have h := it_sm (g := fun (i9 : Nat) (z9 : Int32) => f_X1_countCellsChanged_sa t b (nI r) i9 z9) (q := fun c => b1 (chC t b r c)) 0 (n := 8) (fun i hi m => by
    show f_X1_countCellsChanged_sa t b (nI r) i (nI m) = nI (m + b1 (chC t b r i))
    rw [f_X1_countCellsChanged_sa, c_changedCell hr hi, ite_iB]
    cases chC t b r i
    · rfl
    · rw [if_pos rfl, nI_1]; rfl)
  rw [Nat.zero_add] at h
  exact h
theorem b1_pos {b : Bool} : 0 < b1 b ↔ b = true := by cases b <;> decide
theorem b1_le {b : Bool} : b1 b ≤ 1 := by cases b <;> decide
theorem c_count_pos {t b : Tr} {r : Nat} (hr : r < 24) : 0 < f_X1_countCellsChanged t b (nI r) ↔ chRo t b r = true := by
  have h1 : sm (fun c => b1 (chC t b r c)) 8 ≤ 8 * 1 := sm_le (fun i _ => b1_le)
  rw [c_count hr, chRo, ← sm_pos (f := fun c => b1 (chC t b r c)) (p := fun c => chC t b r c) (n := 8) (fun i _ => b1_pos)]
  exact nI_ltI (a := 0) (by decide) (by omega)
theorem c_count_le {t b : Tr} {r : Nat} (hr : r < 24) : f_X1_countCellsChanged t b (nI r) ≤ 0 ↔ chRo t b r = false := by
  rw [← Int32.not_lt, c_count_pos hr]
  cases chRo t b r <;> decide
/-! the reference's reads -/
section MRead
variable {k r c : Nat} {t b : Tr}
end MRead
/-! whether a column or a row is merged: 0 no, 1 it is, 2 by a conflict -/
def mgd (b o t co ct : Bool) : Nat := if (o && t) = true then 1 else if b = false then (if (o || t) = true then 1 else 0) else if ((o && co) || (t && ct)) = true then 2 else 0
theorem chCo_has {t b : Tr} {c : Nat} (h : chCo t b c = true) : bt t.1 c = true := by
  rw [chCo, Bool.or_eq_true] at h
  rcases h with h | h
  · rw [renC, Bool.and_eq_true] at h; exact h.1
  · obtain ⟨r, -, h⟩ := anyN_iff.mp h
    have h : chC t b r c = true := h
    rw [chC, Bool.and_eq_true, cel, Bool.and_eq_true] at h; exact h.1.2
theorem chRo_has {t b : Tr} {r : Nat} (h : chRo t b r = true) : bt t.2.1 r = true := by
  rw [chRo] at h
  obtain ⟨c, -, h⟩ := anyN_iff.mp h
  have h : chC t b r c = true := h
  rw [chC, Bool.and_eq_true, cel, Bool.and_eq_true] at h; exact h.1.1
section Mgd
variable {r c : Nat} {b o t : Tr}
abbrev mgC (b o t : Tr) (c : Nat) : Nat := mgd (bt b.1 c) (bt o.1 c) (bt t.1 c) (chCo o b c) (chCo t b c)
abbrev mgR (b o t : Tr) (r : Nat) : Nat := mgd (bt b.2.1 r) (bt o.2.1 r) (bt t.2.1 r) (chRo o b r) (chRo t b r)
theorem c_columnStays (h0 : tI b) (h1 : tI o) (h2 : tI t) (hc : c < 8) : f_X2_columnStays b o t (nI c) = iB (decide (0 < mgC b o t c)) := by
  rw [f_X2_columnStays, c_hasColumn hc, c_hasColumn hc, c_hasColumn hc, c_changedColumn h1 h0 hc, c_changedColumn h2 h0 hc]
  have e1 : chCo o b c = true → bt o.1 c = true := chCo_has
  have e2 : chCo t b c = true → bt t.1 c = true := chCo_has
  show _ = iB (decide (0 < mgd (bt b.1 c) (bt o.1 c) (bt t.1 c) (chCo o b c) (chCo t b c)))
  generalize bt b.1 c = x0 at e1 e2 ⊢
  generalize bt o.1 c = x1 at e1 e2 ⊢
  generalize bt t.1 c = x2 at e1 e2 ⊢
  generalize chCo o b c = x3 at e1 e2 ⊢
  generalize chCo t b c = x4 at e1 e2 ⊢
  revert e1 e2
  cases x0 <;> cases x1 <;> cases x2 <;> cases x3 <;> cases x4 <;> decide +kernel
theorem c_rowStays (hr : r < 24) : f_X2_rowStays b o t (nI r) = iB (decide (0 < mgR b o t r)) := by
  rw [f_X2_rowStays, c_hasRow hr, c_hasRow hr, c_hasRow hr]
  simp only [c_count_pos hr, c_count_le hr]
  have e1 : chRo o b r = true → bt o.2.1 r = true := chRo_has
  have e2 : chRo t b r = true → bt t.2.1 r = true := chRo_has
  show _ = iB (decide (0 < mgd (bt b.2.1 r) (bt o.2.1 r) (bt t.2.1 r) (chRo o b r) (chRo t b r)))
  generalize bt b.2.1 r = x0 at e1 e2 ⊢
  generalize bt o.2.1 r = x1 at e1 e2 ⊢
  generalize bt t.2.1 r = x2 at e1 e2 ⊢
  generalize chRo o b r = x3 at e1 e2 ⊢
  generalize chRo t b r = x4 at e1 e2 ⊢
  revert e1 e2
  cases x0 <;> cases x1 <;> cases x2 <;> cases x3 <;> cases x4 <;> decide +kernel
theorem c_columnStaysBy (h0 : tI b) (h1 : tI o) (h2 : tI t) (hc : c < 8) : f_X2_columnStaysByChanges b o t (nI c) = iB (decide (0 < mgC b o t c)) := by
  rw [f_X2_columnStaysByChanges, f_X2_columnStaysAfter_to, f_X2_columnStaysAfter_ot, c_hasColumn hc, c_hasColumn hc, c_hasColumn hc, c_changedColumn h1 h0 hc, c_changedColumn h2 h0 hc]
  have e1 : chCo o b c = true → bt o.1 c = true := chCo_has
  have e2 : chCo t b c = true → bt t.1 c = true := chCo_has
  show _ = iB (decide (0 < mgd (bt b.1 c) (bt o.1 c) (bt t.1 c) (chCo o b c) (chCo t b c)))
  generalize bt b.1 c = x0 at e1 e2 ⊢
  generalize bt o.1 c = x1 at e1 e2 ⊢
  generalize bt t.1 c = x2 at e1 e2 ⊢
  generalize chCo o b c = x3 at e1 e2 ⊢
  generalize chCo t b c = x4 at e1 e2 ⊢
  revert e1 e2
  cases x0 <;> cases x1 <;> cases x2 <;> cases x3 <;> cases x4 <;> decide +kernel
theorem c_rowStaysBy (hr : r < 24) : f_X2_rowStaysByChanges b o t (nI r) = iB (decide (0 < mgR b o t r)) := by
  rw [f_X2_rowStaysByChanges, f_X2_rowStaysAfter_to, f_X2_rowStaysAfter_ot, c_hasRow hr, c_hasRow hr, c_hasRow hr]
  simp only [c_count_le hr]
  have e1 : chRo o b r = true → bt o.2.1 r = true := chRo_has
  have e2 : chRo t b r = true → bt t.2.1 r = true := chRo_has
  show _ = iB (decide (0 < mgd (bt b.2.1 r) (bt o.2.1 r) (bt t.2.1 r) (chRo o b r) (chRo t b r)))
  generalize bt b.2.1 r = x0 at e1 e2 ⊢
  generalize bt o.2.1 r = x1 at e1 e2 ⊢
  generalize bt t.2.1 r = x2 at e1 e2 ⊢
  generalize chRo o b r = x3 at e1 e2 ⊢
  generalize chRo t b r = x4 at e1 e2 ⊢
  revert e1 e2
  cases x0 <;> cases x1 <;> cases x2 <;> cases x3 <;> cases x4 <;> decide +kernel
end Mgd

