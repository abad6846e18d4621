/-! ===== merging, side by side ===== -/
theorem sm_upd {f : Nat → Int32} {x : Int32} {n : Nat} : sm (fun i => if upd f n x i = 0 then 1 else 0) n = sm (fun i => if f i = 0 then 1 else 0) n := sm_cong (fun i hi => by rw [pk_un (by omega)])
theorem cl3 : (3 : Int32).toNatClampNeg = 3 := by decide
theorem i_ne {a b : Int32} (h : decide (a = b) = false) : ¬ a = b := of_decide_eq_false h
theorem nI_i {a b : Nat} (ha : a < 1000) (hb : b < 1000) (h : nI a = nI b) : a = b := (nI_eq (by omega) (by omega)).mp h
/-! what the empty table is -/
theorem it_fill {v : Int32} {g : Nat → Int32} {j : Nat} {n : Nat} (hn : n < 2 ^ 31) (hj : j < n) : f_J7_fill_53178 g n v j = v := by
  rw [f_J7_fill_53178, it_cong (f := fun (i9 : Nat) (z9 : Nat → Int32) => f_J7_fill_53178_sa v i9 z9) (g := fun i z => upd z ((fun i => i) i) v) (fun i hi x => by
    show upd x _ v = upd x i v
    rw [nI_clamp (by omega)])]
  exact it_z_in (g := fun i => i) (i := j) hj
theorem c_empty (t : Tr) : (f_X1_becomeEmpty t).1 = 0 ∧ (f_X1_becomeEmpty t).2.1 = 0 ∧ (∀ c, c < 8 → (f_X1_becomeEmpty t).2.2.1 c = 0) ∧ (∀ r c, r < 24 → c < 8 → (f_X1_becomeEmpty t).2.2.2 (r * 8 + c) = 0) :=
  ⟨rfl, rfl, fun c hc => it_fill (by decide) hc, fun r c hr hc => it_fill (by decide) (by omega)⟩
theorem tI_empty (t : Tr) : tI (f_X1_becomeEmpty t) := by
  obtain ⟨e1, e2, e3, e4⟩ := c_empty t
  exact ⟨fun i _ => by rw [e1, b_0], fun i _ => by rw [e2, b_0], fun c hc _ => e3 c hc, fun r c hr hc _ => e4 r c hr hc⟩
/-! the columns -/
section Merge
variable {zb zo zt : Tr} {mu mr : Nat → Int32}
theorem mgC_2 {c : Nat} (h : mgC zb zo zt c = 2) : bt zb.1 c = true ∧ ¬ (bt zo.1 c = true ∧ bt zt.1 c = true) := by
  have h : mgd (bt zb.1 c) (bt zo.1 c) (bt zt.1 c) (chCo zo zb c) (chCo zt zb c) = 2 := h
  revert h
  cases bt zb.1 c <;> cases bt zo.1 c <;> cases bt zt.1 c <;> cases chCo zo zb c <;> cases chCo zt zb c <;> decide
theorem mgC_1 {c : Nat} (h : mgC zb zo zt c = 1) : bt zb.1 c = false ∨ (bt zo.1 c = true ∧ bt zt.1 c = true) := by
  have h : mgd (bt zb.1 c) (bt zo.1 c) (bt zt.1 c) (chCo zo zb c) (chCo zt zb c) = 1 := h
  revert h
  cases bt zb.1 c <;> cases bt zo.1 c <;> cases bt zt.1 c <;> cases chCo zo zb c <;> cases chCo zt zb c <;> decide
theorem mgC_o {c : Nat} (h : 0 < mgC zb zo zt c) : bt zo.1 c = true ∨ bt zt.1 c = true := by
  have h : 0 < mgd (bt zb.1 c) (bt zo.1 c) (bt zt.1 c) (chCo zo zb c) (chCo zt zb c) := h
  revert h
  cases bt zb.1 c <;> cases bt zo.1 c <;> cases bt zt.1 c <;> cases chCo zo zb c <;> cases chCo zt zb c <;> decide
theorem mgd_012 (b o t co ct : Bool) : mgd b o t co ct = 0 ∨ mgd b o t co ct = 1 ∨ mgd b o t co ct = 2 := by cases b <;> cases o <;> cases t <;> cases co <;> cases ct <;> decide
theorem mgR_2 {r : Nat} (h : mgR zb zo zt r = 2) : bt zb.2.1 r = true ∧ ¬ (bt zo.2.1 r = true ∧ bt zt.2.1 r = true) := by
  have h : mgd (bt zb.2.1 r) (bt zo.2.1 r) (bt zt.2.1 r) (chRo zo zb r) (chRo zt zb r) = 2 := h
  revert h
  cases bt zb.2.1 r <;> cases bt zo.2.1 r <;> cases bt zt.2.1 r <;> cases chRo zo zb r <;> cases chRo zt zb r <;> decide
theorem mgR_1 {r : Nat} (h : mgR zb zo zt r = 1) : bt zb.2.1 r = false ∨ (bt zo.2.1 r = true ∧ bt zt.2.1 r = true) := by
  have h : mgd (bt zb.2.1 r) (bt zo.2.1 r) (bt zt.2.1 r) (chRo zo zb r) (chRo zt zb r) = 1 := h
  revert h
  cases bt zb.2.1 r <;> cases bt zo.2.1 r <;> cases bt zt.2.1 r <;> cases chRo zo zb r <;> cases chRo zt zb r <;> decide
/-- what the class does for a column, by the two numbers -/
theorem c_mergeColumn (i0 : tI zb) (i1 : tI zo) (i2 : tI zt) {c : Nat} (hc : c < 8) (zm : Tr) (zl : Lr) : f_X2_mergeColumn zb zo zt zm zl (nI c) =
    if mgC zb zo zt c = 0 then (zm, zl) else (f_X1_putColumn zm (nI c) (if nmg zb zo zt c = 2 then zt.2.2.1 c else zo.2.2.1 c), if mgC zb zo zt c = 2 then f_X0_append zl 3 (-1) (nI c) else (if nmg zb zo zt c = 0 then f_X0_append zl 4 (-1) (nI c) else zl)) := by
  rw [f_X2_mergeColumn, c_columnStays i0 i1 i2 hc, c_hasColumn hc, c_hasColumn hc, c_hasColumn hc, c_mergedName i0 i1 i2 hc, ite_iB]
  simp only [ite_iB]
  rcases mgd_012 (bt zb.1 c) (bt zo.1 c) (bt zt.1 c) (chCo zo zb c) (chCo zt zb c) with g | g | g
  · have g : mgC zb zo zt c = 0 := g
    rw [g, if_pos rfl, decide_eq_false (by decide), if_neg (by decide)]
  · have g : mgC zb zo zt c = 1 := g
    rw [g, if_neg (show ¬ (1 : Nat) = 0 by decide), decide_eq_true (by decide), if_pos rfl, if_neg (show ¬ (1 : Nat) = 2 by decide)]
    rcases mgC_1 g with b | ⟨b, d⟩
    · have ho := mgC_o (show 0 < mgC zb zo zt c by omega)
      rw [b]
      cases e1 : bt zo.1 c
      · rw [if_neg (show ¬ false = true by decide), if_neg (show ¬ false = true by decide), if_neg (show ¬ nmg zb zo zt c = 0 from fun z => by have w := (nmg_0 z).1; rw [e1] at w; cases w)]
      · rw [if_pos rfl]
        cases e2 : bt zt.1 c
        · rw [if_neg (show ¬ false = true by decide), if_neg (show ¬ false = true by decide), if_neg (show ¬ nmg zb zo zt c = 0 from fun z => by have w := (nmg_0 z).2; rw [e2] at w; cases w)]
        · rw [if_pos rfl, c_namesOdd i0 i1 i2 hc e1 e2, ite_iB]
          by_cases z : nmg zb zo zt c = 0
          · rw [if_pos z, decide_eq_true z, if_pos rfl]
          · rw [if_neg z, decide_eq_false z, if_neg (by decide)]
    · rw [b, d, if_pos rfl, if_pos rfl, c_namesOdd i0 i1 i2 hc b d, ite_iB]
      by_cases z : nmg zb zo zt c = 0
      · rw [if_pos z, decide_eq_true z, if_pos rfl]
      · rw [if_neg z, decide_eq_false z, if_neg (by decide)]
  · have g : mgC zb zo zt c = 2 := g
    obtain ⟨b, d⟩ := mgC_2 g
    rw [g, if_neg (show ¬ (2 : Nat) = 0 by decide), decide_eq_true (by decide), if_pos rfl, if_pos (rfl : (2 : Nat) = 2), b]
    cases e1 : bt zo.1 c
    · rw [if_neg (by decide), if_pos rfl]
    · cases e2 : bt zt.1 c
      · rw [if_pos rfl, if_neg (by decide), if_pos rfl]
      · exact absurd ⟨e1, e2⟩ d
/-! the rows -/
theorem c_mergeRow {r : Nat} (hr : r < 24) (zm : Tr) (zl : Lr) : f_X2_mergeRow zb zo zt zm zl (nI r) = if mgR zb zo zt r = 0 then (zm, zl) else (f_X1_putRow zm (nI r), if mgR zb zo zt r = 2 then f_X0_append zl 2 (nI r) (-1) else zl) := by
  rw [f_X2_mergeRow, c_rowStays hr, c_hasRow hr, c_hasRow hr, c_hasRow hr, ite_iB]
  simp only [ite_iB]
  rcases mgd_012 (bt zb.2.1 r) (bt zo.2.1 r) (bt zt.2.1 r) (chRo zo zb r) (chRo zt zb r) with g | g | g
  · have g : mgR zb zo zt r = 0 := g
    rw [g, if_pos rfl, decide_eq_false (by decide), if_neg (by decide)]
  · have g : mgR zb zo zt r = 1 := g
    rw [g, if_neg (show ¬ (1 : Nat) = 0 by decide), decide_eq_true (by decide), if_pos rfl, if_neg (show ¬ (1 : Nat) = 2 by decide)]
    rcases mgR_1 g with b | ⟨b, d⟩
    · rw [b]
      cases bt zo.2.1 r <;> cases bt zt.2.1 r <;> rfl
    · rw [b, d]; rfl
  · have g : mgR zb zo zt r = 2 := g
    obtain ⟨b, d⟩ := mgR_2 g
    rw [g, if_neg (show ¬ (2 : Nat) = 0 by decide), decide_eq_true (by decide), if_pos rfl, if_pos (rfl : (2 : Nat) = 2), b]
    cases e1 : bt zo.2.1 r
    · rfl
    · cases e2 : bt zt.2.1 r
      · rfl
      · exact absurd ⟨e1, e2⟩ d
theorem i_or0 (x : Int32) : x ||| 0 = x := b_ext (fun i _ => by rw [b_or, b_0, Bool.or_false])
end Merge

/-! ===== merging, side by side: the cells, the names, the references ===== -/
section Merge2
variable {zb zo zt : Tr} {mu mr zu zr : Nat → Int32}
theorem c_mergeCell (i0 : tI zb) (i1 : tI zo) (i2 : tI zt) {r c : Nat} (hr : r < 24) (hc : c < 8) (zm : Tr) (zl : Lr) : f_X2_mergeCell zb zo zt zm zu zl (nI r) (nI c) =
    if cel zm r c = true then ((zm.1, zm.2.1, zm.2.2.1, upd zm.2.2.2 (r * 8 + c) (f_X2_mergedCell zb zo zt (nI r) (nI c) (zu c) (iB (unl zb zo zt r c)))), if (unl zb zo zt r c = true ∧ zu c = 0) then f_X0_append zl 1 (nI r) (nI c) else zl) else (zm, zl) := by
  rw [f_X2_mergeCell, isCol_t (vp_in_nI hc (by decide)), if_neg (show ¬ (1 : Int32) = 0 by decide), c_hasCell hr hc, c_unlike i0 i1 i2 hr hc, nI_clamp (show c < 2 ^ 31 by omega), c_putCell hr hc]
  simp only [ite_iB]
  cases e : cel zm r c
  · rw [if_neg (by decide), if_neg (by decide)]
  · rw [if_pos rfl, if_pos rfl, if_pos rfl]
    cases unl zb zo zt r c
    · rw [if_neg (by decide), if_neg (fun z => by cases z.1)]
    · rw [if_pos rfl]
      by_cases z : zu c = 0
      · rw [if_pos z, if_pos ⟨rfl, z⟩]
      · rw [if_neg z, if_neg (fun w => z w.2)]
theorem c_mergeCells (zm : Tr) (zl : Lr) : f_X2_mergeCells zb zo zt zm zu zl = it (fun (n : Nat) (y : Tr × Lr) => f_X2_mergeCell zb zo zt y.1 zu y.2 (nI (n / 8)) (nI (n % 8))) (zm, zl) 192 := by
  have hn := it_nest (g := fun (a b : Nat) (y : Tr × Lr) => f_X2_mergeCell zb zo zt y.1 zu y.2 (nI a) (nI b)) (s := (zm, zl)) 24
  rw [show (192 : Nat) = 8 * 24 from rfl, ← hn, f_X2_mergeCells]
  have h : it (fun (i9 : Nat) (z9 : Tr × Lr) => f_X2_mergeCells_sa zb zo zt zu i9 z9.1 z9.2) (zm, zl) 24 = it (fun (a : Nat) (x : Tr × Lr) => it (fun (b : Nat) (y : Tr × Lr) => f_X2_mergeCell zb zo zt y.1 zu y.2 (nI a) (nI b)) x 8) (zm, zl) 24 := it_cong (fun i _ x => by
    show f_X2_mergeCells_sa zb zo zt zu i x.1 x.2 = it (fun (b : Nat) (y : Tr × Lr) => f_X2_mergeCell zb zo zt y.1 zu y.2 (nI i) (nI b)) x 8
    obtain ⟨x1, x2⟩ := x
    have h2 : it (fun (i9 : Nat) (z9 : Tr × Lr) => f_X2_mergeCells_sb zb zo zt zu i i9 z9.1 z9.2) (x1, x2) 8 = it (fun (b : Nat) (y : Tr × Lr) => f_X2_mergeCell zb zo zt y.1 zu y.2 (nI i) (nI b)) (x1, x2) 8 := it_cong (fun j _ y => by
      show f_X2_mergeCells_sb zb zo zt zu i j y.1 y.2 = f_X2_mergeCell zb zo zt y.1 zu y.2 (nI i) (nI j)
      rw [f_X2_mergeCells_sb])
    rw [f_X2_mergeCells_sa, h2])
  rw [h]
/-! names twice -/
/-! lost references -/
theorem c_refs (zm : Tr) (zl : Lr) : f_X2_listReferencesToNoRow zm zr zl = it (fun (n : Nat) (y : Lr) => f_X2_listReferencesToNoRow_sb zm zr (n / 8) (n % 8) y) zl 192 := by
  have hn := it_nest (g := fun (a b : Nat) (y : Lr) => f_X2_listReferencesToNoRow_sb zm zr a b y) (s := zl) 24
  rw [show (192 : Nat) = 8 * 24 from rfl, ← hn, f_X2_listReferencesToNoRow]
  exact it_cong (fun i _ x => by
    show f_X2_listReferencesToNoRow_sa zm zr i x = _
    rw [f_X2_listReferencesToNoRow_sa])
/-! the whole of it -/
theorem p_eta {α β : Type} (p : α × β) : (p.1, p.2) = p := rfl
theorem fold_c (zm : Tr) (zl : Lr) : it (fun (i9 : Nat) (z9 : Tr × Lr) => f_X2_merge_sa zb zo zt i9 z9.1 z9.2) (zm, zl) 8 = it (fun (i : Nat) (x : Tr × Lr) => f_X2_mergeColumn zb zo zt x.1 x.2 (nI i)) (zm, zl) 8 := it_cong (fun i _ x => by
  show f_X2_merge_sa zb zo zt i x.1 x.2 = f_X2_mergeColumn zb zo zt x.1 x.2 (nI i)
  rw [f_X2_merge_sa])
theorem fold_r (s : Tr × Lr) : it (fun (i9 : Nat) (z9 : Tr × Lr) => f_X2_merge_sb zb zo zt i9 z9.1 z9.2) s 24 = it (fun (i : Nat) (x : Tr × Lr) => f_X2_mergeRow zb zo zt x.1 x.2 (nI i)) s 24 := it_cong (fun i _ x => by
  show f_X2_merge_sb zb zo zt i x.1 x.2 = f_X2_mergeRow zb zo zt x.1 x.2 (nI i)
  rw [f_X2_merge_sb])
def mg1 (zb zo zt zm : Tr) (zl : Lr) : Tr × Lr := it (fun (i : Nat) (x : Tr × Lr) => f_X2_mergeColumn zb zo zt x.1 x.2 (nI i)) (f_X1_becomeEmpty zm, f_X0_becomeEmpty zl) 8
def mg2 (zb zo zt zm : Tr) (zl : Lr) : Tr × Lr := it (fun (i : Nat) (x : Tr × Lr) => f_X2_mergeRow zb zo zt x.1 x.2 (nI i)) (mg1 zb zo zt zm zl) 24
def mg3 (zb zo zt zm : Tr) (zu : Nat → Int32) (zl : Lr) : Tr × Lr := it (fun (n : Nat) (y : Tr × Lr) => f_X2_mergeCell zb zo zt y.1 zu y.2 (nI (n / 8)) (nI (n % 8))) (mg2 zb zo zt zm zl) 192
def mg5 (zb zo zt zm : Tr) (zu zr : Nat → Int32) (zl : Lr) : Lr := f_X2_listReferencesToNoRow (mg3 zb zo zt zm zu zl).1 zr (f_X2_listNamesTwice (mg3 zb zo zt zm zu zl).1 (mg3 zb zo zt zm zu zl).2)
theorem c_merge (zm : Tr) (zl : Lr) : f_X2_merge zb zo zt zm zu zr zl = ((mg5 zb zo zt zm zu zr zl).1, (mg3 zb zo zt zm zu zl).1, mg5 zb zo zt zm zu zr zl, 1) := by
  rw [f_X2_merge]
  simp only [fold_c, fold_r, c_mergeCells, p_eta, mg5, mg3, mg2, mg1]
end Merge2
theorem pr4_1 {α β γ δ : Type} (a : α) (b : β) (c : γ) (d : δ) : (a, b, c, d).1 = a := rfl
theorem pr4_2 {α β γ δ : Type} (a : α) (b : β) (c : γ) (d : δ) : (a, b, c, d).2.1 = b := rfl
theorem pr4_3 {α β γ δ : Type} (a : α) (b : β) (c : γ) (d : δ) : (a, b, c, d).2.2.1 = c := rfl
theorem pr4_4 {α β γ δ : Type} (a : α) (b : β) (c : γ) (d : δ) : (a, b, c, d).2.2.2 = d := rfl
section SMerge
variable {zb zo zt zm : Tr} {zu zr : Nat → Int32} {zl : Lr} {zf : Int32} {mu mr : Nat → Int32} {mf : Int32}
end SMerge

