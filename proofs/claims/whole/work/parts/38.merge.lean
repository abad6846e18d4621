/-! ===== merging, side by side ===== -/
def LE (o t : Tr) (zl : Lr) (mz : Kr) (n : Nat) : Prop := lR zl mz ∧ mz.1 ≤ n ∧ (∀ i, i < mz.1 → eR (mz.2.1 i) (mz.2.2.1 i) (mz.2.2.2.1 i)) ∧ (∀ i, i < mz.1 → eF o t (mz.2.1 i) (mz.2.2.1 i) (mz.2.2.2.1 i))
theorem sm_upd {f : Nat → Int32} {x : Int32} {n : Nat} : sm (fun i => if upd f n x i = 0 then 1 else 0) n = sm (fun i => if f i = 0 then 1 else 0) n := sm_cong (fun i hi => by rw [pk_un (by omega)])
theorem LE.mono {o t : Tr} {zl : Lr} {mz : Kr} {n n' : Nat} (h : LE o t zl mz n) (hn : n ≤ n') : LE o t zl mz n' := ⟨h.1, Nat.le_trans h.2.1 hn, h.2.2⟩
theorem LE.add {o t : Tr} {zl : Lr} {mz : Kr} {n : Nat} {k y q : Int32} (h : LE o t zl mz n) (hn : n < 424) (h1 : eR k y q) (h2 : eF o t k y q) : LE o t (f_X0_append zl k y q) (f_X3_lists mz k y q) (n + 1) := by
  obtain ⟨⟨r1, r2, r3, r4⟩, hm, e1, e2⟩ := h
  have hlt : mz.1 < 424 := Nat.lt_of_le_of_lt hm hn
  have hc : (nI mz.1).toNatClampNeg = mz.1 := nI_clamp (by omega)
  have hap : f_X0_append zl k y q = (nI (mz.1 + 1), zl.2.1 + 1, upd zl.2.2.1 mz.1 k, upd zl.2.2.2.1 mz.1 y, upd zl.2.2.2.2.1 mz.1 q, upd zl.2.2.2.2.2 mz.1 0) := by
    rw [f_X0_append, r1, if_pos (show nI mz.1 < (424 : Int32) from nI_lt (b := 424) hlt (by decide)), hc, nI_1]
  have hli : f_X3_lists mz k y q = (mz.1 + 1, upd mz.2.1 mz.1 k, upd mz.2.2.1 mz.1 y, upd mz.2.2.2.1 mz.1 q, upd mz.2.2.2.2 mz.1 0) := by
    rw [f_X3_lists, hc]
  rw [hap, hli]
  refine ⟨⟨rfl, hlt, fun i hi => ?_, ?_⟩, Nat.succ_le_succ hm, fun i hi => ?_, fun i hi => ?_⟩
  · have hi : i < mz.1 + 1 := hi
    show upd zl.2.2.1 mz.1 k i = upd mz.2.1 mz.1 k i ∧ upd zl.2.2.2.1 mz.1 y i = upd mz.2.2.1 mz.1 y i ∧ upd zl.2.2.2.2.1 mz.1 q i = upd mz.2.2.2.1 mz.1 q i ∧ upd zl.2.2.2.2.2 mz.1 0 i = upd mz.2.2.2.2 mz.1 0 i ∧ (upd mz.2.2.2.2 mz.1 0 i = 0 ∨ upd mz.2.2.2.2 mz.1 0 i = 1)
    by_cases e : i = mz.1
    · rw [e]
      simp only [pk_us]
      exact ⟨trivial, trivial, trivial, trivial, Or.inl trivial⟩
    · rw [pk_un e, pk_un e, pk_un e, pk_un e, pk_un e, pk_un e, pk_un e, pk_un e]
      exact r3 i (by omega)
  · show zl.2.1 + 1 = nI (sm (fun i => if upd mz.2.2.2.2 mz.1 0 i = 0 then 1 else 0) (mz.1 + 1))
    rw [sm, sm_upd, pk_us, if_pos rfl, r4, nI_1]
  · have hi : i < mz.1 + 1 := hi
    show eR (upd mz.2.1 mz.1 k i) (upd mz.2.2.1 mz.1 y i) (upd mz.2.2.2.1 mz.1 q i)
    by_cases e : i = mz.1
    · rw [e, pk_us, pk_us, pk_us]; exact h1
    · rw [pk_un e, pk_un e, pk_un e]; exact e1 i (by omega)
  · have hi : i < mz.1 + 1 := hi
    show eF o t (upd mz.2.1 mz.1 k i) (upd mz.2.2.1 mz.1 y i) (upd mz.2.2.2.1 mz.1 q i)
    by_cases e : i = mz.1
    · rw [e, pk_us, pk_us, pk_us]; exact h2
    · rw [pk_un e, pk_un e, pk_un e]; exact e2 i (by omega)
theorem cl3 : (3 : Int32).toNatClampNeg = 3 := by decide
theorem i_ne {a b : Int32} (h : decide (a = b) = false) : ¬ a = b := of_decide_eq_false h
theorem eR_2 {r : Nat} (hr : r < 24) : eR 2 (nI r) (-1) := ⟨fun z => absurd z (by decide), fun _ => vp_in_nI hr (by decide), fun z => absurd z (by decide), fun z => absurd z (by decide)⟩
theorem eR_3 {c : Nat} (hc : c < 8) : eR 3 (-1) (nI c) := ⟨fun z => absurd z (by decide), fun z => absurd z (by decide), fun _ => vp_in_nI hc (by decide), fun z => absurd z (by decide)⟩
theorem eR_4 {c : Nat} (hc : c < 8) : eR 4 (-1) (nI c) := ⟨fun z => absurd z (by decide), fun z => absurd z (by decide), fun z => absurd z (by decide), fun _ => vp_in_nI hc (by decide)⟩
theorem eR_1 {r c : Nat} (hr : r < 24) (hc : c < 8) : eR 1 (nI r) (nI c) := ⟨fun _ => ⟨vp_in_nI hr (by decide), vp_in_nI hc (by decide)⟩, fun z => absurd z (by decide), fun z => absurd z (by decide), fun z => absurd z (by decide)⟩
theorem eR_5 {y q : Int32} : eR 5 y q := ⟨fun z => absurd z (by decide), fun z => absurd z (by decide), fun z => absurd z (by decide), fun z => absurd z (by decide)⟩
theorem eR_6 {y q : Int32} : eR 6 y q := ⟨fun z => absurd z (by decide), fun z => absurd z (by decide), fun z => absurd z (by decide), fun z => absurd z (by decide)⟩
theorem eF_n {o t : Tr} {k y q : Int32} (h1 : ¬ k = 1) (h4 : ¬ k = 4) : eF o t k y q := ⟨fun z => absurd z h1, fun z => absurd z h4⟩
theorem nI_i {a b : Nat} (ha : a < 1000) (hb : b < 1000) (h : nI a = nI b) : a = b := (nI_eq (by omega) (by omega)).mp h
theorem eF_4 {o t : Tr} {y : Int32} {c : Nat} (hc : c < 8) (h1 : bt o.1 c = true) (h2 : bt t.1 c = true) : eF o t 4 y (nI c) := ⟨fun z => absurd z (by decide), fun _ d hd e => by rw [← nI_i (by omega) (by omega) e]; exact ⟨h1, h2⟩⟩
theorem eF_1 {o t : Tr} {r c : Nat} (hr : r < 24) (hc : c < 8) (h1 : cel o r c = true) (h2 : cel t r c = true) : eF o t 1 (nI r) (nI c) := ⟨fun _ q d hq hd e f => by rw [← nI_i (by omega) (by omega) e, ← nI_i (by omega) (by omega) f]; exact ⟨h1, h2⟩, fun z => absurd z (by decide)⟩
/-! what the empty table is -/
theorem it_fill {v : Int32} {g : Nat → Int32} {j : Nat} {n : Nat} (hn : n < 2 ^ 31) (hj : j < n) : f_J7_fill_53178 g n v j = v := by
  rw [f_J7_fill_53178, it_cong (f := fun (i9 : Nat) (z9 : Nat → Int32) => f_J7_fill_53178_sa v i9 z9) (g := fun i z => upd z ((fun i => i) i) v) (fun i hi x => by
    show upd x _ v = upd x i v
    rw [nI_clamp (by omega)])]
  exact it_z_in (g := fun i => i) (i := j) hj
theorem c_empty (t : Tr) : (f_X1_becomeEmpty t).1 = 0 ∧ (f_X1_becomeEmpty t).2.1 = 0 ∧ (∀ c, c < 8 → (f_X1_becomeEmpty t).2.2.1 c = 0) ∧ (∀ r c, r < 24 → c < 8 → (f_X1_becomeEmpty t).2.2.2 (r * 8 + c) = 0) :=
  ⟨rfl, rfl, fun c hc => it_fill (by decide) hc, fun r c hr hc => it_fill (by decide) (by omega)⟩
theorem tI_empty (t : Tr) : tI (f_X1_becomeEmpty t) := by
  obtain ⟨e1, e2, e3, e4⟩ := c_empty t
  exact ⟨fun i _ => by rw [e1, b_0], fun i _ => by rw [e2, b_0], fun c hc _ => e3 c hc, fun r c hr hc _ => e4 r c hr hc⟩
/-! the columns -/
section Merge
variable {zb zo zt : Tr} {mc mw mn me mu mr : Nat → Int32} {mz : Kr}
/-- the two sides and the base stay; the table made so far has no rows yet -/
def PC (zb zo zt : Tr) (mw me : Nat → Int32) (i : Nat) (x : Tr × Lr) (y : (Nat → Int32) × (Nat → Int32) × Kr) : Prop :=
  (tM 0 zb y.1 mw y.2.1 me ∧ tM 1 zo y.1 mw y.2.1 me ∧ tM 2 zt y.1 mw y.2.1 me) ∧ tI x.1 ∧ x.1.1 = y.1 3 ∧ x.1.2.1 = 0 ∧ (∀ c, c < 8 → bt x.1.1 c = true → y.2.1 (24 + c) = x.1.2.2.1 c) ∧ (∀ r c, r < 24 → c < 8 → x.1.2.2.2 (r * 8 + c) = 0) ∧ (∀ j, i ≤ j → bt x.1.1 j = false) ∧ LE zo zt x.2 y.2.2 i
theorem mgC_2 {c : Nat} (h : mgC zb zo zt c = 2) : bt zb.1 c = true ∧ ¬ (bt zo.1 c = true ∧ bt zt.1 c = true) := by
  have h : mgd (bt zb.1 c) (bt zo.1 c) (bt zt.1 c) (chCo zo zb c) (chCo zt zb c) = 2 := h
  revert h
  cases bt zb.1 c <;> cases bt zo.1 c <;> cases bt zt.1 c <;> cases chCo zo zb c <;> cases chCo zt zb c <;> decide
theorem mgC_1 {c : Nat} (h : mgC zb zo zt c = 1) : bt zb.1 c = false ∨ (bt zo.1 c = true ∧ bt zt.1 c = true) := by
  have h : mgd (bt zb.1 c) (bt zo.1 c) (bt zt.1 c) (chCo zo zb c) (chCo zt zb c) = 1 := h
  revert h
  cases bt zb.1 c <;> cases bt zo.1 c <;> cases bt zt.1 c <;> cases chCo zo zb c <;> cases chCo zt zb c <;> decide
theorem mgC_o {c : Nat} (h : 0 < mgC zb zo zt c) : bt zo.1 c = true ∨ bt zt.1 c = true := by
  have h : 0 < mgd (bt zb.1 c) (bt zo.1 c) (bt zt.1 c) (chCo zo zb c) (chCo zt zb c) := h
  revert h
  cases bt zb.1 c <;> cases bt zo.1 c <;> cases bt zt.1 c <;> cases chCo zo zb c <;> cases chCo zt zb c <;> decide
theorem mgd_012 (b o t co ct : Bool) : mgd b o t co ct = 0 ∨ mgd b o t co ct = 1 ∨ mgd b o t co ct = 2 := by cases b <;> cases o <;> cases t <;> cases co <;> cases ct <;> decide
theorem mgR_2 {r : Nat} (h : mgR zb zo zt r = 2) : bt zb.2.1 r = true ∧ ¬ (bt zo.2.1 r = true ∧ bt zt.2.1 r = true) := by
  have h : mgd (bt zb.2.1 r) (bt zo.2.1 r) (bt zt.2.1 r) (chRo zo zb r) (chRo zt zb r) = 2 := h
  revert h
  cases bt zb.2.1 r <;> cases bt zo.2.1 r <;> cases bt zt.2.1 r <;> cases chRo zo zb r <;> cases chRo zt zb r <;> decide
theorem mgR_1 {r : Nat} (h : mgR zb zo zt r = 1) : bt zb.2.1 r = false ∨ (bt zo.2.1 r = true ∧ bt zt.2.1 r = true) := by
  have h : mgd (bt zb.2.1 r) (bt zo.2.1 r) (bt zt.2.1 r) (chRo zo zb r) (chRo zt zb r) = 1 := h
  revert h
  cases bt zb.2.1 r <;> cases bt zo.2.1 r <;> cases bt zt.2.1 r <;> cases chRo zo zb r <;> cases chRo zt zb r <;> decide
/-- what the class does for a column, by the two numbers -/
theorem c_mergeColumn (i0 : tI zb) (i1 : tI zo) (i2 : tI zt) {c : Nat} (hc : c < 8) (zm : Tr) (zl : Lr) : f_X2_mergeColumn zb zo zt zm zl (nI c) =
    if mgC zb zo zt c = 0 then (zm, zl) else (f_X1_putColumn zm (nI c) (if nmg zb zo zt c = 2 then zt.2.2.1 c else zo.2.2.1 c), if mgC zb zo zt c = 2 then f_X0_append zl 3 (-1) (nI c) else (if nmg zb zo zt c = 0 then f_X0_append zl 4 (-1) (nI c) else zl)) := by
  rw [f_X2_mergeColumn, c_columnStays i0 i1 i2 hc, c_hasColumn hc, c_hasColumn hc, c_hasColumn hc, c_mergedName i0 i1 i2 hc, ite_iB]
  simp only [ite_iB]
  rcases mgd_012 (bt zb.1 c) (bt zo.1 c) (bt zt.1 c) (chCo zo zb c) (chCo zt zb c) with g | g | g
  · have g : mgC zb zo zt c = 0 := g
    rw [g, if_pos rfl, decide_eq_false (by decide), if_neg (by decide)]
  · have g : mgC zb zo zt c = 1 := g
    rw [g, if_neg (show ¬ (1 : Nat) = 0 by decide), decide_eq_true (by decide), if_pos rfl, if_neg (show ¬ (1 : Nat) = 2 by decide)]
    rcases mgC_1 g with b | ⟨b, d⟩
    · have ho := mgC_o (show 0 < mgC zb zo zt c by omega)
      rw [b]
      cases e1 : bt zo.1 c
      · rw [if_neg (show ¬ false = true by decide), if_neg (show ¬ false = true by decide), if_neg (show ¬ nmg zb zo zt c = 0 from fun z => by have w := (nmg_0 z).1; rw [e1] at w; cases w)]
      · rw [if_pos rfl]
        cases e2 : bt zt.1 c
        · rw [if_neg (show ¬ false = true by decide), if_neg (show ¬ false = true by decide), if_neg (show ¬ nmg zb zo zt c = 0 from fun z => by have w := (nmg_0 z).2; rw [e2] at w; cases w)]
        · rw [if_pos rfl, c_namesOdd i0 i1 i2 hc e1 e2, ite_iB]
          by_cases z : nmg zb zo zt c = 0
          · rw [if_pos z, decide_eq_true z, if_pos rfl]
          · rw [if_neg z, decide_eq_false z, if_neg (by decide)]
    · rw [b, d, if_pos rfl, if_pos rfl, c_namesOdd i0 i1 i2 hc b d, ite_iB]
      by_cases z : nmg zb zo zt c = 0
      · rw [if_pos z, decide_eq_true z, if_pos rfl]
      · rw [if_neg z, decide_eq_false z, if_neg (by decide)]
  · have g : mgC zb zo zt c = 2 := g
    obtain ⟨b, d⟩ := mgC_2 g
    rw [g, if_neg (show ¬ (2 : Nat) = 0 by decide), decide_eq_true (by decide), if_pos rfl, if_pos (rfl : (2 : Nat) = 2), b]
    cases e1 : bt zo.1 c
    · rw [if_neg (by decide), if_pos rfl]
    · cases e2 : bt zt.1 c
      · rw [if_pos rfl, if_neg (by decide), if_pos rfl]
      · exact absurd ⟨e1, e2⟩ d
/-- what the reference does for a column -/
theorem m_fillsC {mcA mnA : Nat → Int32} {mzA : Kr} (m0 : tM 0 zb mcA (upd mw 3 0) mnA me) (m1 : tM 1 zo mcA (upd mw 3 0) mnA me) (m2 : tM 2 zt mcA (upd mw 3 0) mnA me) {c : Nat} (hc : c < 8) : f_X3_fills_sa mw me c mcA mnA mzA =
    if mgC zb zo zt c = 0 then (mcA, mnA, mzA) else (upd mcA 3 (mcA 3 ||| ((1 : Int32) <<< (nI c &&& 31))), upd mnA (24 + c) (if nmg zb zo zt c = 2 then zt.2.2.1 c else zo.2.2.1 c), if mgC zb zo zt c = 2 then f_X3_lists mzA 3 (-1) (nI c) else (if nmg zb zo zt c = 0 then f_X3_lists mzA 4 (-1) (nI c) else mzA)) := by
  have eg := m_mergedColumn m0 m1 m2 hc
  have k24 : ((24 : Int32) + nI c).toNatClampNeg = 24 + c := ix_k (k := 24) J_24 (by decide) hc
  have k16 : ((16 : Int32) + nI c).toNatClampNeg = 8 * 2 + c := ix_k (k := 16) J_16 (by decide) hc
  have k8 : ((8 : Int32) + nI c).toNatClampNeg = 8 * 1 + c := ix_k (k := 8) J_8 (by decide) hc
  have en : f_X3_naming (upd mcA 3 (mcA 3 ||| ((1 : Int32) <<< (nI c &&& 31)))) mnA (nI c) = nI (nmg zb zo zt c) :=
    m_naming (fr_c (k := 3) 0 _ (by decide) (by decide) m0) (fr_c (k := 3) 1 _ (by decide) (by decide) m1) (fr_c (k := 3) 2 _ (by decide) (by decide) m2) hc
  have en2 : ∀ v : Int32, f_X3_naming (upd mcA 3 (mcA 3 ||| ((1 : Int32) <<< (nI c &&& 31)))) (upd mnA (24 + c) v) (nI c) = nI (nmg zb zo zt c) := fun v =>
    m_naming (fr_cn (k := 3) (by decide) hc (fun _ _ _ _ _ _ _ => rfl) 0 _ (by decide) (by decide) m0) (fr_cn (k := 3) (by decide) hc (fun _ _ _ _ _ _ _ => rfl) 1 _ (by decide) (by decide) m1) (fr_cn (k := 3) (by decide) hc (fun _ _ _ _ _ _ _ => rfl) 2 _ (by decide) (by decide) m2) hc
  have nb : nmg zb zo zt c < 3 := by rw [nmg]; repeat' split
                                     all_goals decide
  rw [f_X3_fills_sa]
  simp only [cl3, k24, k16, k8, eg, en, en2]
  have h2 : (nI (nmg zb zo zt c) = 2) ↔ nmg zb zo zt c = 2 := nI_eq (b := 2) (by omega) (by decide)
  have h0 : (nI (nmg zb zo zt c) = 0) ↔ nmg zb zo zt c = 0 := nI_eq (b := 0) (by omega) (by decide)
  simp only [h2, h0]
  rcases mgd_012 (bt zb.1 c) (bt zo.1 c) (bt zt.1 c) (chCo zo zb c) (chCo zt zb c) with g | g | g
  · have g : mgC zb zo zt c = 0 := g
    rw [g, if_pos (show nI 0 ≤ 0 by decide), if_neg (show ¬ nI 0 = 2 by decide), if_pos rfl]
  · have g : mgC zb zo zt c = 1 := g
    have ho := mgC_o (show 0 < mgC zb zo zt c by omega)
    rw [g, if_neg (show ¬ nI 1 ≤ 0 by decide), if_neg (show ¬ nI 1 = 2 by decide), if_neg (show ¬ (1 : Nat) = 0 by decide), if_neg (show ¬ (1 : Nat) = 2 by decide)]
    by_cases z2 : nmg zb zo zt c = 2
    · have ht : bt zt.1 c = true := by
        cases e2 : bt zt.1 c
        · rw [nmg, e2] at z2
          rcases ho with w | w
          · rw [w] at z2; simp at z2
          · rw [e2] at w; cases w
        · rfl
      rw [if_pos z2, if_pos z2, if_neg (by omega), if_neg (by omega), m2.2.2.1 c hc ht]
    · have ho1 : bt zo.1 c = true := by
        cases e1 : bt zo.1 c
        · rw [nmg, e1] at z2; simp at z2
        · rfl
      rw [if_neg z2, if_neg z2, m1.2.2.1 c hc ho1, if_neg (show ¬ nI 1 = 2 by decide)]
      by_cases z0 : nmg zb zo zt c = 0
      · rw [if_pos z0, if_pos z0]
      · rw [if_neg z0, if_neg z0]
  · have g : mgC zb zo zt c = 2 := g
    have ho := mgC_o (show 0 < mgC zb zo zt c by omega)
    have n0 : ¬ nmg zb zo zt c = 0 := fun z => (mgC_2 g).2 (nmg_0 z)
    rw [g, if_neg (show ¬ nI 2 ≤ 0 by decide), if_neg (show ¬ (2 : Nat) = 0 by decide), if_pos (rfl : (2 : Nat) = 2)]
    by_cases z2 : nmg zb zo zt c = 2
    · have ht : bt zt.1 c = true := by
        cases e2 : bt zt.1 c
        · rw [nmg, e2] at z2
          rcases ho with w | w
          · rw [w] at z2; simp at z2
          · rw [e2] at w; cases w
        · rfl
      rw [if_pos z2, if_pos z2, if_pos (show nI 2 = 2 by decide), if_neg n0, m2.2.2.1 c hc ht]
    · have ho1 : bt zo.1 c = true := by
        cases e1 : bt zo.1 c
        · rw [nmg, e1] at z2; simp at z2
        · rfl
      rw [if_neg z2, if_neg z2, if_pos (show nI 2 = 2 by decide), if_neg n0, m1.2.2.1 c hc ho1]
theorem PC_step (i0 : tI zb) (i1 : tI zo) (i2 : tI zt) {i : Nat} (hi : i < 8) {x : Tr × Lr} {y : (Nat → Int32) × (Nat → Int32) × Kr} (h : PC zb zo zt (upd mw 3 0) me i x y) : PC zb zo zt (upd mw 3 0) me (i + 1) (f_X2_mergeColumn zb zo zt x.1 x.2 (nI i)) (f_X3_fills_sa mw me i y.1 y.2.1 y.2.2) := by
  obtain ⟨zm, zl⟩ := x
  obtain ⟨mcA, mnA, mzA⟩ := y
  obtain ⟨⟨m0, m1, m2⟩, iz, e1, e2, e3, e4, e5, el⟩ := h
  dsimp only at m0 m1 m2 iz e1 e2 e3 e4 e5 el
  rw [c_mergeColumn i0 i1 i2 hi, m_fillsC m0 m1 m2 hi]
  by_cases g : mgC zb zo zt i = 0
  · rw [if_pos g, if_pos g]
    exact ⟨⟨m0, m1, m2⟩, iz, e1, e2, e3, e4, fun j hj => e5 j (by omega), el.mono (by omega)⟩
  · rw [if_neg g, if_neg g]
    have fr := fr_cn (k := 3) (mc := mcA) (mw := upd mw 3 0) (mn := mnA) (me := me) (x := mcA 3 ||| ((1 : Int32) <<< (nI i &&& 31))) (n := if nmg zb zo zt i = 2 then zt.2.2.1 i else zo.2.2.1 i) (by decide) hi (fun _ _ _ _ _ _ _ => rfl)
    have hb : bt zm.1 i = false := e5 i (Nat.le_refl i)
    have iz' := tI_putColumn iz hi (if nmg zb zo zt i = 2 then zt.2.2.1 i else zo.2.2.1 i) hb
    refine ⟨⟨fr 0 _ (by decide) (by decide) m0, fr 1 _ (by decide) (by decide) m1, fr 2 _ (by decide) (by decide) m2⟩, iz', ?_, ?_, ?_, ?_, ?_, ?_⟩
    · rw [c_putColumn hi]
      exact (congrArg (fun z => z ||| ((1 : Int32) <<< (nI i &&& 31))) e1).trans (pk_us (f := mcA) (k := 3)).symm
    · show (f_X1_putColumn zm (nI i) _).2.1 = 0
      rw [c_putColumn hi]; exact e2
    · intro d hd hb2
      have hb2 : bt (f_X1_putColumn zm (nI i) (if nmg zb zo zt i = 2 then zt.2.2.1 i else zo.2.2.1 i)).1 d = true := hb2
      show upd mnA (24 + i) _ (24 + d) = (f_X1_putColumn zm (nI i) _).2.2.1 d
      rw [c_putColumn hi] at hb2 ⊢
      show upd mnA (24 + i) _ (24 + d) = upd zm.2.2.1 i _ d
      by_cases e : d = i
      · rw [e, pk_us, pk_us]
      · rw [pk_un e, pk_un (by omega)]
        exact e3 d hd (((bt_or (by omega)).mp hb2).resolve_right e)
    · intro r d hr hd
      show (f_X1_putColumn zm (nI i) _).2.2.2 (r * 8 + d) = 0
      rw [c_putColumn hi]; exact e4 r d hr hd
    · intro j hj
      show bt (f_X1_putColumn zm (nI i) _).1 j = false
      rw [c_putColumn hi]
      exact nf (fun z => by
        rcases (bt_or (by omega)).mp z with z | z
        · exact nt (e5 j (by omega)) z
        · omega)
    · show LE zo zt (if mgC zb zo zt i = 2 then _ else _) (if mgC zb zo zt i = 2 then _ else _) (i + 1)
      by_cases g2 : mgC zb zo zt i = 2
      · rw [if_pos g2, if_pos g2]
        exact el.add (by omega) (eR_3 hi) (eF_n (by decide) (by decide))
      · rw [if_neg g2, if_neg g2]
        by_cases z0 : nmg zb zo zt i = 0
        · rw [if_pos z0, if_pos z0]
          exact el.add (by omega) (eR_4 hi) (eF_4 hi (nmg_0 z0).1 (nmg_0 z0).2)
        · rw [if_neg z0, if_neg z0]
          exact el.mono (by omega)
/-! the rows -/
def PR (zb zo zt : Tr) (mc mn me : Nat → Int32) (i : Nat) (x : Tr × Lr) (y : (Nat → Int32) × Kr) : Prop :=
  (tM 0 zb mc y.1 mn me ∧ tM 1 zo mc y.1 mn me ∧ tM 2 zt mc y.1 mn me) ∧ tI x.1 ∧ x.1.1 = mc 3 ∧ x.1.2.1 = y.1 3 ∧ (∀ c, c < 8 → bt x.1.1 c = true → mn (24 + c) = x.1.2.2.1 c) ∧ (∀ r c, r < 24 → c < 8 → x.1.2.2.2 (r * 8 + c) = 0) ∧ LE zo zt x.2 y.2 (8 + i)
theorem c_mergeRow {r : Nat} (hr : r < 24) (zm : Tr) (zl : Lr) : f_X2_mergeRow zb zo zt zm zl (nI r) = if mgR zb zo zt r = 0 then (zm, zl) else (f_X1_putRow zm (nI r), if mgR zb zo zt r = 2 then f_X0_append zl 2 (nI r) (-1) else zl) := by
  rw [f_X2_mergeRow, c_rowStays hr, c_hasRow hr, c_hasRow hr, c_hasRow hr, ite_iB]
  simp only [ite_iB]
  rcases mgd_012 (bt zb.2.1 r) (bt zo.2.1 r) (bt zt.2.1 r) (chRo zo zb r) (chRo zt zb r) with g | g | g
  · have g : mgR zb zo zt r = 0 := g
    rw [g, if_pos rfl, decide_eq_false (by decide), if_neg (by decide)]
  · have g : mgR zb zo zt r = 1 := g
    rw [g, if_neg (show ¬ (1 : Nat) = 0 by decide), decide_eq_true (by decide), if_pos rfl, if_neg (show ¬ (1 : Nat) = 2 by decide)]
    rcases mgR_1 g with b | ⟨b, d⟩
    · rw [b]
      cases bt zo.2.1 r <;> cases bt zt.2.1 r <;> rfl
    · rw [b, d]; rfl
  · have g : mgR zb zo zt r = 2 := g
    obtain ⟨b, d⟩ := mgR_2 g
    rw [g, if_neg (show ¬ (2 : Nat) = 0 by decide), decide_eq_true (by decide), if_pos rfl, if_pos (rfl : (2 : Nat) = 2), b]
    cases e1 : bt zo.2.1 r
    · rfl
    · cases e2 : bt zt.2.1 r
      · rfl
      · exact absurd ⟨e1, e2⟩ d
theorem i_or0 (x : Int32) : x ||| 0 = x := b_ext (fun i _ => by rw [b_or, b_0, Bool.or_false])
theorem PR_step {i : Nat} (hi : i < 24) {x : Tr × Lr} {y : (Nat → Int32) × Kr} (h : PR zb zo zt (f_X3_fills_la mc mw mn me mz).1 (f_X3_fills_la mc mw mn me mz).2.1 me i x y) : PR zb zo zt (f_X3_fills_la mc mw mn me mz).1 (f_X3_fills_la mc mw mn me mz).2.1 me (i + 1) (f_X2_mergeRow zb zo zt x.1 x.2 (nI i)) (f_X3_fills_sb mc mw mn me mz i y.1 y.2) := by
  obtain ⟨zm, zl⟩ := x
  obtain ⟨mwA, mzA⟩ := y
  obtain ⟨⟨m0, m1, m2⟩, iz, e1, e2, e3, e4, el⟩ := h
  dsimp only at m0 m1 m2 iz e1 e2 e3 e4 el
  have eg := m_mergedRow m0 m1 m2 hi
  rw [c_mergeRow hi, f_X3_fills_sb]
  simp only [cl3, eg, i_or0]
  generalize (f_X3_fills_la mc mw mn me mz).1 = mcF at m0 m1 m2 e1 ⊢
  generalize (f_X3_fills_la mc mw mn me mz).2.1 = mnF at m0 m1 m2 e3 ⊢
  rcases mgd_012 (bt zb.2.1 i) (bt zo.2.1 i) (bt zt.2.1 i) (chRo zo zb i) (chRo zt zb i) with g | g | g
  · have g : mgR zb zo zt i = 0 := g
    rw [g, if_pos rfl, if_pos (show nI 0 ≤ 0 by decide), if_neg (show ¬ nI 0 = 2 by decide)]
    exact ⟨⟨fr_w (k := 3) 0 _ (by decide) (by decide) m0, fr_w (k := 3) 1 _ (by decide) (by decide) m1, fr_w (k := 3) 2 _ (by decide) (by decide) m2⟩, iz, e1, e2.trans (pk_us (f := mwA) (k := 3)).symm, e3, e4, el.mono (by omega)⟩
  · have g : mgR zb zo zt i = 1 := g
    rw [g, if_neg (show ¬ (1 : Nat) = 0 by decide), if_neg (show ¬ (1 : Nat) = 2 by decide), if_neg (show ¬ nI 1 ≤ 0 by decide), if_neg (show ¬ nI 1 = 2 by decide)]
    refine ⟨⟨fr_w (k := 3) 0 _ (by decide) (by decide) m0, fr_w (k := 3) 1 _ (by decide) (by decide) m1, fr_w (k := 3) 2 _ (by decide) (by decide) m2⟩, tI_putRow iz hi, ?_, ?_, ?_, ?_, el.mono (by omega)⟩
    · rw [c_putRow hi]; exact e1
    · rw [c_putRow hi]
      exact (congrArg (fun z => z ||| ((1 : Int32) <<< (nI i &&& 31))) e2).trans (pk_us (f := mwA) (k := 3)).symm
    · rw [c_putRow hi]; exact e3
    · rw [c_putRow hi]; exact e4
  · have g : mgR zb zo zt i = 2 := g
    rw [g, if_neg (show ¬ (2 : Nat) = 0 by decide), if_pos (rfl : (2 : Nat) = 2), if_neg (show ¬ nI 2 ≤ 0 by decide), if_pos (show nI 2 = 2 by decide)]
    refine ⟨⟨fr_w (k := 3) 0 _ (by decide) (by decide) m0, fr_w (k := 3) 1 _ (by decide) (by decide) m1, fr_w (k := 3) 2 _ (by decide) (by decide) m2⟩, tI_putRow iz hi, ?_, ?_, ?_, ?_, el.add (by omega) (eR_2 hi) (eF_n (by decide) (by decide))⟩
    · rw [c_putRow hi]; exact e1
    · rw [c_putRow hi]
      exact (congrArg (fun z => z ||| ((1 : Int32) <<< (nI i &&& 31))) e2).trans (pk_us (f := mwA) (k := 3)).symm
    · rw [c_putRow hi]; exact e3
    · rw [c_putRow hi]; exact e4
end Merge
