/-! ===== merging, side by side: the cells, the names, the references ===== -/
section Merge2
variable {zb zo zt : Tr} {mc mw mn me mu mr zu zr : Nat → Int32} {mz : Kr}
/-- the cells up to n are made -/
def PX (zb zo zt : Tr) (mc mw mn : Nat → Int32) (n : Nat) (x : Tr × Lr) (y : (Nat → Int32) × Kr) : Prop :=
  (tM 0 zb mc mw mn y.1 ∧ tM 1 zo mc mw mn y.1 ∧ tM 2 zt mc mw mn y.1) ∧ tI x.1 ∧ x.1.1 = mc 3 ∧ x.1.2.1 = mw 3 ∧ (∀ c, c < 8 → bt x.1.1 c = true → mn (24 + c) = x.1.2.2.1 c) ∧ (∀ r c, r < 24 → c < 8 → r * 8 + c < n → cel x.1 r c = true → y.1 (576 + (r * 8 + c)) = x.1.2.2.2 (r * 8 + c)) ∧ LE zo zt x.2 y.2 (32 + n)
theorem c_mergeCell (i0 : tI zb) (i1 : tI zo) (i2 : tI zt) {r c : Nat} (hr : r < 24) (hc : c < 8) (zm : Tr) (zl : Lr) : f_X2_mergeCell zb zo zt zm zu zl (nI r) (nI c) =
    if cel zm r c = true then ((zm.1, zm.2.1, zm.2.2.1, upd zm.2.2.2 (r * 8 + c) (f_X2_mergedCell zb zo zt (nI r) (nI c) (zu c) (iB (unl zb zo zt r c)))), if (unl zb zo zt r c = true ∧ zu c = 0) then f_X0_append zl 1 (nI r) (nI c) else zl) else (zm, zl) := by
  rw [f_X2_mergeCell, isCol_t (vp_in_nI hc (by decide)), if_neg (show ¬ (1 : Int32) = 0 by decide), c_hasCell hr hc, c_unlike i0 i1 i2 hr hc, nI_clamp (show c < 2 ^ 31 by omega), c_putCell hr hc]
  simp only [ite_iB]
  cases e : cel zm r c
  · rw [if_neg (by decide), if_neg (by decide)]
  · rw [if_pos rfl, if_pos rfl, if_pos rfl]
    cases unl zb zo zt r c
    · rw [if_neg (by decide), if_neg (fun z => by cases z.1)]
    · rw [if_pos rfl]
      by_cases z : zu c = 0
      · rw [if_pos z, if_pos ⟨rfl, z⟩]
      · rw [if_neg z, if_neg (fun w => z w.2)]
theorem PX_step (i0 : tI zb) (i1 : tI zo) (i2 : tI zt) (ru : ∀ c, c < 8 → zu c = mu c) {n : Nat} (hn : n < 192) {x : Tr × Lr} {y : (Nat → Int32) × Kr} (h : PX zb zo zt (f_X3_fills mc mw mn me (0, mz.2.1, mz.2.2.1, mz.2.2.2.1, mz.2.2.2.2)).1 (f_X3_fills mc mw mn me (0, mz.2.1, mz.2.2.1, mz.2.2.2.1, mz.2.2.2.2)).2.1 (f_X3_fills mc mw mn me (0, mz.2.1, mz.2.2.1, mz.2.2.2.1, mz.2.2.2.2)).2.2.1 n x y) :
    PX zb zo zt (f_X3_fills mc mw mn me (0, mz.2.1, mz.2.2.1, mz.2.2.2.1, mz.2.2.2.2)).1 (f_X3_fills mc mw mn me (0, mz.2.1, mz.2.2.1, mz.2.2.2.1, mz.2.2.2.2)).2.1 (f_X3_fills mc mw mn me (0, mz.2.1, mz.2.2.1, mz.2.2.2.1, mz.2.2.2.2)).2.2.1 (n + 1) (f_X2_mergeCell zb zo zt x.1 zu x.2 (nI (n / 8)) (nI (n % 8))) (f_X3_merge_sa mc mw mn me mu mz n y.1 y.2) := by
  obtain ⟨zm, zl⟩ := x
  obtain ⟨meA, mzA⟩ := y
  obtain ⟨⟨m0, m1, m2⟩, iz, e1, e2, e3, e4, el⟩ := h
  dsimp only at m0 m1 m2 iz e1 e2 e3 e4 el
  have hr : n / 8 < 24 := by omega
  have hc : n % 8 < 8 := by omega
  have hix : n / 8 * 8 + n % 8 = n := by omega
  rw [c_mergeCell i0 i1 i2 hr hc, f_X3_merge_sa]
  have k5 : ((576 : Int32) + nI n).toNatClampNeg = 576 + n := ix_a (a := 576) rfl (by decide) (by omega)
  generalize (f_X3_fills mc mw mn me (0, mz.2.1, mz.2.2.1, mz.2.2.2.1, mz.2.2.2.2)).1 = mcF at m0 m1 m2 e1 ⊢
  generalize (f_X3_fills mc mw mn me (0, mz.2.1, mz.2.2.1, mz.2.2.2.1, mz.2.2.2.2)).2.1 = mwF at m0 m1 m2 e2 ⊢
  generalize (f_X3_fills mc mw mn me (0, mz.2.1, mz.2.2.1, mz.2.2.2.1, mz.2.2.2.2)).2.2.1 = mnF at m0 m1 m2 e3 ⊢
  have ecel : f_X3_hasCell mcF mwF 3 (nI (n / 8)) (nI (n % 8)) = iB (cel zm (n / 8) (n % 8)) := by
    rw [f_X3_hasCell, m_hasRow (k := 3) I_3 (by decide) (by omega), m_hasColumn (k := 3) I_3 (by decide) (by omega), cel, ← e1, ← e2, ite_iB, ite_iB]
    cases bt zm.2.1 (n / 8) <;> cases bt zm.1 (n % 8) <;> rfl
  simp only [ecel, k5, nI_clamp (show n % 8 < 2 ^ 31 by omega), ite_iB, m_mergedCell (mu := mu) m0 m1 m2 i0 i1 i2 hr hc]
  rw [ru _ hc, hix]
  cases e : cel zm (n / 8) (n % 8)
  · rw [if_neg (by decide), if_neg (by decide)]
    refine ⟨⟨m0, m1, m2⟩, iz, e1, e2, e3, fun r c hr2 hc2 hlt hb => ?_, el.mono (by omega)⟩
    have hne : r * 8 + c ≠ n := fun w => by
      have w1 : r = n / 8 := by omega
      have w2 : c = n % 8 := by omega
      have hb : cel zm r c = true := hb
      rw [w1, w2, e] at hb
      cases hb
    exact e4 r c hr2 hc2 (by omega) hb
  · rw [if_pos rfl, if_pos rfl]
    generalize hv : f_X2_mergedCell zb zo zt (nI (n / 8)) (nI (n % 8)) (mu (n % 8)) (iB (unl zb zo zt (n / 8) (n % 8))) = v
    have fr : ∀ (k : Nat) (t : Tr), k < 3 → tM k t mcF mwF mnF meA → tM k t mcF mwF mnF (upd meA (576 + n) v) := fun k t hk h => h.keep rfl rfl (fun _ _ => rfl) (fun r c hr2 hc2 => pk_un (by omega))
    have m0' := fr 0 _ (by decide) m0
    have m1' := fr 1 _ (by decide) m1
    have m2' := fr 2 _ (by decide) m2
    have iz' : tI (zm.1, zm.2.1, zm.2.2.1, upd zm.2.2.2 n v) := by
      have h1 := tI_putCell iz hr hc v
      rw [c_putCell hr hc, e, if_pos rfl, hix] at h1
      exact h1
    have c4 : ∀ r c, r < 24 → c < 8 → r * 8 + c < n + 1 → cel zm r c = true → upd meA (576 + n) v (576 + (r * 8 + c)) = upd zm.2.2.2 n v (r * 8 + c) := fun r c hr2 hc2 hlt hb => by
      by_cases w : r * 8 + c = n
      · rw [w, pk_us, pk_us]
      · rw [pk_un w, pk_un (by omega)]
        exact e4 r c hr2 hc2 (by omega) hb
    by_cases hu : mu (n % 8) = 0
    · have hu3 : ¬ mu (n % 8) = 3 := by rw [hu]; decide
      simp only [if_pos hu, m_atOdds (mu := mu) m0' m1' m2' hr hc hu3, ite_iB]
      cases eu : unl zb zo zt (n / 8) (n % 8)
      · rw [if_neg (show ¬ (false = true ∧ mu (n % 8) = 0) from fun w => by cases w.1), if_neg (show ¬ false = true by decide)]
        exact ⟨⟨m0', m1', m2'⟩, iz', e1, e2, e3, c4, el.mono (by omega)⟩
      · rw [if_pos (show true = true ∧ mu (n % 8) = 0 from ⟨rfl, hu⟩), if_pos (rfl : true = true)]
        have hcc : cel zo (n / 8) (n % 8) = true ∧ cel zt (n / 8) (n % 8) = true := by
          rw [unl, Bool.and_eq_true, Bool.and_eq_true] at eu
          exact ⟨eu.1, eu.2.1⟩
        exact ⟨⟨m0', m1', m2'⟩, iz', e1, e2, e3, c4, el.add (by omega) (eR_1 hr hc) (eF_1 hr hc hcc.1 hcc.2)⟩
    · rw [if_neg (show ¬ (unl zb zo zt (n / 8) (n % 8) = true ∧ mu (n % 8) = 0) from fun w => hu w.2), if_neg hu]
      exact ⟨⟨m0', m1', m2'⟩, iz', e1, e2, e3, c4, el.mono (by omega)⟩
theorem c_mergeCells (zm : Tr) (zl : Lr) : f_X2_mergeCells zb zo zt zm zu zl = it (fun (n : Nat) (y : Tr × Lr) => f_X2_mergeCell zb zo zt y.1 zu y.2 (nI (n / 8)) (nI (n % 8))) (zm, zl) 192 := by
  have hn := it_nest (g := fun (a b : Nat) (y : Tr × Lr) => f_X2_mergeCell zb zo zt y.1 zu y.2 (nI a) (nI b)) (s := (zm, zl)) 24
  rw [show (192 : Nat) = 8 * 24 from rfl, ← hn, f_X2_mergeCells]
  have h : it (fun (i9 : Nat) (z9 : Tr × Lr) => f_X2_mergeCells_sa zb zo zt zu i9 z9.1 z9.2) (zm, zl) 24 = it (fun (a : Nat) (x : Tr × Lr) => it (fun (b : Nat) (y : Tr × Lr) => f_X2_mergeCell zb zo zt y.1 zu y.2 (nI a) (nI b)) x 8) (zm, zl) 24 := it_cong (fun i _ x => by
    show f_X2_mergeCells_sa zb zo zt zu i x.1 x.2 = it (fun (b : Nat) (y : Tr × Lr) => f_X2_mergeCell zb zo zt y.1 zu y.2 (nI i) (nI b)) x 8
    obtain ⟨x1, x2⟩ := x
    have h2 : it (fun (i9 : Nat) (z9 : Tr × Lr) => f_X2_mergeCells_sb zb zo zt zu i i9 z9.1 z9.2) (x1, x2) 8 = it (fun (b : Nat) (y : Tr × Lr) => f_X2_mergeCell zb zo zt y.1 zu y.2 (nI i) (nI b)) (x1, x2) 8 := it_cong (fun j _ y => by
      show f_X2_mergeCells_sb zb zo zt zu i j y.1 y.2 = f_X2_mergeCell zb zo zt y.1 zu y.2 (nI i) (nI j)
      rw [f_X2_mergeCells_sb])
    rw [f_X2_mergeCells_sa, h2])
  rw [h]
/-! names twice -/
theorem nm_tw {zm : Tr} {mcF mnF : Nat → Int32} (iz : tI zm) (e1 : zm.1 = mcF 3) (e3 : ∀ c, c < 8 → bt zm.1 c = true → mnF (24 + c) = zm.2.2.1 c) {c : Nat} (hc : c < 8) : f_X2_hasNameOfLowerColumn zm c = if bt zm.1 c = true then f_X3_isDouble mcF mnF c else 0 := by
  rw [f_X2_hasNameOfLowerColumn, c_hasColumn hc, ite_iB]
  cases eb : bt zm.1 c
  · rfl
  · rw [if_pos rfl, if_pos rfl]
    have h1 : anyN (fun i => decide (¬ f_X1_hasColumn zm (nI i) = 0) && decide (f_X1_nameAt zm (nI i) = f_X1_nameAt zm (nI c))) c = anyN (fun i => bt zm.1 i && decide (zm.2.2.1 i = zm.2.2.1 c)) c := anyN_cong (fun i hi => by
      show (decide (¬ f_X1_hasColumn zm (nI i) = 0) && decide (f_X1_nameAt zm (nI i) = f_X1_nameAt zm (nI c))) = (bt zm.1 i && decide (zm.2.2.1 i = zm.2.2.1 c))
      rw [c_hasColumn (by omega), c_nameAt iz (by omega), c_nameAt iz hc, iB_n])
    have h2 : f_X3_isDouble mcF mnF c = iB (anyN (fun i => bt zm.1 i && decide (zm.2.2.1 i = zm.2.2.1 c)) c) := by
      rw [f_X3_isDouble, f_X3_isDouble_la]
      have h3 := it_or (g := fun (i9 : Nat) (z9 : Int32) => f_X3_isDouble_sa mcF mnF c i9 z9) (p := fun i => bt zm.1 i && decide (zm.2.2.1 i = zm.2.2.1 c)) false (n := c) (fun i hi z => by
        show f_X3_isDouble_sa mcF mnF c i (iB z) = iB (z || (bt zm.1 i && decide (zm.2.2.1 i = zm.2.2.1 c)))
        rw [f_X3_isDouble_sa, m_hasColumn (k := 3) I_3 (by decide) (by omega), ← e1, ite_iB, ix_k (k := 24) J_24 (by decide) (show i < 8 by omega), ix_k (k := 24) J_24 (by decide) hc]
        cases ei : bt zm.1 i
        · rw [if_neg (by decide)]; cases z <;> rfl
        · rw [if_pos rfl, e3 i (by omega) ei, e3 c hc eb]
          by_cases w : zm.2.2.1 i = zm.2.2.1 c
          · rw [if_pos w, decide_eq_true w]; cases z <;> rfl
          · rw [if_neg w, decide_eq_false w]; cases z <;> rfl)
      rw [Bool.false_or] at h3
      exact h3
    rw [h1, h2]
    rfl
theorem PT (zm : Tr) (iz : tI zm) (e1 : zm.1 = (f_X3_fills mc mw mn me (0, mz.2.1, mz.2.2.1, mz.2.2.2.1, mz.2.2.2.2)).1 3) (e3 : ∀ c, c < 8 → bt zm.1 c = true → (f_X3_fills mc mw mn me (0, mz.2.1, mz.2.2.1, mz.2.2.2.1, mz.2.2.2.2)).2.2.1 (24 + c) = zm.2.2.1 c) {zl : Lr} {mzA : Kr} (h : LE zo zt zl mzA 224) :
    LE zo zt (f_X2_listNamesTwice zm zl) (it (fun (i9 : Nat) (z9 : Kr) => f_X3_merge_sb mc mw mn me mz i9 z9) mzA 8) 232 := by
  rw [f_X2_listNamesTwice]
  refine it_rel (P := fun n (x : Lr) (y : Kr) => LE zo zt x y (224 + n)) (f := fun (i9 : Nat) (z9 : Lr) => f_X2_listNamesTwice_sa zm i9 z9) (g := fun (i9 : Nat) (z9 : Kr) => f_X3_merge_sb mc mw mn me mz i9 z9) h (n := 8) (fun i hi x y hxy => ?_)
  show LE zo zt (f_X2_listNamesTwice_sa zm i x) (f_X3_merge_sb mc mw mn me mz i y) (224 + (i + 1))
  have hxy : LE zo zt x y (224 + i) := hxy
  rw [f_X2_listNamesTwice_sa, f_X3_merge_sb, nm_tw iz e1 e3 hi, m_hasColumn (k := 3) I_3 (by decide) (by omega), ← e1, ite_iB]
  cases eb : bt zm.1 i
  · rw [if_neg (show ¬ false = true by decide), if_pos rfl, if_neg (by decide)]; exact hxy.mono (by omega)
  · rw [if_pos (rfl : true = true), if_pos rfl]
    by_cases w : f_X3_isDouble (f_X3_fills mc mw mn me (0, mz.2.1, mz.2.2.1, mz.2.2.2.1, mz.2.2.2.2)).1 (f_X3_fills mc mw mn me (0, mz.2.1, mz.2.2.1, mz.2.2.2.1, mz.2.2.2.2)).2.2.1 i = 0
    · rw [if_pos w, if_pos w]; exact hxy.mono (by omega)
    · rw [if_neg w, if_neg w]; exact hxy.add (by omega) eR_5 (eF_n (by decide) (by decide))
/-! lost references -/
theorem c_refs (zm : Tr) (zl : Lr) : f_X2_listReferencesToNoRow zm zr zl = it (fun (n : Nat) (y : Lr) => f_X2_listReferencesToNoRow_sb zm zr (n / 8) (n % 8) y) zl 192 := by
  have hn := it_nest (g := fun (a b : Nat) (y : Lr) => f_X2_listReferencesToNoRow_sb zm zr a b y) (s := zl) 24
  rw [show (192 : Nat) = 8 * 24 from rfl, ← hn, f_X2_listReferencesToNoRow]
  exact it_cong (fun i _ x => by
    show f_X2_listReferencesToNoRow_sa zm zr i x = _
    rw [f_X2_listReferencesToNoRow_sa])
theorem PL (zm : Tr) (iz : tI zm) (rr : ∀ c, c < 8 → zr c = mr c ∧ (mr c = 0 ∨ mr c = 1)) {meA : Nat → Int32} (hme : meA = (f_X3_merge_la mc mw mn me mu mz).1) (e1 : zm.1 = (f_X3_fills mc mw mn me (0, mz.2.1, mz.2.2.1, mz.2.2.2.1, mz.2.2.2.2)).1 3) (e2 : zm.2.1 = (f_X3_fills mc mw mn me (0, mz.2.1, mz.2.2.1, mz.2.2.2.1, mz.2.2.2.2)).2.1 3)
    (e4 : ∀ r c, r < 24 → c < 8 → cel zm r c = true → meA (576 + (r * 8 + c)) = zm.2.2.2 (r * 8 + c)) {zl : Lr} {mzA : Kr} (h : LE zo zt zl mzA 232) :
    LE zo zt (f_X2_listReferencesToNoRow zm zr zl) (it (fun (i9 : Nat) (z9 : Kr) => f_X3_merge_sc mc mw mn me mu mr mz i9 z9) mzA 192) 424 := by
  rw [c_refs]
  refine it_rel (P := fun n (x : Lr) (y : Kr) => LE zo zt x y (232 + n)) (f := fun (n : Nat) (y : Lr) => f_X2_listReferencesToNoRow_sb zm zr (n / 8) (n % 8) y) (g := fun (i9 : Nat) (z9 : Kr) => f_X3_merge_sc mc mw mn me mu mr mz i9 z9) h (n := 192) (fun n hn x y hxy => ?_)
  show LE zo zt (f_X2_listReferencesToNoRow_sb zm zr (n / 8) (n % 8) x) (f_X3_merge_sc mc mw mn me mu mr mz n y) (232 + (n + 1))
  have hxy : LE zo zt x y (232 + n) := hxy
  have hr : n / 8 < 24 := by omega
  have hc : n % 8 < 8 := by omega
  rw [f_X2_listReferencesToNoRow_sb, f_X3_merge_sc, ← hme]
  generalize (f_X3_fills mc mw mn me (0, mz.2.1, mz.2.2.1, mz.2.2.2.1, mz.2.2.2.2)).1 = mcF at e1 ⊢
  generalize (f_X3_fills mc mw mn me (0, mz.2.1, mz.2.2.1, mz.2.2.2.1, mz.2.2.2.2)).2.1 = mwF at e2 ⊢
  have ecel : f_X3_hasCell mcF mwF 3 (nI (n / 8)) (nI (n % 8)) = iB (cel zm (n / 8) (n % 8)) := by
    rw [f_X3_hasCell, m_hasRow (k := 3) I_3 (by decide) (by omega), m_hasColumn (k := 3) I_3 (by decide) (by omega), cel, ← e1, ← e2, ite_iB, ite_iB]
    cases bt zm.2.1 (n / 8) <;> cases bt zm.1 (n % 8) <;> rfl
  have key : (if cel zm (n / 8) (n % 8) = true then f_X3_isLost mwF meA mr (nI (n / 8)) (nI (n % 8)) else 0) = f_X2_refersToNoRow zm zr (nI (n / 8)) (nI (n % 8)) := by
    rw [f_X2_refersToNoRow, isCol_t (vp_in_nI hc (by decide)), if_neg (show ¬ (1 : Int32) = 0 by decide), nI_clamp (show n % 8 < 2 ^ 31 by omega), (rr _ hc).1, c_hasCell hr hc, c_cellAt iz hr hc, ite_iB, f_X3_isLost, nI_clamp (show n % 8 < 2 ^ 31 by omega)]
    cases e : cel zm (n / 8) (n % 8)
    · rw [if_neg (show ¬ false = true by decide), if_neg (show ¬ false = true by decide)]
      by_cases w : mr (n % 8) = 0
      · rw [if_pos w]
      · rw [if_neg w]
    · rw [if_pos rfl, if_pos rfl]
      have hat : f_X3_at meA 3 (nI (n / 8)) (nI (n % 8)) = zm.2.2.2 (n / 8 * 8 + n % 8) := by
        rw [f_X3_at, show (((192 : Int32) * 3 + 8 * nI (n / 8)) + nI (n % 8)).toNatClampNeg = 192 * 3 + 8 * (n / 8) + n % 8 from ix_3 (k := 3) (by decide) hr hc, ← e4 _ _ hr hc e]
        exact congrArg meA (by omega)
      rw [hat]
      generalize zm.2.2.2 (n / 8 * 8 + n % 8) = v
      by_cases w : mr (n % 8) = 0
      · rw [if_pos w, if_pos w]
      · rw [if_neg w, if_neg w]
        by_cases w2 : v = -1
        · rw [if_pos w2, if_pos w2]
        · rw [if_neg w2, if_neg w2]
          by_cases w3 : vp_in v 24
          · obtain ⟨j, hj, rfl⟩ := cl24 w3
            rw [isIn_t (v24 hj) (by decide) rfl J_23, if_neg (show ¬ (1 : Int32) = 0 by decide), m_hasRow (k := 3) I_3 (by decide) (by omega), ← e2, c_hasRow hj]
          · rw [isIn_f (n := 23) w3 (by decide) rfl J_23, if_pos rfl, c_hasRow_o w3, if_pos rfl]
  rw [ecel, ite_iB, ← key]
  cases e : cel zm (n / 8) (n % 8)
  · rw [if_neg (show ¬ false = true by decide), if_pos rfl, if_neg (by decide)]; exact hxy.mono (by omega)
  · rw [if_pos (rfl : true = true), if_pos rfl]
    by_cases w : f_X3_isLost mwF meA mr (nI (n / 8)) (nI (n % 8)) = 0
    · rw [if_pos w, if_pos w]; exact hxy.mono (by omega)
    · rw [if_neg w, if_neg w]; exact hxy.add (by omega) eR_6 (eF_n (by decide) (by decide))
/-! the whole of it -/
theorem p_eta {α β : Type} (p : α × β) : (p.1, p.2) = p := rfl
theorem fold_c (zm : Tr) (zl : Lr) : it (fun (i9 : Nat) (z9 : Tr × Lr) => f_X2_merge_sa zb zo zt i9 z9.1 z9.2) (zm, zl) 8 = it (fun (i : Nat) (x : Tr × Lr) => f_X2_mergeColumn zb zo zt x.1 x.2 (nI i)) (zm, zl) 8 := it_cong (fun i _ x => by
  show f_X2_merge_sa zb zo zt i x.1 x.2 = f_X2_mergeColumn zb zo zt x.1 x.2 (nI i)
  rw [f_X2_merge_sa])
theorem fold_r (s : Tr × Lr) : it (fun (i9 : Nat) (z9 : Tr × Lr) => f_X2_merge_sb zb zo zt i9 z9.1 z9.2) s 24 = it (fun (i : Nat) (x : Tr × Lr) => f_X2_mergeRow zb zo zt x.1 x.2 (nI i)) s 24 := it_cong (fun i _ x => by
  show f_X2_merge_sb zb zo zt i x.1 x.2 = f_X2_mergeRow zb zo zt x.1 x.2 (nI i)
  rw [f_X2_merge_sb])
def mg1 (zb zo zt zm : Tr) (zl : Lr) : Tr × Lr := it (fun (i : Nat) (x : Tr × Lr) => f_X2_mergeColumn zb zo zt x.1 x.2 (nI i)) (f_X1_becomeEmpty zm, f_X0_becomeEmpty zl) 8
def mg2 (zb zo zt zm : Tr) (zl : Lr) : Tr × Lr := it (fun (i : Nat) (x : Tr × Lr) => f_X2_mergeRow zb zo zt x.1 x.2 (nI i)) (mg1 zb zo zt zm zl) 24
def mg3 (zb zo zt zm : Tr) (zu : Nat → Int32) (zl : Lr) : Tr × Lr := it (fun (n : Nat) (y : Tr × Lr) => f_X2_mergeCell zb zo zt y.1 zu y.2 (nI (n / 8)) (nI (n % 8))) (mg2 zb zo zt zm zl) 192
def mg5 (zb zo zt zm : Tr) (zu zr : Nat → Int32) (zl : Lr) : Lr := f_X2_listReferencesToNoRow (mg3 zb zo zt zm zu zl).1 zr (f_X2_listNamesTwice (mg3 zb zo zt zm zu zl).1 (mg3 zb zo zt zm zu zl).2)
theorem c_merge (zm : Tr) (zl : Lr) : f_X2_merge zb zo zt zm zu zr zl = ((mg5 zb zo zt zm zu zr zl).1, (mg3 zb zo zt zm zu zl).1, mg5 zb zo zt zm zu zr zl, 1) := by
  rw [f_X2_merge]
  simp only [fold_c, fold_r, c_mergeCells, p_eta, mg5, mg3, mg2, mg1]
end Merge2
theorem pr4_1 {α β γ δ : Type} (a : α) (b : β) (c : γ) (d : δ) : (a, b, c, d).1 = a := rfl
theorem pr4_2 {α β γ δ : Type} (a : α) (b : β) (c : γ) (d : δ) : (a, b, c, d).2.1 = b := rfl
theorem pr4_3 {α β γ δ : Type} (a : α) (b : β) (c : γ) (d : δ) : (a, b, c, d).2.2.1 = c := rfl
theorem pr4_4 {α β γ δ : Type} (a : α) (b : β) (c : γ) (d : δ) : (a, b, c, d).2.2.2 = d := rfl
theorem fills_e {mc mw mn me : Nat → Int32} {mz : Kr} : f_X3_fills mc mw mn me mz = ((f_X3_fills_la mc mw mn me mz).1, (f_X3_fills_lb mc mw mn me mz).1, (f_X3_fills_la mc mw mn me mz).2.1, (f_X3_fills_lb mc mw mn me mz).2) := f_X3_fills.eq_1 mc mw mn me mz
theorem fills_1 {mc mw mn me : Nat → Int32} {mz : Kr} : (f_X3_fills mc mw mn me mz).1 = (f_X3_fills_la mc mw mn me mz).1 := (congrArg (fun z => z.1) fills_e).trans (pr4_1 _ _ _ _)
theorem fills_2 {mc mw mn me : Nat → Int32} {mz : Kr} : (f_X3_fills mc mw mn me mz).2.1 = (f_X3_fills_lb mc mw mn me mz).1 := (congrArg (fun z => z.2.1) fills_e).trans (pr4_2 _ _ _ _)
theorem fills_3 {mc mw mn me : Nat → Int32} {mz : Kr} : (f_X3_fills mc mw mn me mz).2.2.1 = (f_X3_fills_la mc mw mn me mz).2.1 := (congrArg (fun z => z.2.2.1) fills_e).trans (pr4_3 _ _ _ _)
theorem fills_4 {mc mw mn me : Nat → Int32} {mz : Kr} : (f_X3_fills mc mw mn me mz).2.2.2 = (f_X3_fills_lb mc mw mn me mz).2 := (congrArg (fun z => z.2.2.2) fills_e).trans (pr4_4 _ _ _ _)
section SMerge
variable {zb zo zt zm : Tr} {zu zr : Nat → Int32} {zl : Lr} {zf : Int32} {mc mw mn me mu mr : Nat → Int32} {mz : Kr} {mf : Int32}
theorem s_merge (R : Rl zb zo zt zm zu zr zl zf mc mw mn me mu mr mz mf) : (f_X2_merge zb zo zt zm zu zr zl).1 = (f_X3_merge mc mw mn me mu mr mz).1 ∧
    Rl zb zo zt (f_X2_merge zb zo zt zm zu zr zl).2.1 zu zr (f_X2_merge zb zo zt zm zu zr zl).2.2.1 (f_X2_merge zb zo zt zm zu zr zl).2.2.2 (f_X3_merge mc mw mn me mu mr mz).2.1 (f_X3_merge mc mw mn me mu mr mz).2.2.1 (f_X3_merge mc mw mn me mu mr mz).2.2.2.1 (f_X3_merge mc mw mn me mu mr mz).2.2.2.2.1 mu mr (f_X3_merge mc mw mn me mu mr mz).2.2.2.2.2.1 (f_X3_merge mc mw mn me mu mr mz).2.2.2.2.2.2.1 := by
  obtain ⟨⟨i0, i1, i2, i3⟩, ⟨m0, m1, m2, m3⟩, ru, rr, rl, re, rf, rq, rz⟩ := R
  obtain ⟨z1, z2, z3, z4⟩ := c_empty zm
  -- columns
  have P1 : PC zb zo zt (upd mw 3 0) me 8 (mg1 zb zo zt zm zl) (f_X3_fills_la mc mw mn me (0, mz.2.1, mz.2.2.1, mz.2.2.2.1, mz.2.2.2.2)) := by
    rw [mg1, f_X3_fills_la, cl3]
    refine it_rel (P := PC zb zo zt (upd mw 3 0) me) (f := fun (i : Nat) (x : Tr × Lr) => f_X2_mergeColumn zb zo zt x.1 x.2 (nI i)) (g := fun (i9 : Nat) (z9 : (Nat → Int32) × (Nat → Int32) × Kr) => f_X3_fills_sa mw me i9 z9.1 z9.2.1 z9.2.2) ?_ (n := 8) (fun i hi x y h => PC_step i0 i1 i2 hi h)
    have fr : ∀ (k : Nat) (t : Tr), k < 3 → tM k t mc mw mn me → tM k t (upd mc 3 0) (upd mw 3 0) mn me := fun k t hk h => h.keep (pk_un (by omega)) (pk_un (by omega)) (fun _ _ => rfl) (fun _ _ _ _ => rfl)
    refine ⟨⟨fr 0 _ (by decide) m0, fr 1 _ (by decide) m1, fr 2 _ (by decide) m2⟩, tI_empty zm, ?_, z2, fun c hc hb => ?_, z4, fun j _ => ?_, ?_⟩
    · show (f_X1_becomeEmpty zm).1 = upd mc 3 0 3
      rw [z1, pk_us]
    · have hb : bt (f_X1_becomeEmpty zm).1 c = true := hb
      rw [z1, b_0] at hb
      cases hb
    · show bt (f_X1_becomeEmpty zm).1 j = false
      rw [z1, b_0]
    · exact ⟨⟨rfl, Nat.zero_le _, fun i hi => absurd hi (Nat.not_lt_zero i), rfl⟩, Nat.le_refl 0, fun i hi => absurd hi (Nat.not_lt_zero i), fun i hi => absurd hi (Nat.not_lt_zero i)⟩
  -- rows
  have P2 : PR zb zo zt (f_X3_fills_la mc mw mn me (0, mz.2.1, mz.2.2.1, mz.2.2.2.1, mz.2.2.2.2)).1 (f_X3_fills_la mc mw mn me (0, mz.2.1, mz.2.2.1, mz.2.2.2.1, mz.2.2.2.2)).2.1 me 24 (mg2 zb zo zt zm zl) (f_X3_fills_lb mc mw mn me (0, mz.2.1, mz.2.2.1, mz.2.2.2.1, mz.2.2.2.2)) := by
    rw [mg2, f_X3_fills_lb, cl3]
    refine it_rel (P := PR zb zo zt (f_X3_fills_la mc mw mn me (0, mz.2.1, mz.2.2.1, mz.2.2.2.1, mz.2.2.2.2)).1 (f_X3_fills_la mc mw mn me (0, mz.2.1, mz.2.2.1, mz.2.2.2.1, mz.2.2.2.2)).2.1 me) (f := fun (i : Nat) (x : Tr × Lr) => f_X2_mergeRow zb zo zt x.1 x.2 (nI i)) (g := fun (i9 : Nat) (z9 : (Nat → Int32) × Kr) => f_X3_fills_sb mc mw mn me (0, mz.2.1, mz.2.2.1, mz.2.2.2.1, mz.2.2.2.2) i9 z9.1 z9.2) ?_ (n := 24) (fun i hi x y h => PR_step hi h)
    obtain ⟨pm, iz, p1, p2, p3, p4, -, pl⟩ := P1
    refine ⟨pm, iz, p1, ?_, p3, p4, pl⟩
    show (mg1 zb zo zt zm zl).1.2.1 = upd mw 3 0 3
    rw [p2, pk_us]
  -- cells
  have P3 : PX zb zo zt (f_X3_fills mc mw mn me (0, mz.2.1, mz.2.2.1, mz.2.2.2.1, mz.2.2.2.2)).1 (f_X3_fills mc mw mn me (0, mz.2.1, mz.2.2.1, mz.2.2.2.1, mz.2.2.2.2)).2.1 (f_X3_fills mc mw mn me (0, mz.2.1, mz.2.2.1, mz.2.2.2.1, mz.2.2.2.2)).2.2.1 192 (mg3 zb zo zt zm zu zl) (f_X3_merge_la mc mw mn me mu mz) := by
    rw [mg3, f_X3_merge_la]
    refine it_rel (P := PX zb zo zt (f_X3_fills mc mw mn me (0, mz.2.1, mz.2.2.1, mz.2.2.2.1, mz.2.2.2.2)).1 (f_X3_fills mc mw mn me (0, mz.2.1, mz.2.2.1, mz.2.2.2.1, mz.2.2.2.2)).2.1 (f_X3_fills mc mw mn me (0, mz.2.1, mz.2.2.1, mz.2.2.2.1, mz.2.2.2.2)).2.2.1) (f := fun (n : Nat) (y : Tr × Lr) => f_X2_mergeCell zb zo zt y.1 zu y.2 (nI (n / 8)) (nI (n % 8))) (g := fun (i9 : Nat) (z9 : (Nat → Int32) × Kr) => f_X3_merge_sa mc mw mn me mu mz i9 z9.1 z9.2) ?_ (n := 192) (fun n hn x y h => PX_step i0 i1 i2 ru hn h)
    obtain ⟨pm, iz, p1, p2, p3, p4, pl⟩ := P2
    rw [fills_1, fills_2, fills_3, fills_4]
    exact ⟨pm, iz, p1, p2, p3, fun r c _ _ h => absurd h (Nat.not_lt_zero _), pl⟩
  obtain ⟨⟨q0, q1, q2⟩, iz, p1, p2, p3, p4, pl⟩ := P3
  have p4' : ∀ r c, r < 24 → c < 8 → cel (mg3 zb zo zt zm zu zl).1 r c = true → (f_X3_merge_la mc mw mn me mu mz).1 (576 + (r * 8 + c)) = (mg3 zb zo zt zm zu zl).1.2.2.2 (r * 8 + c) := fun r c hr hc hb => p4 r c hr hc (by omega) hb
  have P4 := PT (mc := mc) (mw := mw) (mn := mn) (me := me) (mz := mz) _ iz p1 p3 pl
  have P5 := PL (mc := mc) (mw := mw) (mn := mn) (me := me) (mu := mu) (mz := mz) _ iz rr rfl p1 p2 p4' P4
  have hl5 : (f_X3_merge_lc mc mw mn me mu mr mz) = it (fun (i9 : Nat) (z9 : Kr) => f_X3_merge_sc mc mw mn me mu mr mz i9 z9) (it (fun (i9 : Nat) (z9 : Kr) => f_X3_merge_sb mc mw mn me mz i9 z9) (f_X3_merge_la mc mw mn me mu mz).2 8) 192 := by
    rw [f_X3_merge_lc, f_X3_merge_lb]
  have P6 : LE zo zt (mg5 zb zo zt zm zu zr zl) (f_X3_merge_lc mc mw mn me mu mr mz) 424 := by
    rw [hl5]; exact P5
  have eC := c_merge (zb := zb) (zo := zo) (zt := zt) (zu := zu) (zr := zr) zm zl
  have eM := f_X3_merge.eq_1 mc mw mn me mu mr mz
  clear P4 P5 hl5 p4
  generalize mg5 zb zo zt zm zu zr zl = B at eC P6
  generalize mg3 zb zo zt zm zu zl = A at eC iz p1 p2 p3 p4' pl
  generalize f_X3_merge_lc mc mw mn me mu mr mz = C at eM P6
  generalize f_X3_merge_la mc mw mn me mu mz = G at eM q0 q1 q2 p4' pl
  generalize f_X3_fills mc mw mn me (0, mz.2.1, mz.2.2.1, mz.2.2.2.1, mz.2.2.2.2) = F at eM q0 q1 q2 p1 p2 p3
  rw [eC, eM]
  refine ⟨P6.1.1, ⟨i0, i1, i2, iz⟩, ⟨q0, q1, q2, p1, p2, fun c hc hb => ?_, fun r c hr hc hb => ?_⟩, ru, rr, P6.1, P6.2.2.1, fun _ => P6.2.2.2, rfl, Or.inr rfl⟩
  · exact p3 c hc hb
  · rw [show 192 * 3 + 8 * r + c = 576 + (r * 8 + c) by omega]
    exact p4' r c hr hc hb
end SMerge
