/-! ===== merging in closed form: the table, and the conflicts as a list ===== -/
abbrev En : Type := Int32 × Int32 × Int32
def ap1 (z : Lr) (e : En) : Lr := f_X0_append z e.1 e.2.1 e.2.2
def aps (z : Lr) (E : List En) : Lr := E.foldl ap1 z
theorem aps_a (z : Lr) (E F : List En) : aps z (E ++ F) = aps (aps z E) F := by rw [aps, aps, aps, List.foldl_append]
def fl {α : Type} (f : Nat → List α) : Nat → List α
  | 0 => []
  | n + 1 => fl f n ++ f n
theorem fl_cong {α : Type} {f g : Nat → List α} : ∀ {n : Nat}, (∀ i, i < n → f i = g i) → fl f n = fl g n
  | 0, _ => rfl
  | n + 1, h => by rw [fl, fl, fl_cong (fun i hi => h i (Nat.lt_succ_of_lt hi)), h n (Nat.lt_succ_self n)]
theorem it_pair {τ : Type} {P : τ → Prop} {S : Nat → τ → τ} {E : Nat → List En} {F : Nat → τ × Lr → τ × Lr} {t : τ} {z : Lr} (h0 : P t) : ∀ {n : Nat}, (∀ i, i < n → ∀ x : τ × Lr, P x.1 → F i x = (S i x.1, aps x.2 (E i)) ∧ P (S i x.1)) → it F (t, z) n = (it S t n, aps z (fl E n)) ∧ P (it S t n)
  | 0, _ => ⟨rfl, h0⟩
  | n + 1, h => by
    obtain ⟨e1, e2⟩ := it_pair h0 (fun i hi => h i (Nat.lt_succ_of_lt hi))
    obtain ⟨e3, e4⟩ := h n (Nat.lt_succ_self n) (it S t n, aps z (fl E n)) e2
    refine ⟨?_, e4⟩
    show F n (it F (t, z) n) = (S n (it S t n), aps z (fl E n ++ E n))
    rw [e1, e3, aps_a]
theorem it_ap {E : Nat → List En} {F : Nat → Lr → Lr} {z : Lr} : ∀ {n : Nat}, (∀ i, i < n → ∀ x : Lr, F i x = aps x (E i)) → it F z n = aps z (fl E n)
  | 0, _ => rfl
  | n + 1, h => by
    show F n (it F z n) = aps z (fl E n ++ E n)
    rw [it_ap (fun i hi => h i (Nat.lt_succ_of_lt hi)), h n (Nat.lt_succ_self n), aps_a]
/-- both counts grow together -/
theorem aps_eq : ∀ (E : List En) (z : Lr), z.1 = z.2.1 → (aps z E).1 = (aps z E).2.1
  | [], _, h => h
  | e :: E, z, h => by
    refine aps_eq E (f_X0_append z e.1 e.2.1 e.2.2) ?_
    rw [f_X0_append]
    by_cases h1 : z.1 < 424
    · rw [if_pos h1]
      show z.1 + 1 = z.2.1 + 1
      rw [h]
    · rw [if_neg h1]
      exact h
section Closed
variable {zb zo zt : Tr} {zu zr : Nat → Int32}
def nmv (b o t : Tr) (c : Nat) : Int32 := if nmg b o t c = 2 then t.2.2.1 c else o.2.2.1 c
def mgv (b o t : Tr) (u : Nat → Int32) (r c : Nat) : Int32 := f_X2_mergedCell b o t (nI r) (nI c) (u c) (iB (unl b o t r c))
def eC (b o t : Tr) (c : Nat) : List En := if mgC b o t c = 0 then [] else (if mgC b o t c = 2 then [(3, -1, nI c)] else (if nmg b o t c = 0 then [(4, -1, nI c)] else []))
def sC (b o t : Tr) (c : Nat) (m : Tr) : Tr := if mgC b o t c = 0 then m else f_X1_putColumn m (nI c) (nmv b o t c)
def eRw (b o t : Tr) (r : Nat) : List En := if mgR b o t r = 2 then [(2, nI r, -1)] else []
def sRw (b o t : Tr) (r : Nat) (m : Tr) : Tr := if mgR b o t r = 0 then m else f_X1_putRow m (nI r)
def eX (b o t : Tr) (u : Nat → Int32) (m : Tr) (n : Nat) : List En := if cel m (n / 8) (n % 8) = true then (if (unl b o t (n / 8) (n % 8) = true ∧ u (n % 8) = 0) then [(1, nI (n / 8), nI (n % 8))] else []) else []
def sX (b o t : Tr) (u : Nat → Int32) (m : Tr) (n : Nat) (x : Tr) : Tr := if cel m (n / 8) (n % 8) = true then (x.1, x.2.1, x.2.2.1, upd x.2.2.2 n (mgv b o t u (n / 8) (n % 8))) else x
def eN (m : Tr) (c : Nat) : List En := if f_X2_hasNameOfLowerColumn m c = 0 then [] else [(5, -1, nI c)]
def eF (m : Tr) (zr : Nat → Int32) (n : Nat) : List En := if f_X2_refersToNoRow m zr (nI (n / 8)) (nI (n % 8)) = 0 then [] else [(6, nI (n / 8), nI (n % 8))]
def EL (b o t : Tr) (u r : Nat → Int32) (m : Tr) : List En := fl (eC b o t) 8 ++ fl (eRw b o t) 24 ++ fl (eX b o t u m) 192 ++ fl (eN m) 8 ++ fl (eF m r) 192
theorem f_C (i0 : tI zb) (i1 : tI zo) (i2 : tI zt) {c : Nat} (hc : c < 8) (x : Tr × Lr) : f_X2_mergeColumn zb zo zt x.1 x.2 (nI c) = (sC zb zo zt c x.1, aps x.2 (eC zb zo zt c)) := by
  rw [c_mergeColumn i0 i1 i2 hc, sC, eC, nmv]
  by_cases g : mgC zb zo zt c = 0
  · rw [if_pos g, if_pos g, if_pos g]; rfl
  · rw [if_neg g, if_neg g, if_neg g]
    by_cases g2 : mgC zb zo zt c = 2
    · rw [if_pos g2, if_pos g2]; rfl
    · rw [if_neg g2, if_neg g2]
      by_cases g3 : nmg zb zo zt c = 0
      · rw [if_pos g3, if_pos g3]; rfl
      · rw [if_neg g3, if_neg g3]; rfl
theorem f_R {r : Nat} (hr : r < 24) (x : Tr × Lr) : f_X2_mergeRow zb zo zt x.1 x.2 (nI r) = (sRw zb zo zt r x.1, aps x.2 (eRw zb zo zt r)) := by
  rw [c_mergeRow hr, sRw, eRw]
  by_cases g : mgR zb zo zt r = 0
  · rw [if_pos g, if_pos g, if_neg (show ¬ mgR zb zo zt r = 2 by rw [g]; decide)]; rfl
  · rw [if_neg g, if_neg g]
    by_cases g2 : mgR zb zo zt r = 2
    · rw [if_pos g2, if_pos g2]; rfl
    · rw [if_neg g2, if_neg g2]; rfl
theorem cel_same {x m : Tr} (h1 : x.1 = m.1) (h2 : x.2.1 = m.2.1) (r c : Nat) : cel x r c = cel m r c := by rw [cel, cel, h1, h2]
theorem f_X (i0 : tI zb) (i1 : tI zo) (i2 : tI zt) {n : Nat} (hn : n < 192) {m : Tr} (x : Tr × Lr) (h1 : x.1.1 = m.1) (h2 : x.1.2.1 = m.2.1) : f_X2_mergeCell zb zo zt x.1 zu x.2 (nI (n / 8)) (nI (n % 8)) = (sX zb zo zt zu m n x.1, aps x.2 (eX zb zo zt zu m n)) := by
  rw [c_mergeCell i0 i1 i2 (show n / 8 < 24 by omega) (show n % 8 < 8 by omega), sX, eX, cel_same h1 h2, show n / 8 * 8 + n % 8 = n by omega, mgv]
  by_cases g : cel m (n / 8) (n % 8) = true
  · rw [if_pos g, if_pos g, if_pos g]
    by_cases g2 : unl zb zo zt (n / 8) (n % 8) = true ∧ zu (n % 8) = 0
    · rw [if_pos g2, if_pos g2]; rfl
    · rw [if_neg g2, if_neg g2]; rfl
  · rw [if_neg g, if_neg g, if_neg g]; rfl
theorem sX_keep (b o t : Tr) (u : Nat → Int32) (m : Tr) (n : Nat) (x : Tr) : (sX b o t u m n x).1 = x.1 ∧ (sX b o t u m n x).2.1 = x.2.1 := by
  rw [sX]
  by_cases g : cel m (n / 8) (n % 8) = true
  · rw [if_pos g]; exact ⟨rfl, rfl⟩
  · rw [if_neg g]; exact ⟨rfl, rfl⟩
def T1 (b o t zm : Tr) : Tr := it (sC b o t) (f_X1_becomeEmpty zm) 8
def T2 (b o t zm : Tr) : Tr := it (sRw b o t) (T1 b o t zm) 24
def T3 (b o t zm : Tr) (u : Nat → Int32) : Tr := it (sX b o t u (T2 b o t zm)) (T2 b o t zm) 192
theorem T3_bits (b o t zm : Tr) (u : Nat → Int32) : (T3 b o t zm u).1 = (T2 b o t zm).1 ∧ (T3 b o t zm u).2.1 = (T2 b o t zm).2.1 :=
  it_inv (P := fun (_ : Nat) (x : Tr) => x.1 = (T2 b o t zm).1 ∧ x.2.1 = (T2 b o t zm).2.1) ⟨rfl, rfl⟩ (fun i _ x hx => ⟨(sX_keep b o t u (T2 b o t zm) i x).1.trans hx.1, (sX_keep b o t u (T2 b o t zm) i x).2.trans hx.2⟩)
theorem eX_cong {b o t : Tr} {u : Nat → Int32} {m m' : Tr} (h1 : m.1 = m'.1) (h2 : m.2.1 = m'.2.1) (n : Nat) : eX b o t u m n = eX b o t u m' n := by rw [eX, eX, cel_same h1 h2]
theorem l_two (m : Tr) (r : Nat → Int32) (X : Lr) : f_X2_listReferencesToNoRow m r (f_X2_listNamesTwice m X) = aps (aps X (fl (eN m) 8)) (fl (eF m r) 192) := by
  rw [c_refs, f_X2_listNamesTwice]
  rw [it_ap (E := eN m) (F := fun (i9 : Nat) (z9 : Lr) => f_X2_listNamesTwice_sa m i9 z9) (n := 8) (fun i _ x => by
    show f_X2_listNamesTwice_sa m i x = aps x (eN m i)
    rw [f_X2_listNamesTwice_sa, eN]
    by_cases g : f_X2_hasNameOfLowerColumn m i = 0
    · rw [if_pos g, if_pos g]; rfl
    · rw [if_neg g, if_neg g]; rfl)]
  rw [it_ap (E := eF m r) (F := fun (n : Nat) (y : Lr) => f_X2_listReferencesToNoRow_sb m r (n / 8) (n % 8) y) (n := 192) (fun i _ x => by
    show f_X2_listReferencesToNoRow_sb m r (i / 8) (i % 8) x = aps x (eF m r i)
    rw [f_X2_listReferencesToNoRow_sb, eF]
    by_cases g : f_X2_refersToNoRow m r (nI (i / 8)) (nI (i % 8)) = 0
    · rw [if_pos g, if_pos g]; rfl
    · rw [if_neg g, if_neg g]; rfl)]
theorem merge_eq (i0 : tI zb) (i1 : tI zo) (i2 : tI zt) (zm : Tr) (zl : Lr) : f_X2_merge zb zo zt zm zu zr zl = ((aps (f_X0_becomeEmpty zl) (EL zb zo zt zu zr (T3 zb zo zt zm zu))).1, T3 zb zo zt zm zu, aps (f_X0_becomeEmpty zl) (EL zb zo zt zu zr (T3 zb zo zt zm zu)), 1) := by
  have e1 : mg1 zb zo zt zm zl = (T1 zb zo zt zm, aps (f_X0_becomeEmpty zl) (fl (eC zb zo zt) 8)) :=
    (it_pair (P := fun _ => True) (S := sC zb zo zt) (E := eC zb zo zt) (F := fun (i : Nat) (x : Tr × Lr) => f_X2_mergeColumn zb zo zt x.1 x.2 (nI i)) (t := f_X1_becomeEmpty zm) (z := f_X0_becomeEmpty zl) trivial (n := 8) (fun i hi x _ => ⟨f_C i0 i1 i2 hi x, trivial⟩)).1
  have e2 : mg2 zb zo zt zm zl = (T2 zb zo zt zm, aps (aps (f_X0_becomeEmpty zl) (fl (eC zb zo zt) 8)) (fl (eRw zb zo zt) 24)) := by
    rw [mg2, e1]
    exact (it_pair (P := fun _ => True) (S := sRw zb zo zt) (E := eRw zb zo zt) (F := fun (i : Nat) (x : Tr × Lr) => f_X2_mergeRow zb zo zt x.1 x.2 (nI i)) (t := T1 zb zo zt zm) trivial (n := 24) (fun i hi x _ => ⟨f_R hi x, trivial⟩)).1
  have e3 : mg3 zb zo zt zm zu zl = (T3 zb zo zt zm zu, aps (aps (aps (f_X0_becomeEmpty zl) (fl (eC zb zo zt) 8)) (fl (eRw zb zo zt) 24)) (fl (eX zb zo zt zu (T2 zb zo zt zm)) 192)) := by
    rw [mg3, e2]
    exact (it_pair (P := fun x : Tr => x.1 = (T2 zb zo zt zm).1 ∧ x.2.1 = (T2 zb zo zt zm).2.1) (S := sX zb zo zt zu (T2 zb zo zt zm)) (E := eX zb zo zt zu (T2 zb zo zt zm)) (F := fun (n : Nat) (y : Tr × Lr) => f_X2_mergeCell zb zo zt y.1 zu y.2 (nI (n / 8)) (nI (n % 8))) (t := T2 zb zo zt zm) ⟨rfl, rfl⟩ (n := 192) (fun i hi x hx => ⟨f_X i0 i1 i2 hi x hx.1 hx.2, (sX_keep zb zo zt zu (T2 zb zo zt zm) i x.1).1.trans hx.1, (sX_keep zb zo zt zu (T2 zb zo zt zm) i x.1).2.trans hx.2⟩)).1
  obtain ⟨b1, b2⟩ := T3_bits zb zo zt zm zu
  have e4 : fl (eX zb zo zt zu (T2 zb zo zt zm)) 192 = fl (eX zb zo zt zu (T3 zb zo zt zm zu)) 192 := fl_cong (fun i _ => eX_cong b1.symm b2.symm i)
  have e5 : mg5 zb zo zt zm zu zr zl = aps (f_X0_becomeEmpty zl) (EL zb zo zt zu zr (T3 zb zo zt zm zu)) := by
    rw [mg5, e3, e4, EL, aps_a, aps_a, aps_a, aps_a]
    generalize T3 zb zo zt zm zu = m
    generalize aps (aps (aps (f_X0_becomeEmpty zl) (fl (eC zb zo zt) 8)) (fl (eRw zb zo zt) 24)) (fl (eX zb zo zt zu m) 192) = X
    exact l_two m zr X
  rw [c_merge, e5, e3]
/-! what the merged table is -/
def MM (b o t : Tr) (u : Nat → Int32) (m : Tr) : Prop := tI m ∧ (∀ c, c < 8 → bt m.1 c = decide (¬ mgC b o t c = 0)) ∧ (∀ r, r < 24 → bt m.2.1 r = decide (¬ mgR b o t r = 0)) ∧ (∀ c, c < 8 → bt m.1 c = true → m.2.2.1 c = nmv b o t c) ∧ ∀ r c, r < 24 → c < 8 → m.2.2.2 (r * 8 + c) = if cel m r c = true then mgv b o t u r c else 0
theorem dlt {c i : Nat} (h : c ≠ i) : decide (c < i + 1) = decide (c < i) := by
  by_cases w : c < i
  · rw [decide_eq_true w, decide_eq_true (by omega)]
  · rw [decide_eq_false w, decide_eq_false (by omega)]
theorem T1_ok (b o t zm : Tr) : tI (T1 b o t zm) ∧ (T1 b o t zm).2.1 = 0 ∧ (∀ c, c < 8 → bt (T1 b o t zm).1 c = decide (¬ mgC b o t c = 0)) ∧ (∀ c, c < 8 → bt (T1 b o t zm).1 c = true → (T1 b o t zm).2.2.1 c = nmv b o t c) ∧ ∀ r c, r < 24 → c < 8 → (T1 b o t zm).2.2.2 (r * 8 + c) = 0 := by
  obtain ⟨q1, q2, q3, q4⟩ := c_empty zm
  have h := it_inv (P := fun (i : Nat) (x : Tr) => tI x ∧ x.2.1 = 0 ∧ (∀ c, c < 8 → bt x.1 c = (decide (c < i) && decide (¬ mgC b o t c = 0))) ∧ (∀ c, c < 8 → bt x.1 c = true → x.2.2.1 c = nmv b o t c) ∧ ∀ r c, r < 24 → c < 8 → x.2.2.2 (r * 8 + c) = 0) (f := sC b o t) (s := f_X1_becomeEmpty zm)
    ⟨tI_empty zm, q2, fun c _ => by rw [q1, b_0]; rfl, fun c _ hb => (by rw [q1, b_0] at hb; cases hb), q4⟩ (n := 8) (fun i hi x hx => by
      obtain ⟨h1, h2, h3, h4, h5⟩ := hx
      show tI (sC b o t i x) ∧ _
      rw [sC]
      by_cases g : mgC b o t i = 0
      · rw [if_pos g]
        refine ⟨h1, h2, fun c hc => ?_, h4, h5⟩
        rw [h3 c hc]
        by_cases w : c = i
        · rw [w, decide_eq_false (show ¬ ¬ mgC b o t i = 0 from fun z => z g), Bool.and_false, Bool.and_false]
        · rw [dlt w]
      · rw [if_neg g]
        have hb : bt x.1 i = false := by rw [h3 i hi, decide_eq_false (Nat.lt_irrefl i)]; rfl
        refine ⟨tI_putColumn h1 hi (nmv b o t i) hb, ?_, fun c hc => ?_, fun c hc hbc => ?_, fun r c hr hc => ?_⟩
        · rw [c_putColumn hi]; exact h2
        · rw [c_putColumn hi]
          show bt (x.1 ||| ((1 : Int32) <<< (nI i &&& 31))) c = _
          rw [b_or, b_bit (by omega), h3 c hc]
          by_cases w : c = i
          · rw [w, decide_eq_true (rfl : i = i), Bool.or_true, decide_eq_true (Nat.lt_succ_self i), decide_eq_true g]; rfl
          · rw [decide_eq_false w, Bool.or_false, dlt w]
        · rw [c_putColumn hi] at hbc ⊢
          show upd x.2.2.1 i (nmv b o t i) c = nmv b o t c
          by_cases w : c = i
          · rw [w, pk_us]
          · rw [pk_un w]
            exact h4 c hc (((bt_or (by omega)).mp hbc).resolve_right w)
        · rw [c_putColumn hi]; exact h5 r c hr hc)
  obtain ⟨h1, h2, h3, h4, h5⟩ := h
  exact ⟨h1, h2, fun c hc => (h3 c hc).trans (by rw [decide_eq_true hc]; rfl), h4, h5⟩
theorem T2_ok (b o t zm : Tr) : tI (T2 b o t zm) ∧ (T2 b o t zm).1 = (T1 b o t zm).1 ∧ (T2 b o t zm).2.2.1 = (T1 b o t zm).2.2.1 ∧ (∀ r, r < 24 → bt (T2 b o t zm).2.1 r = decide (¬ mgR b o t r = 0)) ∧ ∀ r c, r < 24 → c < 8 → (T2 b o t zm).2.2.2 (r * 8 + c) = 0 := by
  obtain ⟨q1, q2, q3, q4, q5⟩ := T1_ok b o t zm
  have h := it_inv (P := fun (i : Nat) (x : Tr) => tI x ∧ x.1 = (T1 b o t zm).1 ∧ x.2.2.1 = (T1 b o t zm).2.2.1 ∧ (∀ r, r < 24 → bt x.2.1 r = (decide (r < i) && decide (¬ mgR b o t r = 0))) ∧ ∀ r c, r < 24 → c < 8 → x.2.2.2 (r * 8 + c) = 0) (f := sRw b o t) (s := T1 b o t zm)
    ⟨q1, rfl, rfl, fun r _ => by rw [q2, b_0]; rfl, q5⟩ (n := 24) (fun i hi x hx => by
      obtain ⟨h1, h2, h3, h4, h5⟩ := hx
      show tI (sRw b o t i x) ∧ _
      rw [sRw]
      by_cases g : mgR b o t i = 0
      · rw [if_pos g]
        refine ⟨h1, h2, h3, fun r hr => ?_, h5⟩
        rw [h4 r hr]
        by_cases w : r = i
        · rw [w, decide_eq_false (show ¬ ¬ mgR b o t i = 0 from fun z => z g), Bool.and_false, Bool.and_false]
        · rw [dlt w]
      · rw [if_neg g]
        refine ⟨tI_putRow h1 hi, ?_, ?_, fun r hr => ?_, fun r c hr hc => ?_⟩
        · rw [c_putRow hi]; exact h2
        · rw [c_putRow hi]; exact h3
        · rw [c_putRow hi]
          show bt (x.2.1 ||| ((1 : Int32) <<< (nI i &&& 31))) r = _
          rw [b_or, b_bit (by omega), h4 r hr]
          by_cases w : r = i
          · rw [w, decide_eq_true (rfl : i = i), Bool.or_true, decide_eq_true (Nat.lt_succ_self i), decide_eq_true g]; rfl
          · rw [decide_eq_false w, Bool.or_false, dlt w]
        · rw [c_putRow hi]; exact h5 r c hr hc)
  obtain ⟨h1, h2, h3, h4, h5⟩ := h
  exact ⟨h1, h2, h3, fun r hr => (h4 r hr).trans (by rw [decide_eq_true hr]; rfl), h5⟩
theorem MM_T3 (b o t zm : Tr) (u : Nat → Int32) : MM b o t u (T3 b o t zm u) := by
  obtain ⟨q1, q2, q3, q4, q5⟩ := T1_ok b o t zm
  obtain ⟨p1, p2, p3, p4, p5⟩ := T2_ok b o t zm
  have h := it_inv (P := fun (i : Nat) (x : Tr) => tI x ∧ x.1 = (T2 b o t zm).1 ∧ x.2.1 = (T2 b o t zm).2.1 ∧ x.2.2.1 = (T2 b o t zm).2.2.1 ∧ ∀ r c, r < 24 → c < 8 → x.2.2.2 (r * 8 + c) = if (cel (T2 b o t zm) r c = true ∧ r * 8 + c < i) then mgv b o t u r c else 0) (f := sX b o t u (T2 b o t zm)) (s := T2 b o t zm)
    ⟨p1, rfl, rfl, rfl, fun r c hr hc => by rw [if_neg (fun z => absurd z.2 (Nat.not_lt_zero _))]; exact p5 r c hr hc⟩ (n := 192) (fun i hi x hx => by
      obtain ⟨h1, h2, h3, h4, h5⟩ := hx
      have hr9 : i / 8 < 24 := by omega
      have hc9 : i % 8 < 8 := by omega
      have e9 : i / 8 * 8 + i % 8 = i := by omega
      show tI (sX b o t u (T2 b o t zm) i x) ∧ _
      rw [sX]
      by_cases g : cel (T2 b o t zm) (i / 8) (i % 8) = true
      · rw [if_pos g]
        refine ⟨?_, h2, h3, h4, fun r c hr hc => ?_⟩
        · have z := tI_putCell h1 hr9 hc9 (mgv b o t u (i / 8) (i % 8))
          rw [c_putCell hr9 hc9, cel_same h2 h3, if_pos g, e9] at z
          exact z
        · show upd x.2.2.2 i (mgv b o t u (i / 8) (i % 8)) (r * 8 + c) = _
          by_cases w : r * 8 + c = i
          · have w1 : i / 8 = r := by omega
            have w2 : i % 8 = c := by omega
            rw [w1, w2] at g
            rw [w, pk_us, w1, w2, if_pos ⟨g, Nat.lt_succ_self i⟩]
          · rw [pk_un w, h5 r c hr hc]
            by_cases v : cel (T2 b o t zm) r c = true ∧ r * 8 + c < i
            · rw [if_pos v, if_pos ⟨v.1, by omega⟩]
            · rw [if_neg v, if_neg (fun z => v ⟨z.1, by omega⟩)]
      · rw [if_neg g]
        refine ⟨h1, h2, h3, h4, fun r c hr hc => ?_⟩
        rw [h5 r c hr hc]
        by_cases w : r * 8 + c = i
        · have w1 : i / 8 = r := by omega
          have w2 : i % 8 = c := by omega
          rw [w1, w2] at g
          rw [if_neg (fun z => g z.1), if_neg (fun z => g z.1)]
        · by_cases v : cel (T2 b o t zm) r c = true ∧ r * 8 + c < i
          · rw [if_pos v, if_pos ⟨v.1, by omega⟩]
          · rw [if_neg v, if_neg (fun z => v ⟨z.1, by omega⟩)])
  obtain ⟨h1, h2, h3, h4, h5⟩ := h
  have h1 : tI (T3 b o t zm u) := h1
  have h2 : (T3 b o t zm u).1 = (T2 b o t zm).1 := h2
  have h3 : (T3 b o t zm u).2.1 = (T2 b o t zm).2.1 := h3
  have h4 : (T3 b o t zm u).2.2.1 = (T2 b o t zm).2.2.1 := h4
  refine ⟨h1, fun c hc => ?_, fun r hr => ?_, fun c hc hb => ?_, fun r c hr hc => ?_⟩
  · rw [h2, p2]; exact q3 c hc
  · rw [h3]; exact p4 r hr
  · rw [h4, p3]
    rw [h2, p2] at hb
    exact q4 c hc hb
  · rw [cel_same h2 h3]
    refine (h5 r c hr hc).trans ?_
    by_cases v : cel (T2 b o t zm) r c = true
    · rw [if_pos v, if_pos ⟨v, by omega⟩]
    · rw [if_neg v, if_neg (fun z => v z.1)]
/-- .. its names apart -/
def MW (b o t : Tr) (u : Nat → Int32) (m : Tr) : Prop := tI m ∧ (∀ c, c < 8 → bt m.1 c = decide (¬ mgC b o t c = 0)) ∧ (∀ r, r < 24 → bt m.2.1 r = decide (¬ mgR b o t r = 0)) ∧ ∀ r c, r < 24 → c < 8 → m.2.2.2 (r * 8 + c) = if cel m r c = true then mgv b o t u r c else 0
theorem MM.w {b o t : Tr} {u : Nat → Int32} {m : Tr} (h : MM b o t u m) : MW b o t u m := ⟨h.1, h.2.1, h.2.2.1, h.2.2.2.2⟩
/-- the other way to a cell -/
theorem by_MW (i0 : tI zb) (i1 : tI zo) (i2 : tI zt) {m : Tr} (M : MW zb zo zt zu m) {r c : Nat} (hr : r < 24) (hc : c < 8) : f_X2_cellByChanges zb zo zt zu (nI r) (nI c) = if cel m r c = true then m.2.2.2 (r * 8 + c) else 0 := by
  obtain ⟨m1, m2, m3, m5⟩ := M
  have hb := c_byCell i0 i1 i2 hr hc (zu c)
  have e1 : decide (0 < mgR zb zo zt r) = bt m.2.1 r := by
    rw [m3 r hr]
    by_cases w : mgR zb zo zt r = 0
    · rw [w]; rfl
    · rw [decide_eq_true w, decide_eq_true (Nat.pos_of_ne_zero w)]
  have e2 : decide (0 < mgC zb zo zt c) = bt m.1 c := by
    rw [m2 c hc]
    by_cases w : mgC zb zo zt c = 0
    · rw [w]; rfl
    · rw [decide_eq_true w, decide_eq_true (Nat.pos_of_ne_zero w)]
  rw [f_X2_cellByChanges, rqKey_t (vp_in_nI hr (by decide)), rqCol_t (vp_in_nI hc (by decide)), if_pos (rfl : (0 : Nat) = 0), if_pos (rfl : (0 : Nat) = 0), c_rowStaysBy hr, c_columnStaysBy i0 i1 i2 hc, nI_clamp (show c < 2 ^ 31 by omega), hb, e1, e2, ite_iB, ite_iB, m5 r c hr hc, mgv]
  show _ = if (bt m.2.1 r && bt m.1 c) = true then (if (bt m.2.1 r && bt m.1 c) = true then _ else 0) else 0
  cases bt m.2.1 r
  · rfl
  · cases bt m.1 c
    · rfl
    · rfl
end Closed
