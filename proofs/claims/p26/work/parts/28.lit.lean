/-! ===== literal states: what can be reckoned out ===== -/
def allN (P : Nat → Bool) : Nat → Bool
  | 0 => true
  | n + 1 => P n && allN P n
theorem allN_of {P : Nat → Bool} : ∀ {n : Nat}, allN P n = true → ∀ i, i < n → P i = true
  | 0, _, i, hi => absurd hi (Nat.not_lt_zero i)
  | n + 1, h, i, hi => by
    rw [allN, Bool.and_eq_true] at h
    rcases Nat.lt_or_ge i n with q | q
    · exact allN_of h.2 i q
    · rw [show i = n by omega]; exact h.1
/-- the same on all that a heap shows -/
def tE (a b : Tr) : Prop := a.1 = b.1 ∧ a.2.1 = b.2.1 ∧ (∀ c, c < 8 → a.2.2.1 c = b.2.2.1 c) ∧ ∀ n, n < 192 → a.2.2.2 n = b.2.2.2 n
def aE (N : Nat) (f g : Nat → Int32) : Prop := ∀ i, i < N → f i = g i
def lE (a b : Lr) : Prop := a.1 = b.1 ∧ a.2.1 = b.2.1 ∧ aE 424 a.2.2.1 b.2.2.1 ∧ aE 424 a.2.2.2.1 b.2.2.2.1 ∧ aE 424 a.2.2.2.2.1 b.2.2.2.2.1 ∧ aE 424 a.2.2.2.2.2 b.2.2.2.2.2
theorem tE.rf {a : Tr} : tE a a := ⟨rfl, rfl, fun _ _ => rfl, fun _ _ => rfl⟩
theorem aE.rf {N : Nat} {f : Nat → Int32} : aE N f f := fun _ _ => rfl
theorem lE.rf {a : Lr} : lE a a := ⟨rfl, rfl, aE.rf, aE.rf, aE.rf, aE.rf⟩
theorem tE.tr {a b c : Tr} (h : tE a b) (k : tE b c) : tE a c := ⟨h.1.trans k.1, h.2.1.trans k.2.1, fun i hi => (h.2.2.1 i hi).trans (k.2.2.1 i hi), fun i hi => (h.2.2.2 i hi).trans (k.2.2.2 i hi)⟩
def aB (N : Nat) (f g : Nat → Int32) : Bool := allN (fun i => decide (f i = g i)) N
def tB (a b : Tr) : Bool := decide (a.1 = b.1) && (decide (a.2.1 = b.2.1) && (aB 8 a.2.2.1 b.2.2.1 && aB 192 a.2.2.2 b.2.2.2))
def lB (a b : Lr) : Bool := decide (a.1 = b.1) && (decide (a.2.1 = b.2.1) && (aB 424 a.2.2.1 b.2.2.1 && (aB 424 a.2.2.2.1 b.2.2.2.1 && (aB 424 a.2.2.2.2.1 b.2.2.2.2.1 && aB 424 a.2.2.2.2.2 b.2.2.2.2.2))))
theorem aB_of {N : Nat} {f g : Nat → Int32} (h : aB N f g = true) : aE N f g := fun i hi => of_decide_eq_true (allN_of h i hi)
theorem tB_of {a b : Tr} (h : tB a b = true) : tE a b := by
  rw [tB, Bool.and_eq_true, Bool.and_eq_true, Bool.and_eq_true] at h
  exact ⟨of_decide_eq_true h.1, of_decide_eq_true h.2.1, aB_of h.2.2.1, aB_of h.2.2.2⟩
theorem lB_of {a b : Lr} (h : lB a b = true) : lE a b := by
  rw [lB, Bool.and_eq_true, Bool.and_eq_true, Bool.and_eq_true, Bool.and_eq_true, Bool.and_eq_true] at h
  exact ⟨of_decide_eq_true h.1, of_decide_eq_true h.2.1, aB_of h.2.2.1, aB_of h.2.2.2.1, aB_of h.2.2.2.2.1, aB_of h.2.2.2.2.2⟩
theorem bt_hi {x : Int32} {n i : Nat} (h : x.toBitVec.toNat < 2 ^ n) (hi : n ≤ i) : bt x i = false :=
  Nat.testBit_lt_two_pow (Nat.lt_of_lt_of_le h (Nat.pow_le_pow_right (by decide) hi))
/-- a table as the class keeps it -/
def tIB (t : Tr) : Bool := decide (t.1.toBitVec.toNat < 256) && (decide (t.2.1.toBitVec.toNat < 16777216) && (allN (fun c => bt t.1 c || decide (t.2.2.1 c = 0)) 8 && allN (fun n => cel t (n / 8) (n % 8) || decide (t.2.2.2 n = 0)) 192))
theorem tIB_of {t : Tr} (h : tIB t = true) : tI t := by
  rw [tIB, Bool.and_eq_true, Bool.and_eq_true, Bool.and_eq_true] at h
  refine ⟨fun i hi => bt_hi (n := 8) (of_decide_eq_true h.1) hi, fun i hi => bt_hi (n := 24) (of_decide_eq_true h.2.1) hi, fun c hc hb => ?_, fun r c hr hc hb => ?_⟩
  · have z : (bt t.1 c || decide (t.2.2.1 c = 0)) = true := allN_of h.2.2.1 c hc
    rw [hb, Bool.false_or] at z
    exact of_decide_eq_true z
  · have z : (cel t ((r * 8 + c) / 8) ((r * 8 + c) % 8) || decide (t.2.2.2 (r * 8 + c) = 0)) = true := allN_of h.2.2.2 (r * 8 + c) (by omega)
    rw [show (r * 8 + c) / 8 = r by omega, show (r * 8 + c) % 8 = c by omega, hb, Bool.false_or] at z
    exact of_decide_eq_true z
/-- a table as merging makes it -/
def mmB (b o t : Tr) (u : Nat → Int32) (m : Tr) : Bool := tIB m && (allN (fun c => decide (bt m.1 c = decide (¬ mgC b o t c = 0)) && (!(bt m.1 c) || decide (m.2.2.1 c = nmv b o t c))) 8 && (allN (fun r => decide (bt m.2.1 r = decide (¬ mgR b o t r = 0))) 24 && allN (fun n => if cel m (n / 8) (n % 8) = true then decide (m.2.2.2 n = mgv b o t u (n / 8) (n % 8)) else decide (m.2.2.2 n = 0)) 192))
theorem mmB_of {b o t : Tr} {u : Nat → Int32} {m : Tr} (h : mmB b o t u m = true) : MM b o t u m := by
  rw [mmB, Bool.and_eq_true, Bool.and_eq_true, Bool.and_eq_true] at h
  obtain ⟨h1, h2, h3, h4⟩ := h
  refine ⟨tIB_of h1, fun c hc => ?_, fun r hr => ?_, fun c hc hb => ?_, fun r c hr hc => ?_⟩
  · have z : (decide (bt m.1 c = decide (¬ mgC b o t c = 0)) && (!(bt m.1 c) || decide (m.2.2.1 c = nmv b o t c))) = true := allN_of h2 c hc
    rw [Bool.and_eq_true] at z
    exact of_decide_eq_true z.1
  · exact of_decide_eq_true (allN_of h3 r hr)
  · have z : (decide (bt m.1 c = decide (¬ mgC b o t c = 0)) && (!(bt m.1 c) || decide (m.2.2.1 c = nmv b o t c))) = true := allN_of h2 c hc
    rw [Bool.and_eq_true, hb] at z
    exact of_decide_eq_true z.2
  · have z : (if cel m ((r * 8 + c) / 8) ((r * 8 + c) % 8) = true then decide (m.2.2.2 (r * 8 + c) = mgv b o t u ((r * 8 + c) / 8) ((r * 8 + c) % 8)) else decide (m.2.2.2 (r * 8 + c) = 0)) = true := allN_of h4 (r * 8 + c) (by omega)
    rw [show (r * 8 + c) / 8 = r by omega, show (r * 8 + c) % 8 = c by omega] at z
    by_cases g : cel m r c = true
    · rw [if_pos g] at z ⊢; exact of_decide_eq_true z
    · rw [if_neg g] at z ⊢; exact of_decide_eq_true z
def mwB (b o t : Tr) (u : Nat → Int32) (m : Tr) : Bool := tIB m && (allN (fun c => decide (bt m.1 c = decide (¬ mgC b o t c = 0))) 8 && (allN (fun r => decide (bt m.2.1 r = decide (¬ mgR b o t r = 0))) 24 && allN (fun n => if cel m (n / 8) (n % 8) = true then decide (m.2.2.2 n = mgv b o t u (n / 8) (n % 8)) else decide (m.2.2.2 n = 0)) 192))
theorem mwB_of {b o t : Tr} {u : Nat → Int32} {m : Tr} (h : mwB b o t u m = true) : MW b o t u m := by
  rw [mwB, Bool.and_eq_true, Bool.and_eq_true, Bool.and_eq_true] at h
  obtain ⟨h1, h2, h3, h4⟩ := h
  refine ⟨tIB_of h1, fun c hc => of_decide_eq_true (allN_of h2 c hc), fun r hr => of_decide_eq_true (allN_of h3 r hr), fun r c hr hc => ?_⟩
  have z : (if cel m ((r * 8 + c) / 8) ((r * 8 + c) % 8) = true then decide (m.2.2.2 (r * 8 + c) = mgv b o t u ((r * 8 + c) / 8) ((r * 8 + c) % 8)) else decide (m.2.2.2 (r * 8 + c) = 0)) = true := allN_of h4 (r * 8 + c) (by omega)
  rw [show (r * 8 + c) / 8 = r by omega, show (r * 8 + c) % 8 = c by omega] at z
  by_cases g : cel m r c = true
  · rw [if_pos g] at z ⊢; exact of_decide_eq_true z
  · rw [if_neg g] at z ⊢; exact of_decide_eq_true z
theorem MM_E {b o t : Tr} {u : Nat → Int32} {m m' : Tr} (h : MM b o t u m) (k : MM b o t u m') : tE m m' := by
  obtain ⟨h1, h2, h3, h4, h5⟩ := h
  obtain ⟨k1, k2, k3, k4, k5⟩ := k
  have e1 : m.1 = m'.1 := b_ext (fun i _ => by
    rcases Nat.lt_or_ge i 8 with q | q
    · rw [h2 i q, k2 i q]
    · rw [h1.1 i q, k1.1 i q])
  have e2 : m.2.1 = m'.2.1 := b_ext (fun i _ => by
    rcases Nat.lt_or_ge i 24 with q | q
    · rw [h3 i q, k3 i q]
    · rw [h1.2.1 i q, k1.2.1 i q])
  refine ⟨e1, e2, fun c hc => ?_, fun n hn => ?_⟩
  · cases g : bt m.1 c
    · rw [h1.2.2.1 c hc g, k1.2.2.1 c hc (by rw [← e1]; exact g)]
    · rw [h4 c hc g, k4 c hc (by rw [← e1]; exact g)]
  · have w := h5 (n / 8) (n % 8) (by omega) (by omega)
    have v := k5 (n / 8) (n % 8) (by omega) (by omega)
    rw [show n / 8 * 8 + n % 8 = n by omega] at w v
    rw [w, v, cel_same e1 e2]
theorem hn_eq {m : Tr} (h : tI m) {c : Nat} (hc : c < 8) : f_X2_hasNameOfLowerColumn m c = iB (bt m.1 c && anyN (fun i => bt m.1 i && decide (m.2.2.1 i = m.2.2.1 c)) c) := by
  rw [f_X2_hasNameOfLowerColumn, c_hasColumn hc, ite_iB]
  cases eb : bt m.1 c
  · rfl
  · rw [if_pos rfl, anyN_cong (q := fun i => bt m.1 i && decide (m.2.2.1 i = m.2.2.1 c)) (fun i hi => by
      show (decide (¬ f_X1_hasColumn m (nI i) = 0) && decide (f_X1_nameAt m (nI i) = f_X1_nameAt m (nI c))) = (bt m.1 i && decide (m.2.2.1 i = m.2.2.1 c))
      rw [c_hasColumn (by omega), c_nameAt h (by omega), c_nameAt h hc, iB_n])]
    rfl
theorem rf_eq {m : Tr} (h : tI m) (zr : Nat → Int32) {r c : Nat} (hr : r < 24) (hc : c < 8) : f_X2_refersToNoRow m zr (nI r) (nI c) = if zr c = 0 then 0 else (if cel m r c = true then (if m.2.2.2 (r * 8 + c) = -1 then 0 else (if f_X1_hasRow m (m.2.2.2 (r * 8 + c)) = 0 then 1 else 0)) else 0) := by
  rw [f_X2_refersToNoRow, isCol_t (vp_in_nI hc (by decide)), if_neg (show ¬ (1 : Int32) = 0 by decide), nI_clamp (show c < 2 ^ 31 by omega), c_hasCell hr hc, c_cellAt h hr hc, ite_iB]
theorem hr_same {m m' : Tr} (h2 : m.2.1 = m'.2.1) (x : Int32) : f_X1_hasRow m x = f_X1_hasRow m' x := by rw [f_X1_hasRow, f_X1_hasRow, h2]
theorem EL_E {b o t : Tr} {u r : Nat → Int32} {m m' : Tr} (h : tI m) (h' : tI m') (e : tE m m') : EL b o t u r m = EL b o t u r m' := by
  obtain ⟨e1, e2, e3, e4⟩ := e
  have k1 : fl (eX b o t u m) 192 = fl (eX b o t u m') 192 := fl_cong (fun i _ => eX_cong e1 e2 i)
  have k2 : fl (eN m) 8 = fl (eN m') 8 := fl_cong (fun c hc => by
    rw [eN, eN, hn_eq h hc, hn_eq h' hc, e1, anyN_cong (p := fun i => bt m'.1 i && decide (m.2.2.1 i = m.2.2.1 c)) (q := fun i => bt m'.1 i && decide (m'.2.2.1 i = m'.2.2.1 c)) (fun i hi => by
      show (bt m'.1 i && decide (m.2.2.1 i = m.2.2.1 c)) = (bt m'.1 i && decide (m'.2.2.1 i = m'.2.2.1 c))
      rw [e3 i (by omega), e3 c hc])])
  have k3 : fl (eF m r) 192 = fl (eF m' r) 192 := fl_cong (fun n hn => by
    have w := e4 n hn
    rw [eF, eF, rf_eq h r (show n / 8 < 24 by omega) (show n % 8 < 8 by omega), rf_eq h' r (show n / 8 < 24 by omega) (show n % 8 < 8 by omega), cel_same e1 e2, show n / 8 * 8 + n % 8 = n by omega, w, hr_same e2])
  rw [EL, EL, k1, k2, k3]
/-- merging a literal state -/
theorem mg_lit {b o t m0 m : Tr} {u r : Nat → Int32} {z : Lr} {E : List En} (i0 : tI b) (i1 : tI o) (i2 : tI t) (hm : MM b o t u m) (hE : EL b o t u r m = E) :
    (f_X2_merge b o t m0 u r z).1 = (aps (f_X0_becomeEmpty z) E).1 ∧ tE (f_X2_merge b o t m0 u r z).2.1 m ∧ (f_X2_merge b o t m0 u r z).2.2.1 = aps (f_X0_becomeEmpty z) E ∧ (f_X2_merge b o t m0 u r z).2.2.2 = 1 := by
  have k := MM_T3 b o t m0 u
  have e := MM_E k hm
  have q := merge_eq (zu := u) (zr := r) i0 i1 i2 m0 z
  rw [EL_E k.1 hm.1 e, hE] at q
  generalize f_X2_merge b o t m0 u r z = X at q ⊢
  generalize T3 b o t m0 u = T at q e
  subst q
  exact ⟨rfl, e, rfl, rfl⟩
/-- the table emptied, a table copied -/
theorem emp_E (t : Tr) : tE (f_X1_becomeEmpty t) t00 := by
  obtain ⟨e1, e2, e3, e4⟩ := c_empty t
  refine ⟨e1, e2, e3, fun n hn => ?_⟩
  have w := e4 (n / 8) (n % 8) (by omega) (by omega)
  rw [show n / 8 * 8 + n % 8 = n by omega] at w
  exact w
theorem cpy_E (f g : Nat → Int32) {N : Nat} : aE N (va_cpy f g 0 0 N) f := fun i hi => by
  show (if 0 ≤ i ∧ i < 0 + N then f (0 + (i - 0)) else g i) = f i
  rw [if_pos ⟨Nat.zero_le i, by omega⟩, Nat.zero_add, Nat.sub_zero]
theorem like_E (a b : Tr) : tE (f_X1_becomeLike a b) b := by
  rw [f_X1_becomeLike]
  exact ⟨rfl, rfl, fun c hc => cpy_E _ _ c hc, fun n hn => cpy_E _ _ n hn⟩
/-! the heap shows no more -/
theorem arr_E {cy : ClassId} {N : Nat} {f g : Nat → Int32} (h : aE N f g) : vp_cell cy (N, .inl f) = vp_cell cy (N, .inl g) := by
  have e : (fun j : Fin N => (Value.int (f j.1))) = (fun j : Fin N => (Value.int (g j.1))) := funext (fun j => by rw [h j.1 j.2])
  show ({ cls := cy, slots := Array.ofFn (fun j : Fin N => Value.int (f j.1)), vm := .none } : Cell) = { cls := cy, slots := Array.ofFn (fun j : Fin N => Value.int (g j.1)), vm := .none }
  rw [e]
theorem vP_set {D : va_G} {ws : va_W} {H : Heap} {a : Nat} {cy : ClassId} {N : Nat} {f g : Nat → Int32} (k : Nat) (hk : ws[k]? = some (a, .inl (cy, N, .inl f))) (h : aE N f g) (hP : va_P D vwCl ws H) : va_P D vwCl (ws.set k (a, .inl (cy, N, .inl g))) H := by
  intro j q hj
  by_cases e : k = j
  · subst e
    have hlt : k < ws.length := (List.getElem?_eq_some_iff.mp hk).1
    rw [List.getElem?_set_self hlt] at hj
    cases hj
    have w := hP k _ hk
    show H[a]? = some (vp_cell cy (N, .inl g))
    rw [← arr_E h]
    exact w
  · rw [List.getElem?_set_ne e] at hj
    exact hP j q hj
theorem vD_set {A : Nat → Prop} {ws : va_W} {a : Nat} {x y : va_E} (k : Nat) (hk : ws[k]? = some (a, x)) (hD : va_D A ws) : va_D A (ws.set k (a, y)) := by
  have hlt : k < ws.length := (List.getElem?_eq_some_iff.mp hk).1
  have key : ∀ (j : Nat) (q : Nat × va_E), (ws.set k (a, y))[j]? = some q → ∃ q' : Nat × va_E, ws[j]? = some q' ∧ q'.1 = q.1 := fun j q hj => by
    by_cases e : k = j
    · subst e
      rw [List.getElem?_set_self hlt] at hj
      cases hj
      exact ⟨_, hk, rfl⟩
    · rw [List.getElem?_set_ne e] at hj
      exact ⟨q, hj, rfl⟩
  refine ⟨fun i j p q hi hj hpq => ?_, fun j q hj => ?_⟩
  · obtain ⟨p', hp, ep⟩ := key i p hi
    obtain ⟨q', hq, eq⟩ := key j q hj
    exact hD.1 i j p' q' hp hq (ep.trans (hpq.trans eq.symm))
  · obtain ⟨q', hq, eq⟩ := key j q hj
    rw [← eq]
    exact hD.2 j q' hq
section Norm
variable {D : va_G} {cyI cyZ : ClassId} {ad : Nat → Nat} {zb zo zt zm zb' zo' zt' zm' : Tr} {zu zr zu' zr' : Nat → Int32} {zl zl' : Lr} {zf zf' : Int32}
/-- one world for another -/
def wE (w1 w2 : va_W) : Prop := (∀ (D : va_G) (H : Heap), va_P D vwCl w1 H → va_P D vwCl w2 H) ∧ ∀ A : Nat → Prop, va_D A w1 → va_D A w2
theorem wE.rf {w : va_W} : wE w w := ⟨fun _ _ h => h, fun _ h => h⟩
theorem wE.tr {w1 w2 w3 : va_W} (h : wE w1 w2) (k : wE w2 w3) : wE w1 w3 := ⟨fun D H q => k.1 D H (h.1 D H q), fun A q => k.2 A (h.2 A q)⟩
theorem wE_set {ws w2 : va_W} {a : Nat} {cy : ClassId} {N : Nat} {f g : Nat → Int32} (k : Nat) (hk : ws[k]? = some (a, .inl (cy, N, .inl f))) (h : aE N f g) (h2 : ws.set k (a, .inl (cy, N, .inl g)) = w2) : wE ws w2 := by
  subst h2
  exact ⟨fun D H q => vP_set k hk h q, fun A q => vD_set k hk q⟩
theorem wE_b (h : tE zb zb') : wE (wZ cyI cyZ ad zb zo zt zm zu zr zl zf) (wZ cyI cyZ ad zb' zo zt zm zu zr zl zf) := by
  obtain ⟨b1, b2, b3, b4⟩ := zb; obtain ⟨c1, c2, c3, c4⟩ := zb'; obtain ⟨h1, h2, h3, h4⟩ := h
  dsimp only at h1 h2 h3 h4; subst h1; subst h2
  exact (wE_set (w2 := wZ cyI cyZ ad (b1, b2, c3, b4) zo zt zm zu zr zl zf) 2 rfl h3 rfl).tr (wE_set 3 rfl h4 rfl)
theorem wE_o (h : tE zo zo') : wE (wZ cyI cyZ ad zb zo zt zm zu zr zl zf) (wZ cyI cyZ ad zb zo' zt zm zu zr zl zf) := by
  obtain ⟨b1, b2, b3, b4⟩ := zo; obtain ⟨c1, c2, c3, c4⟩ := zo'; obtain ⟨h1, h2, h3, h4⟩ := h
  dsimp only at h1 h2 h3 h4; subst h1; subst h2
  exact (wE_set (w2 := wZ cyI cyZ ad zb (b1, b2, c3, b4) zt zm zu zr zl zf) 5 rfl h3 rfl).tr (wE_set 6 rfl h4 rfl)
theorem wE_t (h : tE zt zt') : wE (wZ cyI cyZ ad zb zo zt zm zu zr zl zf) (wZ cyI cyZ ad zb zo zt' zm zu zr zl zf) := by
  obtain ⟨b1, b2, b3, b4⟩ := zt; obtain ⟨c1, c2, c3, c4⟩ := zt'; obtain ⟨h1, h2, h3, h4⟩ := h
  dsimp only at h1 h2 h3 h4; subst h1; subst h2
  exact (wE_set (w2 := wZ cyI cyZ ad zb zo (b1, b2, c3, b4) zm zu zr zl zf) 8 rfl h3 rfl).tr (wE_set 9 rfl h4 rfl)
theorem wE_m (h : tE zm zm') : wE (wZ cyI cyZ ad zb zo zt zm zu zr zl zf) (wZ cyI cyZ ad zb zo zt zm' zu zr zl zf) := by
  obtain ⟨b1, b2, b3, b4⟩ := zm; obtain ⟨c1, c2, c3, c4⟩ := zm'; obtain ⟨h1, h2, h3, h4⟩ := h
  dsimp only at h1 h2 h3 h4; subst h1; subst h2
  exact (wE_set (w2 := wZ cyI cyZ ad zb zo zt (b1, b2, c3, b4) zu zr zl zf) 11 rfl h3 rfl).tr (wE_set 12 rfl h4 rfl)
theorem wE_u (h : aE 8 zu zu') : wE (wZ cyI cyZ ad zb zo zt zm zu zr zl zf) (wZ cyI cyZ ad zb zo zt zm zu' zr zl zf) := wE_set 13 rfl h rfl
theorem wE_r (h : aE 8 zr zr') : wE (wZ cyI cyZ ad zb zo zt zm zu zr zl zf) (wZ cyI cyZ ad zb zo zt zm zu zr' zl zf) := wE_set 14 rfl h rfl
theorem wE_l (h : lE zl zl') : wE (wZ cyI cyZ ad zb zo zt zm zu zr zl zf) (wZ cyI cyZ ad zb zo zt zm zu zr zl' zf) := by
  obtain ⟨b1, b2, b3, b4, b5, b6⟩ := zl; obtain ⟨c1, c2, c3, c4, c5, c6⟩ := zl'; obtain ⟨h1, h2, h3, h4, h5, h6⟩ := h
  dsimp only at h1 h2 h3 h4 h5 h6; subst h1; subst h2
  exact (wE_set (w2 := wZ cyI cyZ ad zb zo zt zm zu zr (b1, b2, c3, b4, b5, b6) zf) 16 rfl h3 rfl).tr ((wE_set (w2 := wZ cyI cyZ ad zb zo zt zm zu zr (b1, b2, c3, c4, b5, b6) zf) 17 rfl h4 rfl).tr ((wE_set (w2 := wZ cyI cyZ ad zb zo zt zm zu zr (b1, b2, c3, c4, c5, b6) zf) 18 rfl h5 rfl).tr (wE_set 19 rfl h6 rfl)))
theorem wE_f (h : zf = zf') : wE (wZ cyI cyZ ad zb zo zt zm zu zr zl zf) (wZ cyI cyZ ad zb zo zt zm zu zr zl zf') := by subst h; exact wE.rf
/-- all at once -/
theorem wE_z (h0 : tE zb zb') (h1 : tE zo zo') (h2 : tE zt zt') (h3 : tE zm zm') (h4 : aE 8 zu zu') (h5 : aE 8 zr zr') (h6 : lE zl zl') (h7 : zf = zf') : wE (wZ cyI cyZ ad zb zo zt zm zu zr zl zf) (wZ cyI cyZ ad zb' zo' zt' zm' zu' zr' zl' zf') :=
  (wE_b h0).tr ((wE_o h1).tr ((wE_t h2).tr ((wE_m h3).tr ((wE_u h4).tr ((wE_r h5).tr ((wE_l h6).tr (wE_f h7)))))))
end Norm
