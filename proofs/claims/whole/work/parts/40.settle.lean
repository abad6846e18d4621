/-! ===== fork, accept, settle ===== -/
section Fork
variable {mc mw mn me : Nat → Int32} {mz : Kr} {K1 K2 : Int32} {j k : Nat} {t t0 t1 : Tr}
theorem m_copiesN (h1 : K1 = nI j) (h2 : K2 = nI k) (hj : j < 4) (hk : k < 4) (hjk : j ≠ k) : (∀ c, c < 8 → f_X3_copies_la mn K1 K2 (8 * k + c) = mn (8 * j + c)) ∧ (∀ i c, i ≠ k → c < 8 → f_X3_copies_la mn K1 K2 (8 * i + c) = mn (8 * i + c)) := by
  subst h1; subst h2
  rw [f_X3_copies_la]
  have h := it_inv (P := fun (n : Nat) (x : Nat → Int32) => (∀ c, c < 8 → x (8 * k + c) = if c < n then mn (8 * j + c) else mn (8 * k + c)) ∧ (∀ i c, i ≠ k → c < 8 → x (8 * i + c) = mn (8 * i + c))) (f := fun (i9 : Nat) (z9 : Nat → Int32) => f_X3_copies_sa (nI j) (nI k) i9 z9) (s := mn) ⟨fun c _ => by rw [if_neg (Nat.not_lt_zero c)], fun _ _ _ _ => rfl⟩ (n := 8) (fun n hn x hx => by
    obtain ⟨x1, x2⟩ := hx
    have e : f_X3_copies_sa (nI j) (nI k) n x = upd x (8 * k + n) (mn (8 * j + n)) := by
      rw [f_X3_copies_sa, ix_2 hk hn, ix_2 hj hn, x2 j n hjk hn]
    show (∀ c, c < 8 → f_X3_copies_sa (nI j) (nI k) n x (8 * k + c) = _) ∧ (∀ i c, i ≠ k → c < 8 → f_X3_copies_sa (nI j) (nI k) n x (8 * i + c) = _)
    rw [e]
    refine ⟨fun c hc => ?_, fun i c hi hc => by rw [pk_un (by omega)]; exact x2 i c hi hc⟩
    by_cases w : c = n
    · rw [w, pk_us, if_pos (Nat.lt_succ_self n)]
    · rw [pk_un (by omega), x1 c hc]
      by_cases w2 : c < n
      · rw [if_pos w2, if_pos (by omega)]
      · rw [if_neg w2, if_neg (by omega)])
  exact ⟨fun c hc => by have h3 := h.1 c hc; rw [if_pos hc] at h3; exact h3, h.2⟩
theorem ix_4 {n : Nat} (hk : k < 4) (hn : n < 192) : ((192 : Int32) * nI k + nI n).toNatClampNeg = 192 * k + n := by
  rw [show (192 : Int32) = nI 192 from rfl, pk_mul, nI_add, nI_clamp (by omega)]
theorem m_copiesE (h1 : K1 = nI j) (h2 : K2 = nI k) (hj : j < 4) (hk : k < 4) (hjk : j ≠ k) : (∀ c, c < 192 → f_X3_copies_lb me K1 K2 (192 * k + c) = me (192 * j + c)) ∧ (∀ i c, i ≠ k → c < 192 → f_X3_copies_lb me K1 K2 (192 * i + c) = me (192 * i + c)) := by
  subst h1; subst h2
  rw [f_X3_copies_lb]
  have h := it_inv (P := fun (n : Nat) (x : Nat → Int32) => (∀ c, c < 192 → x (192 * k + c) = if c < n then me (192 * j + c) else me (192 * k + c)) ∧ (∀ i c, i ≠ k → c < 192 → x (192 * i + c) = me (192 * i + c))) (f := fun (i9 : Nat) (z9 : Nat → Int32) => f_X3_copies_sb (nI j) (nI k) i9 z9) (s := me) ⟨fun c _ => by rw [if_neg (Nat.not_lt_zero c)], fun _ _ _ _ => rfl⟩ (n := 192) (fun n hn x hx => by
    obtain ⟨x1, x2⟩ := hx
    have e : f_X3_copies_sb (nI j) (nI k) n x = upd x (192 * k + n) (me (192 * j + n)) := by
      rw [f_X3_copies_sb, ix_4 hk hn, ix_4 hj hn, x2 j n hjk hn]
    show (∀ c, c < 192 → f_X3_copies_sb (nI j) (nI k) n x (192 * k + c) = _) ∧ (∀ i c, i ≠ k → c < 192 → f_X3_copies_sb (nI j) (nI k) n x (192 * i + c) = _)
    rw [e]
    refine ⟨fun c hc => ?_, fun i c hi hc => by rw [pk_un (by omega)]; exact x2 i c hi hc⟩
    by_cases w : c = n
    · rw [w, pk_us, if_pos (Nat.lt_succ_self n)]
    · rw [pk_un (by omega), x1 c hc]
      by_cases w2 : c < n
      · rw [if_pos w2, if_pos (by omega)]
      · rw [if_neg w2, if_neg (by omega)])
  exact ⟨fun c hc => by have h3 := h.1 c hc; rw [if_pos hc] at h3; exact h3, h.2⟩
theorem m_copies (h1 : K1 = nI j) (h2 : K2 = nI k) (hj : j < 4) (hk : k < 4) : f_X3_copies mc mw mn me K1 K2 = (upd mc k (mc j), upd mw k (mw j), f_X3_copies_la mn K1 K2, f_X3_copies_lb me K1 K2) := by
  rw [f_X3_copies, h1, h2, nI_clamp (by omega), nI_clamp (by omega)]
theorem tM_copied (h1 : K1 = nI j) (h2 : K2 = nI k) (hj : j < 4) (hk : k < 4) (hjk : j ≠ k) (m : tM j t mc mw mn me) : tM k t (upd mc k (mc j)) (upd mw k (mw j)) (f_X3_copies_la mn K1 K2) (f_X3_copies_lb me K1 K2) := by
  obtain ⟨c1, -⟩ := m_copiesN (mn := mn) h1 h2 hj hk hjk
  obtain ⟨c2, -⟩ := m_copiesE (me := me) h1 h2 hj hk hjk
  refine ⟨by rw [pk_us]; exact m.1, by rw [pk_us]; exact m.2.1, fun c hc hb => (c1 c hc).trans (m.2.2.1 c hc hb), fun r c hr hc hb => ?_⟩
  rw [Nat.add_assoc, c2 (8 * r + c) (by omega), ← Nat.add_assoc]
  exact m.2.2.2 r c hr hc hb
theorem fr_copied (h1 : K1 = nI j) (h2 : K2 = nI k) (hj : j < 4) (hk : k < 4) (hjk : j ≠ k) : fr4 k mc mw mn me (upd mc k (mc j)) (upd mw k (mw j)) (f_X3_copies_la mn K1 K2) (f_X3_copies_lb me K1 K2) := fun i t _ hik h => by
  obtain ⟨-, c1⟩ := m_copiesN (mn := mn) h1 h2 hj hk hjk
  obtain ⟨-, c2⟩ := m_copiesE (me := me) h1 h2 hj hk hjk
  exact h.keep (pk_un hik) (pk_un hik) (fun c hc => c1 i c hik hc) (fun r c hr hc => by rw [Nat.add_assoc, c2 i (8 * r + c) hik (by omega)])
theorem c_like : (f_X1_becomeLike t0 t1).1 = t1.1 ∧ (f_X1_becomeLike t0 t1).2.1 = t1.2.1 ∧ (∀ c, c < 8 → (f_X1_becomeLike t0 t1).2.2.1 c = t1.2.2.1 c) ∧ (∀ r c, r < 24 → c < 8 → (f_X1_becomeLike t0 t1).2.2.2 (r * 8 + c) = t1.2.2.2 (r * 8 + c)) := by
  have e0 : (0 : Int32).toNatClampNeg = 0 := by decide
  have e8 : (8 : Int32).toNatClampNeg = 8 := by decide
  have e192 : (192 : Int32).toNatClampNeg = 192 := by decide
  refine ⟨rfl, rfl, fun c hc => ?_, fun r c hr hc => ?_⟩
  · show va_cpy t1.2.2.1 t0.2.2.1 (0 : Int32).toNatClampNeg (0 : Int32).toNatClampNeg (8 : Int32).toNatClampNeg c = _
    rw [e0, e8, pk_cpy_in (by omega) (by omega), Nat.sub_zero, Nat.zero_add]
  · show va_cpy t1.2.2.2 t0.2.2.2 (0 : Int32).toNatClampNeg (0 : Int32).toNatClampNeg (192 : Int32).toNatClampNeg (r * 8 + c) = _
    rw [e0, e192, pk_cpy_in (by omega) (by omega), Nat.sub_zero, Nat.zero_add]
theorem tI_like (h : tI t1) : tI (f_X1_becomeLike t0 t1) := by
  obtain ⟨e1, e2, e3, e4⟩ := c_like (t0 := t0) (t1 := t1)
  refine ⟨by rw [e1]; exact h.1, by rw [e2]; exact h.2.1, fun c hc hb => ?_, fun r c hr hc hb => ?_⟩
  · rw [e1] at hb; rw [e3 c hc]; exact h.2.2.1 c hc hb
  · rw [cel, e1, e2] at hb; rw [e4 r c hr hc]; exact h.2.2.2 r c hr hc hb
theorem tM_like (h : tM k t1 mc mw mn me) : tM k (f_X1_becomeLike t0 t1) mc mw mn me := by
  obtain ⟨e1, e2, e3, e4⟩ := c_like (t0 := t0) (t1 := t1)
  refine ⟨by rw [e1]; exact h.1, by rw [e2]; exact h.2.1, fun c hc hb => ?_, fun r c hr hc hb => ?_⟩
  · rw [e1] at hb; rw [e3 c hc]; exact h.2.2.1 c hc hb
  · rw [cel, e1, e2] at hb; rw [e4 r c hr hc]; exact h.2.2.2 r c hr hc hb
theorem m_forks (m0 : tM 0 t mc mw mn me) : ∃ mc' mw' mn' me' : Nat → Int32, f_X3_forks mc mw mn me mz = (f_X3_count t.1 * f_X3_count t.2.1, mc', mw', mn', me', (0, mz.2.1, mz.2.2.1, mz.2.2.2.1, mz.2.2.2.2), 0) ∧ tM 0 t mc' mw' mn' me' ∧ tM 1 t mc' mw' mn' me' ∧ tM 2 t mc' mw' mn' me' ∧ mc' 3 = 0 ∧ mw' 3 = 0 := by
  have e0 : (0 : Int32).toNatClampNeg = 0 := by decide
  have a1 := tM_copied (K1 := 0) (K2 := 1) (j := 0) (k := 1) rfl rfl (by decide) (by decide) (by decide) m0
  have a0 := fr_copied (K1 := 0) (K2 := 1) (j := 0) (k := 1) (mc := mc) (mw := mw) (mn := mn) (me := me) rfl rfl (by decide) (by decide) (by decide) 0 _ (by decide) (by decide) m0
  have b2 := tM_copied (K1 := 0) (K2 := 2) (j := 0) (k := 2) rfl rfl (by decide) (by decide) (by decide) a0
  have fr2 := fr_copied (K1 := 0) (K2 := 2) (j := 0) (k := 2) (mc := upd mc 1 (mc 0)) (mw := upd mw 1 (mw 0)) (mn := f_X3_copies_la mn 0 1) (me := f_X3_copies_lb me 0 1) rfl rfl (by decide) (by decide) (by decide)
  have b0 := fr2 0 _ (by decide) (by decide) a0
  have b1 := fr2 1 _ (by decide) (by decide) a1
  have e : f_X3_forks mc mw mn me mz = (f_X3_count ((upd (upd (upd mc 1 (mc 0)) 2 (upd mc 1 (mc 0) 0)) 3 0) 0) * f_X3_count ((upd (upd (upd mw 1 (mw 0)) 2 (upd mw 1 (mw 0) 0)) 3 0) 0), upd (upd (upd mc 1 (mc 0)) 2 (upd mc 1 (mc 0) 0)) 3 0, upd (upd (upd mw 1 (mw 0)) 2 (upd mw 1 (mw 0) 0)) 3 0, f_X3_copies_la (f_X3_copies_la mn 0 1) 0 2, f_X3_copies_lb (f_X3_copies_lb me 0 1) 0 2, (0, mz.2.1, mz.2.2.1, mz.2.2.2.1, mz.2.2.2.2), 0) := by
    rw [f_X3_forks, m_copies (K1 := 0) (K2 := 1) (j := 0) (k := 1) rfl rfl (by decide) (by decide)]
    dsimp only
    rw [m_copies (K1 := 0) (K2 := 2) (j := 0) (k := 2) rfl rfl (by decide) (by decide), cl3, e0]
  have fr3 : ∀ (i : Nat) (s : Tr), i < 3 → tM i s (upd (upd mc 1 (mc 0)) 2 (upd mc 1 (mc 0) 0)) (upd (upd mw 1 (mw 0)) 2 (upd mw 1 (mw 0) 0)) (f_X3_copies_la (f_X3_copies_la mn 0 1) 0 2) (f_X3_copies_lb (f_X3_copies_lb me 0 1) 0 2) → tM i s (upd (upd (upd mc 1 (mc 0)) 2 (upd mc 1 (mc 0) 0)) 3 0) (upd (upd (upd mw 1 (mw 0)) 2 (upd mw 1 (mw 0) 0)) 3 0) (f_X3_copies_la (f_X3_copies_la mn 0 1) 0 2) (f_X3_copies_lb (f_X3_copies_lb me 0 1) 0 2) := fun i s hi h => h.keep (pk_un (by omega)) (pk_un (by omega)) (fun _ _ => rfl) (fun _ _ _ _ => rfl)
  have c0 := fr3 0 _ (by decide) b0
  refine ⟨_, _, _, _, ?_, c0, fr3 1 _ (by decide) b1, fr3 2 _ (by decide) b2, pk_us, pk_us⟩
  rw [e, ← c0.1, ← c0.2.1]
end Fork
section SFork
variable {zb zo zt zm : Tr} {zu zr : Nat → Int32} {zl : Lr} {zf : Int32} {mc mw mn me mu mr : Nat → Int32} {mz : Kr} {mf : Int32}
theorem tM_none {mc mw mn me : Nat → Int32} {k : Nat} (h1 : mc k = 0) (h2 : mw k = 0) (t : Tr) : tM k (f_X1_becomeEmpty t) mc mw mn me := by
  obtain ⟨e1, e2, e3, e4⟩ := c_empty t
  refine ⟨e1.trans h1.symm, e2.trans h2.symm, fun c _ hb => ?_, fun r c _ _ hb => ?_⟩
  · rw [e1, b_0] at hb; cases hb
  · rw [cel, e1, e2, b_0, b_0] at hb; cases hb
theorem forked (i0 : tI zb) (m0 : tM 0 zb mc mw mn me) (ru : ∀ c, c < 8 → zu c = mu c) (rr : ∀ c, c < 8 → zr c = mr c ∧ (mr c = 0 ∨ mr c = 1)) :
    (f_X2_fork zb zo zt zm zl).1 = (f_X3_forks mc mw mn me mz).1 ∧ Rl zb (f_X2_fork zb zo zt zm zl).2.1 (f_X2_fork zb zo zt zm zl).2.2.1 (f_X2_fork zb zo zt zm zl).2.2.2.1 zu zr (f_X2_fork zb zo zt zm zl).2.2.2.2.1 (f_X2_fork zb zo zt zm zl).2.2.2.2.2 (f_X3_forks mc mw mn me mz).2.1 (f_X3_forks mc mw mn me mz).2.2.1 (f_X3_forks mc mw mn me mz).2.2.2.1 (f_X3_forks mc mw mn me mz).2.2.2.2.1 mu mr (f_X3_forks mc mw mn me mz).2.2.2.2.2.1 (f_X3_forks mc mw mn me mz).2.2.2.2.2.2 := by
  obtain ⟨mc', mw', mn', me', e, q0, q1, q2, q3, q4⟩ := m_forks (mz := mz) m0
  rw [e]
  have ec : (f_X2_fork zb zo zt zm zl).1 = f_X3_count zb.1 * f_X3_count zb.2.1 := by
    show f_X1_columnCount zb * f_X1_rowCount zb = _
    rw [cnt_c i0, cnt_r i0]
  refine ⟨ec, ⟨i0, tI_like i0, tI_like i0, tI_empty zm⟩, ⟨q0, tM_like q1, tM_like q2, tM_none q3 q4 zm⟩, ru, rr, ⟨rfl, Nat.zero_le _, fun i hi => absurd hi (Nat.not_lt_zero i), rfl⟩, fun i hi => absurd hi (Nat.not_lt_zero i), fun _ i hi => absurd hi (Nat.not_lt_zero i), rfl, Or.inl rfl⟩
theorem s_fork (R : Rl zb zo zt zm zu zr zl zf mc mw mn me mu mr mz mf) : (f_X2_fork zb zo zt zm zl).1 = (f_X3_fork mc mw mn me mz).1 ∧ Rl zb (f_X2_fork zb zo zt zm zl).2.1 (f_X2_fork zb zo zt zm zl).2.2.1 (f_X2_fork zb zo zt zm zl).2.2.2.1 zu zr (f_X2_fork zb zo zt zm zl).2.2.2.2.1 (f_X2_fork zb zo zt zm zl).2.2.2.2.2 (f_X3_fork mc mw mn me mz).2.1 (f_X3_fork mc mw mn me mz).2.2.1 (f_X3_fork mc mw mn me mz).2.2.2.1 (f_X3_fork mc mw mn me mz).2.2.2.2.1 mu mr (f_X3_fork mc mw mn me mz).2.2.2.2.2.1 (f_X3_fork mc mw mn me mz).2.2.2.2.2.2.1 := by
  obtain ⟨⟨i0, -⟩, ⟨m0, -⟩, ru, rr, -⟩ := R
  exact forked i0 m0 ru rr
theorem nI_le0 {n : Nat} (h : n < 2 ^ 31) : nI n ≤ 0 ↔ nI n = 0 := by
  rcases Nat.eq_zero_or_pos n with e | e
  · subst e; exact ⟨fun _ => rfl, fun _ => by decide⟩
  · exact ⟨fun z => absurd z (nI_nle e h), fun z => absurd z (nI_ne0 e h)⟩
theorem sm_le1 {f : Nat → Int32} {n : Nat} : sm (fun i => if f i = 0 then 1 else 0) n ≤ n * 1 := sm_le (fun i _ => by
  by_cases h : f i = 0
  · rw [if_pos h]; exact Nat.le_refl 1
  · rw [if_neg h]; exact Nat.zero_le 1)
theorem s_accept (R : Rl zb zo zt zm zu zr zl zf mc mw mn me mu mr mz mf) :
    (f_X2_accept_x zl zf = 0 ∧ (f_X3_accept mc mw mn me mz mf).2.2.2.2.2.2.2 = 0 ∧ (f_X2_accept zb zo zt zm zl zf).1 = (f_X3_accept mc mw mn me mz mf).1 ∧ Rl (f_X2_accept zb zo zt zm zl zf).2.1 (f_X2_accept zb zo zt zm zl zf).2.2.1 (f_X2_accept zb zo zt zm zl zf).2.2.2.1 (f_X2_accept zb zo zt zm zl zf).2.2.2.2.1 zu zr (f_X2_accept zb zo zt zm zl zf).2.2.2.2.2.1 (f_X2_accept zb zo zt zm zl zf).2.2.2.2.2.2 (f_X3_accept mc mw mn me mz mf).2.1 (f_X3_accept mc mw mn me mz mf).2.2.1 (f_X3_accept mc mw mn me mz mf).2.2.2.1 (f_X3_accept mc mw mn me mz mf).2.2.2.2.1 mu mr (f_X3_accept mc mw mn me mz mf).2.2.2.2.2.1 (f_X3_accept mc mw mn me mz mf).2.2.2.2.2.2.1)
    ∨ (¬ f_X2_accept_x zl zf = 0 ∧ (f_X3_accept mc mw mn me mz mf).2.2.2.2.2.2.2 = nI (if f_X2_accept_x zl zf = 3 then 1 else f_X2_accept_x zl zf) ∧ Rl zb zo zt zm zu zr zl zf (f_X3_accept mc mw mn me mz mf).2.1 (f_X3_accept mc mw mn me mz mf).2.2.1 (f_X3_accept mc mw mn me mz mf).2.2.2.1 (f_X3_accept mc mw mn me mz mf).2.2.2.2.1 mu mr (f_X3_accept mc mw mn me mz mf).2.2.2.2.2.1 (f_X3_accept mc mw mn me mz mf).2.2.2.2.2.2.1) := by
  obtain ⟨⟨i0, i1, i2, i3⟩, ⟨m0, m1, m2, m3⟩, ru, rr, rl, re, rf, rq, rz⟩ := id R
  by_cases hf : zf = 0
  · have eX : f_X2_accept_x zl zf = 3 := by rw [f_X2_accept_x, if_pos hf]
    have eM : f_X3_accept mc mw mn me mz mf = (0, mc, mw, mn, me, mz, mf, 1) := by rw [f_X3_accept, if_pos (rq.symm.trans hf)]
    exact Or.inr ⟨by rw [eX]; decide, by rw [eX, eM]; rfl, by rw [eM]; exact R⟩
  · have hf2 : ¬ mf = 0 := fun z => hf (rq.trans z)
    have hm : mz.1 ≤ 440 := Nat.le_trans rl.2.1 (by decide)
    have hle : sm (fun i => if mz.2.2.2.2 i = 0 then 1 else 0) mz.1 < 2 ^ 31 := by
      have h1 := sm_le1 (f := mz.2.2.2.2) (n := mz.1)
      omega
    have eo : zl.2.1 ≤ 0 ↔ f_X3_left mz = 0 := by
      rw [m_left hm, rl.2.2.2]
      exact nI_le0 hle
    by_cases ho : f_X3_left mz = 0
    · have eX : f_X2_accept_x zl zf = 0 := by rw [f_X2_accept_x, if_neg hf, if_pos (eo.mpr ho)]
      have n0 := tM_copied (K1 := 3) (K2 := 0) (j := 3) (k := 0) rfl rfl (by decide) (by decide) (by decide) m3
      have F := forked (zo := zo) (zt := zt) (zm := zm) (zl := zl) (mz := mz) (tI_like (t0 := zb) i3) (tM_like (t0 := zb) n0) ru rr
      have ecp : f_X3_copies mc mw mn me 3 0 = (upd mc 0 (mc 3), upd mw 0 (mw 3), f_X3_copies_la mn 3 0, f_X3_copies_lb me 3 0) := m_copies (K1 := 3) (K2 := 0) (j := 3) (k := 0) rfl rfl (by decide) (by decide)
      have eC : f_X2_accept zb zo zt zm zl zf = ((f_X2_fork (f_X1_becomeLike zb zm) zo zt zm zl).1, f_X1_becomeLike zb zm, (f_X2_fork (f_X1_becomeLike zb zm) zo zt zm zl).2) := by rw [f_X2_accept, if_neg hf, if_pos (eo.mpr ho)]
      have eM : f_X3_accept mc mw mn me mz mf = ((f_X3_forks (upd mc 0 (mc 3)) (upd mw 0 (mw 3)) (f_X3_copies_la mn 3 0) (f_X3_copies_lb me 3 0) mz).1, (f_X3_forks (upd mc 0 (mc 3)) (upd mw 0 (mw 3)) (f_X3_copies_la mn 3 0) (f_X3_copies_lb me 3 0) mz).2.1, (f_X3_forks (upd mc 0 (mc 3)) (upd mw 0 (mw 3)) (f_X3_copies_la mn 3 0) (f_X3_copies_lb me 3 0) mz).2.2.1, (f_X3_forks (upd mc 0 (mc 3)) (upd mw 0 (mw 3)) (f_X3_copies_la mn 3 0) (f_X3_copies_lb me 3 0) mz).2.2.2.1, (f_X3_forks (upd mc 0 (mc 3)) (upd mw 0 (mw 3)) (f_X3_copies_la mn 3 0) (f_X3_copies_lb me 3 0) mz).2.2.2.2.1, (f_X3_forks (upd mc 0 (mc 3)) (upd mw 0 (mw 3)) (f_X3_copies_la mn 3 0) (f_X3_copies_lb me 3 0) mz).2.2.2.2.2.1, (f_X3_forks (upd mc 0 (mc 3)) (upd mw 0 (mw 3)) (f_X3_copies_la mn 3 0) (f_X3_copies_lb me 3 0) mz).2.2.2.2.2.2, 0) := by
        rw [f_X3_accept, if_neg hf2, if_pos ho, ecp]
      exact Or.inl ⟨eX, by rw [eM], by rw [eC, eM]; exact F.1, by rw [eC, eM]; exact F.2⟩
    · have eX : f_X2_accept_x zl zf = 3 := by rw [f_X2_accept_x, if_neg hf, if_neg (fun z => ho (eo.mp z))]
      have eM : f_X3_accept mc mw mn me mz mf = (0, mc, mw, mn, me, mz, mf, 1) := by rw [f_X3_accept, if_neg hf2, if_neg ho]
      exact Or.inr ⟨by rw [eX]; decide, by rw [eX, eM]; rfl, by rw [eM]; exact R⟩
end SFork
/-! settling -/
def tkC (s zm : Tr) (k y q : Int32) : Tr := if k = 1 then f_X1_putCell zm y q (f_X1_cellAt s y q) else (if k = 2 then (if f_X1_hasRow s y = 0 then f_X1_cutRow zm y else zm) else (if k = 3 then (if f_X1_hasColumn s q = 0 then f_X1_cutColumn zm q else zm) else (if k = 4 then f_X1_putName zm q (f_X1_nameAt s q) else zm)))
theorem tk_o (s zm : Tr) (k y q : Int32) : f_X2_takeSide_o s zm k y q = tkC s zm k y q := rfl
theorem tk_t (s zm : Tr) (k y q : Int32) : f_X2_takeSide_t s zm k y q = tkC s zm k y q := rfl
def tkM (mc mw mn me : Nat → Int32) (K k y q : Int32) : (Nat → Int32) × (Nat → Int32) × (Nat → Int32) × (Nat → Int32) :=
  if k = 1 then (mc, mw, mn, upd me ((576 + (8 * y)) + q).toNatClampNeg (f_X3_at me K y q))
  else (if k = 2 then (mc, (if f_X3_hasRow mw K y = 0 then upd mw 3 ((mw 3) &&& ((1 <<< (y &&& 31)) ^^^ (-1))) else upd mw 3 ((mw 3) &&& (-1))), mn, me)
  else (if k = 3 then ((if f_X3_hasColumn mc K q = 0 then upd mc 3 ((mc 3) &&& ((1 <<< (q &&& 31)) ^^^ (-1))) else upd mc 3 ((mc 3) &&& (-1))), mw, mn, me)
  else (if k = 4 then (mc, mw, upd mn (24 + q).toNatClampNeg (mn ((8 * K) + q).toNatClampNeg), me) else (mc, mw, mn, me))))
theorem i_m1 (x : Int32) : x &&& (-1) = x := b_ext (fun i hi => by rw [b_and, b_m1 i hi, Bool.and_true])
theorem i_an {x : Int32} {c : Nat} (hc : c < 32) (h : bt x c = false) : x &&& (((1 : Int32) <<< (nI c &&& 31)) ^^^ (-1)) = x := b_ext (fun i hi => by
  rw [b_and, b_nbit hc hi]
  by_cases e : i = c
  · rw [e, h]; rfl
  · rw [decide_eq_false e]; exact Bool.and_true _)
section Take
variable {mc mw mn me : Nat → Int32} {s zm : Tr} {K : Int32} {j : Nat}
theorem take_ok (iz : tI zm) (m3 : tM 3 zm mc mw mn me) (is : tI s) (ms : tM j s mc mw mn me) (hK : K = nI j) (hj : j < 3) {k y q : Int32} (hr : eR k y q) (hf : eF s s k y q) :
    tI (tkC s zm k y q) ∧ tM 3 (tkC s zm k y q) (tkM mc mw mn me K k y q).1 (tkM mc mw mn me K k y q).2.1 (tkM mc mw mn me K k y q).2.2.1 (tkM mc mw mn me K k y q).2.2.2 ∧ fr4 3 mc mw mn me (tkM mc mw mn me K k y q).1 (tkM mc mw mn me K k y q).2.1 (tkM mc mw mn me K k y q).2.2.1 (tkM mc mw mn me K k y q).2.2.2 := by
  by_cases k1 : k = 1
  · obtain ⟨v1, v2⟩ := hr.1 k1
    obtain ⟨r, hr2, rfl⟩ := cl24 v1
    obtain ⟨c, hc2, rfl⟩ := cl8 v2
    have hs := (hf.1 k1 r c hr2 hc2 rfl rfl).1
    have e1 : tkC s zm k (nI r) (nI c) = f_X1_putCell zm (nI r) (nI c) (s.2.2.2 (r * 8 + c)) := by rw [tkC, if_pos k1, c_cellAt is hr2 hc2]
    have ei : (((576 : Int32) + 8 * nI r) + nI c).toNatClampNeg = 192 * 3 + 8 * r + c := by
      rw [show (8 : Int32) = nI 8 from rfl, show (576 : Int32) = nI 576 from rfl, pk_mul, nI_add, nI_add, nI_clamp (by omega)]
    have e2 : tkM mc mw mn me K k (nI r) (nI c) = (mc, mw, mn, upd me (192 * 3 + 8 * r + c) (s.2.2.2 (r * 8 + c))) := by rw [tkM, if_pos k1, ei, m_at ms hK (by omega) hr2 hc2 hs]
    rw [e1, e2]
    exact ⟨tI_putCell iz hr2 hc2 _, tM_putCell m3 hr2 hc2 _, fr_e hr2 hc2⟩
  by_cases k2 : k = 2
  · obtain ⟨r, hr2, rfl⟩ := cl24 (hr.2.1 k2)
    have e1 : tkC s zm k (nI r) q = if bt s.2.1 r = true then zm else f_X1_cutRow zm (nI r) := by rw [tkC, if_neg k1, if_pos k2, c_hasRow hr2, ite_iB]
    have e2 : tkM mc mw mn me K k (nI r) q = (mc, (if bt s.2.1 r = true then upd mw 3 ((mw 3) &&& (-1)) else upd mw 3 ((mw 3) &&& (((1 : Int32) <<< (nI r &&& 31)) ^^^ (-1)))), mn, me) := by rw [tkM, if_neg k1, if_pos k2, m_row ms hK (by omega) hr2, ite_iB]
    rw [e1, e2]
    cases bt s.2.1 r
    · rw [if_neg (by decide), if_neg (by decide)]
      cases eb : bt zm.2.1 r
      · have ez : f_X1_cutRow zm (nI r) = zm := by rw [f_X1_cutRow, c_hasRow hr2, eb, if_pos (show iB false = 0 from rfl)]
        rw [ez]
        exact ⟨iz, m3.keep rfl ((pk_us (f := mw) (k := 3)).trans (i_an (by omega) (by rw [← m3.2.1]; exact eb))) (fun _ _ => rfl) (fun _ _ _ _ => rfl), fr_w⟩
      · exact ⟨tI_cutRow iz hr2 eb, tM_cutRow iz m3 hr2 eb, fr_w⟩
    · rw [if_pos rfl, if_pos rfl]
      exact ⟨iz, m3.keep rfl ((pk_us (f := mw) (k := 3)).trans (i_m1 _)) (fun _ _ => rfl) (fun _ _ _ _ => rfl), fr_w⟩
  by_cases k3 : k = 3
  · obtain ⟨c, hc2, rfl⟩ := cl8 (hr.2.2.1 k3)
    have e1 : tkC s zm k y (nI c) = if bt s.1 c = true then zm else f_X1_cutColumn zm (nI c) := by rw [tkC, if_neg k1, if_neg k2, if_pos k3, c_hasColumn hc2, ite_iB]
    have e2 : tkM mc mw mn me K k y (nI c) = ((if bt s.1 c = true then upd mc 3 ((mc 3) &&& (-1)) else upd mc 3 ((mc 3) &&& (((1 : Int32) <<< (nI c &&& 31)) ^^^ (-1)))), mw, mn, me) := by rw [tkM, if_neg k1, if_neg k2, if_pos k3, m_col ms hK (by omega) hc2, ite_iB]
    rw [e1, e2]
    cases bt s.1 c
    · rw [if_neg (by decide), if_neg (by decide)]
      cases eb : bt zm.1 c
      · have ez : f_X1_cutColumn zm (nI c) = zm := by rw [f_X1_cutColumn, c_hasColumn hc2, eb, if_pos (show iB false = 0 from rfl)]
        rw [ez]
        exact ⟨iz, m3.keep ((pk_us (f := mc) (k := 3)).trans (i_an (by omega) (by rw [← m3.1]; exact eb))) rfl (fun _ _ => rfl) (fun _ _ _ _ => rfl), fr_c⟩
      · exact ⟨tI_cutColumn iz hc2 eb, tM_cutColumn iz m3 hc2 eb, fr_c⟩
    · rw [if_pos rfl, if_pos rfl]
      exact ⟨iz, m3.keep ((pk_us (f := mc) (k := 3)).trans (i_m1 _)) rfl (fun _ _ => rfl) (fun _ _ _ _ => rfl), fr_c⟩
  by_cases k4 : k = 4
  · obtain ⟨c, hc2, rfl⟩ := cl8 (hr.2.2.2 k4)
    have hs := (hf.2 k4 c hc2 rfl).1
    have e1 : tkC s zm k y (nI c) = f_X1_putName zm (nI c) (s.2.2.1 c) := by rw [tkC, if_neg k1, if_neg k2, if_neg k3, if_pos k4, c_nameAt is hc2]
    have e2 : tkM mc mw mn me K k y (nI c) = (mc, mw, upd mn (8 * 3 + c) (s.2.2.1 c), me) := by
      rw [tkM, if_neg k1, if_neg k2, if_neg k3, if_pos k4, ix_k (k := 24) J_24 (by decide) hc2, hK, ix_2 (by omega) hc2, ms.2.2.1 c hc2 hs]
    rw [e1, e2]
    cases eb : bt zm.1 c
    · rw [c_putName_o hc2 eb]
      exact ⟨iz, tM_name_o m3 hc2 eb _, fr_n hc2⟩
    · exact ⟨tI_putName iz hc2 eb _, tM_putName m3 hc2 eb _, fr_n hc2⟩
  · have e1 : tkC s zm k y q = zm := by rw [tkC, if_neg k1, if_neg k2, if_neg k3, if_neg k4]
    have e2 : tkM mc mw mn me K k y q = (mc, mw, mn, me) := by rw [tkM, if_neg k1, if_neg k2, if_neg k3, if_neg k4]
    rw [e1, e2]
    exact ⟨iz, m3, fun _ _ _ _ h => h⟩
end Take
theorem sm_set {f : Nat → Int32} {j : Nat} (hf : f j = 0) : ∀ {n : Nat}, j < n → sm (fun i => if upd f j 1 i = 0 then 1 else 0) n + 1 = sm (fun i => if f i = 0 then 1 else 0) n
  | 0, h => absurd h (Nat.not_lt_zero j)
  | n + 1, h => by
    rw [sm, sm]
    by_cases e : j = n
    · subst e
      rw [sm_upd, pk_us, if_neg (by decide), if_pos hf]
    · rw [pk_un (fun z => e z.symm), ← sm_set hf (n := n) (by omega)]
      omega
section Settle
variable {zb zo zt zm : Tr} {zu zr : Nat → Int32} {zl : Lr} {zf : Int32} {mc mw mn me mu mr : Nat → Int32} {mz : Kr} {mf : Int32}
/-- the list with a conflict settled -/
theorem lR_mark (rl : lR zl mz) {j : Nat} (hj : j < mz.1) (h0 : mz.2.2.2.2 j = 0) : lR (f_X0_markSettled zl (nI j)) (mz.1, mz.2.1, mz.2.2.1, mz.2.2.2.1, upd mz.2.2.2.2 j 1) ∧ (f_X0_markSettled zl (nI j)).2.1 = f_X3_left (mz.1, mz.2.1, mz.2.2.1, mz.2.2.2.1, upd mz.2.2.2.2 j 1) := by
  have hb := rl.2.1
  have hz : zl.2.2.2.2.2 j = 0 := ((rl.2.2.1 j hj).2.2.2.1).trans h0
  have e : f_X0_markSettled zl (nI j) = (zl.1, zl.2.1 - 1, zl.2.2.1, zl.2.2.2.1, zl.2.2.2.2.1, upd zl.2.2.2.2.2 j 1) := by
    rw [f_X0_markSettled, (c_holds rl.1 rl.2.1).1 (vp_in_nI hj (by omega)), if_neg (show ¬ (1 : Int32) = 0 by decide), nI_clamp (by omega), if_pos hz]
  have h4 : zl.2.1 - 1 = nI (sm (fun i => if upd mz.2.2.2.2 j 1 i = 0 then 1 else 0) mz.1) := by
    rw [rl.2.2.2, ← sm_set h0 hj, nI_pred]
  rw [e]
  refine ⟨⟨rl.1, rl.2.1, fun i hi => ?_, h4⟩, ?_⟩
  · obtain ⟨x1, x2, x3, x4, x5⟩ := rl.2.2.1 i hi
    refine ⟨x1, x2, x3, ?_, ?_⟩
    · show upd zl.2.2.2.2.2 j 1 i = upd mz.2.2.2.2 j 1 i
      by_cases w : i = j
      · rw [w, pk_us, pk_us]
      · rw [pk_un w, pk_un w]; exact x4
    · show upd mz.2.2.2.2 j 1 i = 0 ∨ upd mz.2.2.2.2 j 1 i = 1
      by_cases w : i = j
      · rw [w, pk_us]; exact Or.inr rfl
      · rw [pk_un w]; exact x5
  · rw [m_left (mz := (mz.1, mz.2.1, mz.2.2.1, mz.2.2.2.1, upd mz.2.2.2.2 j 1)) (show mz.1 ≤ 440 by omega)]
    exact h4
/-- what the reference does when a conflict is settled -/
theorem m_settle_go {K : Int32} {j : Nat} (hb : mz.1 ≤ 424) (hj : j < mz.1) (hK : ¬ f_X3_isIn K 1 2 = 0) (h0 : mz.2.2.2.2 j = 0) (hf : ¬ mf = 0) : f_X3_settle mc mw mn me mz mf (nI j) K =
    (f_X3_left (mz.1, mz.2.1, mz.2.2.1, mz.2.2.2.1, upd mz.2.2.2.2 j 1), (tkM mc mw mn me K (mz.2.1 j) (mz.2.2.1 j) (mz.2.2.2.1 j)).1, (tkM mc mw mn me K (mz.2.1 j) (mz.2.2.1 j) (mz.2.2.2.1 j)).2.1, (tkM mc mw mn me K (mz.2.1 j) (mz.2.2.1 j) (mz.2.2.2.1 j)).2.2.1, (tkM mc mw mn me K (mz.2.1 j) (mz.2.2.1 j) (mz.2.2.2.1 j)).2.2.2, (mz.1, mz.2.1, mz.2.2.1, mz.2.2.2.1, upd mz.2.2.2.2 j 1), 0) := by
  rw [f_X3_settle, (m_listed hb).1 (vp_in_nI hj (by omega)), if_neg (show ¬ (1 : Int32) = 0 by decide), if_neg hK, nI_clamp (by omega), if_pos h0, if_neg hf, cl3, tkM]
  by_cases k1 : mz.2.1 j = 1
  · rw [if_pos k1, if_pos k1]
  rw [if_neg k1, if_neg k1]
  by_cases k2 : mz.2.1 j = 2
  · rw [if_pos k2, if_pos k2]
    by_cases w : f_X3_hasRow mw K (mz.2.2.1 j) = 0
    · rw [if_pos w, if_pos w]
    · rw [if_neg w, if_neg w]
  rw [if_neg k2, if_neg k2]
  by_cases k3 : mz.2.1 j = 3
  · rw [if_pos k3, if_pos k3]
    by_cases w : f_X3_hasColumn mc K (mz.2.2.2.1 j) = 0
    · rw [if_pos w, if_pos w]
    · rw [if_neg w, if_neg w]
  rw [if_neg k3, if_neg k3]
  by_cases k4 : mz.2.1 j = 4
  · rw [if_pos k4, if_pos k4]
  · rw [if_neg k4, if_neg k4]
theorem c_at {j : Nat} (rl : lR zl mz) (hj : j < mz.1) : f_X0_kindAt zl (nI j) = mz.2.1 j ∧ f_X0_keyAt zl (nI j) = mz.2.2.1 j ∧ f_X0_columnAt zl (nI j) = mz.2.2.2.1 j ∧ f_X0_isSettled zl (nI j) = (if mz.2.2.2.2 j = 0 then 0 else 1) := by
  have hb := rl.2.1
  have e1 := (c_holds rl.1 rl.2.1).1 (vp_in_nI hj (by omega))
  obtain ⟨x1, x2, x3, x4, -⟩ := rl.2.2.1 j hj
  have hn : ¬ (1 : Int32) = 0 := by decide
  refine ⟨?_, ?_, ?_, ?_⟩
  · rw [f_X0_kindAt, e1, if_neg hn, nI_clamp (by omega), x1]
  · rw [f_X0_keyAt, e1, if_neg hn, nI_clamp (by omega), x2]
  · rw [f_X0_columnAt, e1, if_neg hn, nI_clamp (by omega), x3]
  · rw [f_X0_isSettled, e1, if_neg hn, nI_clamp (by omega), x4]
theorem s_settle (R : Rl zb zo zt zm zu zr zl zf mc mw mn me mu mr mz mf) (p1 p2 : Int32) :
    (f_X2_settle_x zl zf p1 p2 = 0 ∧ (f_X3_settle mc mw mn me mz mf p1 p2).2.2.2.2.2.2 = 0 ∧ (f_X2_settle zo zt zm zl zf p1 p2).1 = (f_X3_settle mc mw mn me mz mf p1 p2).1 ∧ Rl zb zo zt (f_X2_settle zo zt zm zl zf p1 p2).2.1 zu zr (f_X2_settle zo zt zm zl zf p1 p2).2.2 zf (f_X3_settle mc mw mn me mz mf p1 p2).2.1 (f_X3_settle mc mw mn me mz mf p1 p2).2.2.1 (f_X3_settle mc mw mn me mz mf p1 p2).2.2.2.1 (f_X3_settle mc mw mn me mz mf p1 p2).2.2.2.2.1 mu mr (f_X3_settle mc mw mn me mz mf p1 p2).2.2.2.2.2.1 mf)
    ∨ (¬ f_X2_settle_x zl zf p1 p2 = 0 ∧ (f_X3_settle mc mw mn me mz mf p1 p2).2.2.2.2.2.2 = nI (if f_X2_settle_x zl zf p1 p2 = 3 then 2 else f_X2_settle_x zl zf p1 p2) ∧ Rl zb zo zt zm zu zr zl zf (f_X3_settle mc mw mn me mz mf p1 p2).2.1 (f_X3_settle mc mw mn me mz mf p1 p2).2.2.1 (f_X3_settle mc mw mn me mz mf p1 p2).2.2.2.1 (f_X3_settle mc mw mn me mz mf p1 p2).2.2.2.2.1 mu mr (f_X3_settle mc mw mn me mz mf p1 p2).2.2.2.2.2.1 mf) := by
  obtain ⟨⟨i0, i1, i2, i3⟩, ⟨m0, m1, m2, m3⟩, ru, rr, rl, re, rf, rq, rz⟩ := id R
  by_cases h1 : vp_in p1 mz.1
  · have hb := rl.2.1
    obtain ⟨j, hj, rfl⟩ := vp_in_of h1 (by omega)
    have eh := (c_holds rl.1 rl.2.1).1 h1
    have eq0 : f_X2_requireConflict_x zl (nI j) = 0 := by rw [f_X2_requireConflict_x, eh, if_neg (by decide)]
    have el := (m_listed rl.2.1).1 h1
    obtain ⟨a1, a2, a3, a4⟩ := c_at rl hj
    have hn : ¬ (1 : Int32) = 0 := by decide
    by_cases hs : p2 = 1 ∨ p2 = 2
    · have hin : ¬ f_X3_isIn p2 1 2 = 0 := by rcases hs with rfl | rfl <;> decide
      by_cases hf : zf = 0
      · have eX : f_X2_settle_x zl zf (nI j) p2 = 3 := by
          rw [f_X2_settle_x, if_pos eq0]
          rcases hs with rfl | rfl
          · rw [if_pos rfl, if_pos hf]
          · rw [if_neg (by decide), if_pos rfl, if_pos hf]
        have eM : f_X3_settle mc mw mn me mz mf (nI j) p2 = (0, mc, mw, mn, me, mz, 2) := by
          rw [f_X3_settle, el, if_neg hn, if_neg hin, nI_clamp (by omega)]
          by_cases w : mz.2.2.2.2 j = 0
          · rw [if_pos w, if_pos (rq.symm.trans hf)]
          · rw [if_neg w]
        exact Or.inr ⟨by rw [eX]; decide, by rw [eX, eM]; rfl, by rw [eM]; exact R⟩
      · have hf2 : ¬ mf = 0 := fun z => hf (rq.trans z)
        by_cases w : mz.2.2.2.2 j = 0
        · have a5 : f_X0_isSettled zl (nI j) = 0 := by rw [a4, if_pos w]
          have eX : f_X2_settle_x zl zf (nI j) p2 = 0 := by
            rw [f_X2_settle_x, if_pos eq0]
            rcases hs with rfl | rfl
            · rw [if_pos rfl, if_neg hf, if_pos a5]
            · rw [if_neg (by decide), if_pos rfl, if_neg hf, if_pos a5]
          have eM := m_settle_go (mc := mc) (mw := mw) (mn := mn) (me := me) (K := p2) rl.2.1 hj hin w hf2
          obtain ⟨L1, L2⟩ := lR_mark rl hj w
          have hz1 : zf = 1 := rz.resolve_left hf
          have ef := rf hz1 j hj
          have er := re j hj
          rcases hs with rfl | rfl
          · have eC : f_X2_settle zo zt zm zl zf (nI j) 1 = ((f_X0_markSettled zl (nI j)).2.1, tkC zo zm (mz.2.1 j) (mz.2.2.1 j) (mz.2.2.2.1 j), f_X0_markSettled zl (nI j)) := by
              rw [f_X2_settle, if_pos eq0, if_pos rfl, if_neg hf, if_pos a5, a1, a2, a3, tk_o]
            obtain ⟨t1, t2, t3⟩ := take_ok (K := 1) (j := 1) i3 m3 i1 m1 rfl (by decide) er ⟨fun k1 r c hr hc e f => ⟨(ef.1 k1 r c hr hc e f).1, (ef.1 k1 r c hr hc e f).1⟩, fun k4 c hc e => ⟨(ef.2 k4 c hc e).1, (ef.2 k4 c hc e).1⟩⟩
            exact Or.inl ⟨eX, by rw [eM], by rw [eC, eM]; exact L2, by rw [eC, eM]; exact ⟨⟨i0, i1, i2, t1⟩, ⟨t3 0 _ (by decide) (by decide) m0, t3 1 _ (by decide) (by decide) m1, t3 2 _ (by decide) (by decide) m2, t2⟩, ru, rr, L1, re, rf, rq, rz⟩⟩
          · have eC : f_X2_settle zo zt zm zl zf (nI j) 2 = ((f_X0_markSettled zl (nI j)).2.1, tkC zt zm (mz.2.1 j) (mz.2.2.1 j) (mz.2.2.2.1 j), f_X0_markSettled zl (nI j)) := by
              rw [f_X2_settle, if_pos eq0, if_neg (show ¬ (2 : Int32) = 1 by decide), if_pos rfl, if_neg hf, if_pos a5, a1, a2, a3, tk_t]
            obtain ⟨t1, t2, t3⟩ := take_ok (K := 2) (j := 2) i3 m3 i2 m2 rfl (by decide) er ⟨fun k1 r c hr hc e f => ⟨(ef.1 k1 r c hr hc e f).2, (ef.1 k1 r c hr hc e f).2⟩, fun k4 c hc e => ⟨(ef.2 k4 c hc e).2, (ef.2 k4 c hc e).2⟩⟩
            exact Or.inl ⟨eX, by rw [eM], by rw [eC, eM]; exact L2, by rw [eC, eM]; exact ⟨⟨i0, i1, i2, t1⟩, ⟨t3 0 _ (by decide) (by decide) m0, t3 1 _ (by decide) (by decide) m1, t3 2 _ (by decide) (by decide) m2, t2⟩, ru, rr, L1, re, rf, rq, rz⟩⟩
        · have a5 : ¬ f_X0_isSettled zl (nI j) = 0 := by rw [a4, if_neg w]; decide
          have eX : f_X2_settle_x zl zf (nI j) p2 = 3 := by
            rw [f_X2_settle_x, if_pos eq0]
            rcases hs with rfl | rfl
            · rw [if_pos rfl, if_neg hf, if_neg a5]
            · rw [if_neg (by decide), if_pos rfl, if_neg hf, if_neg a5]
          have eM : f_X3_settle mc mw mn me mz mf (nI j) p2 = (0, mc, mw, mn, me, mz, 2) := by
            rw [f_X3_settle, el, if_neg hn, if_neg hin, nI_clamp (by omega), if_neg w]
          exact Or.inr ⟨by rw [eX]; decide, by rw [eX, eM]; rfl, by rw [eM]; exact R⟩
    · have eX : f_X2_settle_x zl zf (nI j) p2 = 1 := by rw [f_X2_settle_x, if_pos eq0, if_neg (fun z => hs (Or.inl z)), if_neg (fun z => hs (Or.inr z))]
      have eM : f_X3_settle mc mw mn me mz mf (nI j) p2 = (0, mc, mw, mn, me, mz, 1) := by rw [f_X3_settle, el, if_neg hn, if_pos (side_f (fun z => hs (Or.inl z)) (fun z => hs (Or.inr z)))]
      exact Or.inr ⟨by rw [eX]; decide, by rw [eX, eM]; rfl, by rw [eM]; exact R⟩
  · have eX : f_X2_settle_x zl zf p1 p2 = 1 := by rw [f_X2_settle_x, f_X2_requireConflict_x, (c_holds rl.1 rl.2.1).2 h1, if_pos rfl, if_neg (by decide)]
    have eM : f_X3_settle mc mw mn me mz mf p1 p2 = (0, mc, mw, mn, me, mz, 1) := by rw [f_X3_settle, (m_listed rl.2.1).2 h1, if_pos rfl]
    exact Or.inr ⟨by rw [eX]; decide, by rw [eX, eM]; rfl, by rw [eM]; exact R⟩
end Settle
