/-! ===== what a change of one table does, in the class and in the reference ===== -/
theorem u_s {α : Type} {f : Nat → Int32} {k : Nat} {x : Int32} : upd f k x k = x := pk_us
theorem it_z_out {g : Nat → Nat} {v : Int32} {f : Nat → Int32} {j : Nat} : ∀ {n : Nat}, (∀ i, i < n → j ≠ g i) → it (fun i z => upd z (g i) v) f n j = f j
  | 0, _ => rfl
  | n + 1, h => by
    show upd (it (fun i z => upd z (g i) v) f n) (g n) v j = f j
    rw [pk_un (h n (Nat.lt_succ_self n)), it_z_out (fun i hi => h i (Nat.lt_succ_of_lt hi))]
theorem it_z_in {g : Nat → Nat} {v : Int32} {f : Nat → Int32} {i : Nat} : ∀ {n : Nat}, i < n → it (fun i z => upd z (g i) v) f n (g i) = v
  | 0, h => absurd h (Nat.not_lt_zero _)
  | n + 1, h => by
    show upd (it (fun i z => upd z (g i) v) f n) (g n) v (g i) = v
    by_cases e : g i = g n
    · rw [e]; exact pk_us
    · rw [pk_un e]
      rcases Nat.lt_or_ge i n with q | q
      · exact it_z_in q
      · exact absurd (by rw [show i = n by omega]) e
theorem cel_iff {t : Tr} {r c : Nat} : cel t r c = true ↔ bt t.2.1 r = true ∧ bt t.1 c = true := by rw [cel, Bool.and_eq_true]
theorem cel_f {t : Tr} {r c : Nat} (h : ¬ (bt t.2.1 r = true ∧ bt t.1 c = true)) : cel t r c = false := by
  cases e : cel t r c
  · rfl
  · exact absurd (cel_iff.mp e) h
theorem bt_or {s : Int32} {c i : Nat} (hc : c < 32) : bt (s ||| ((1 : Int32) <<< (nI c &&& 31))) i = true ↔ bt s i = true ∨ i = c := by
  rw [b_or, b_bit hc, Bool.or_eq_true, decide_eq_true_eq]
theorem bt_an {s : Int32} {c i : Nat} (hc : c < 32) (hi : i < 32) : bt (s &&& (((1 : Int32) <<< (nI c &&& 31)) ^^^ (-1))) i = true ↔ bt s i = true ∧ i ≠ c := by
  rw [b_and, b_nbit hc hi, Bool.and_eq_true, Bool.not_eq_true', decide_eq_false_iff_not]
theorem bt_anb {s : Int32} {c i : Nat} (h : bt s i = false) : bt (s &&& (((1 : Int32) <<< (nI c &&& 31)) ^^^ (-1))) i = false := by rw [b_and, h, Bool.false_and]
theorem nf {b : Bool} (h : ¬ b = true) : b = false := by cases b; rfl; exact absurd rfl h
theorem nt {b : Bool} (h : b = false) : ¬ b = true := by rw [h]; decide
section Tab
variable {k r c : Nat} {t : Tr}
/-! a column comes -/
theorem c_putColumn (hc : c < 8) (n : Int32) : f_X1_putColumn t (nI c) n = (t.1 ||| ((1 : Int32) <<< (nI c &&& 31)), t.2.1, upd t.2.2.1 c n, t.2.2.2) := by
  rw [f_X1_putColumn, f_X2_isColumnNumber, if_neg (nI_pos (by omega)), if_neg (show ¬ (8 : Int32) ≤ nI c from nI_ge hc (by decide)), if_neg (by decide), nI_clamp (by omega)]
theorem tI_putColumn (h : tI t) (hc : c < 8) (n : Int32) (hn : bt t.1 c = false) : tI (f_X1_putColumn t (nI c) n) := by
  rw [c_putColumn hc]
  refine ⟨fun i hi => nf (fun z => ?_), h.2.1, fun d hd hb => ?_, fun q d hq hd hb => ?_⟩
  · rcases (bt_or (by omega)).mp z with z | z
    · exact nt (h.1 i hi) z
    · omega
  · have h1 : ¬ (bt t.1 d = true ∨ d = c) := fun z => nt hb ((bt_or (by omega)).mpr z)
    show upd t.2.2.1 c n d = 0
    rw [pk_un (fun z => h1 (Or.inr z))]
    exact h.2.2.1 d hd (nf (fun z => h1 (Or.inl z)))
  · refine h.2.2.2 q d hq hd (cel_f (fun z => ?_))
    exact nt hb (cel_iff.mpr ⟨z.1, (bt_or (by omega)).mpr (Or.inl z.2)⟩)
/-! a column goes -/
theorem c_putCell (hr : r < 24) (hc : c < 8) (x : Int32) : f_X1_putCell t (nI r) (nI c) x = if cel t r c = true then (t.1, t.2.1, t.2.2.1, upd t.2.2.2 (r * 8 + c) x) else t := by
  rw [f_X1_putCell, c_hasCell hr hc, ite_iB, ix_1 hr hc]
theorem c_cutLoopC (h : tI t) (hc : c < 8) : ∀ n, n ≤ 24 → (fun (n : Nat) (x : Tr) => x.1 = t.1 ∧ x.2.1 = t.2.1 ∧ x.2.2.1 = t.2.2.1 ∧ ∀ q d, q < 24 → d < 8 → x.2.2.2 (q * 8 + d) = if d = c ∧ q < n then 0 else t.2.2.2 (q * 8 + d)) n (it (fun (i9 : Nat) (z9 : Tr) => f_X1_cutColumn_sa (nI c) i9 z9) t n) := fun n hn => by
  refine it_inv (P := fun (n : Nat) (x : Tr) => x.1 = t.1 ∧ x.2.1 = t.2.1 ∧ x.2.2.1 = t.2.2.1 ∧ ∀ q d, q < 24 → d < 8 → x.2.2.2 (q * 8 + d) = if d = c ∧ q < n then 0 else t.2.2.2 (q * 8 + d)) ⟨rfl, rfl, rfl, fun q d _ _ => by rw [if_neg (by omega)]⟩ (fun i hi x hx => ?_)
  obtain ⟨x1, x2, x3, x4⟩ := hx
  have ec : ∀ q d, cel x q d = cel t q d := fun q d => by rw [cel, cel, x1, x2]
  show (f_X1_cutColumn_sa (nI c) i x).1 = t.1 ∧ _
  rw [f_X1_cutColumn_sa, c_putCell (by omega) hc, ec]
  cases e : cel t i c
  · rw [if_neg (by decide)]
    refine ⟨x1, x2, x3, fun q d hq hd => ?_⟩
    rw [x4 q d hq hd]
    by_cases e1 : d = c ∧ q < i
    · rw [if_pos e1, if_pos ⟨e1.1, by omega⟩]
    · rw [if_neg e1]
      by_cases e2 : d = c ∧ q < i + 1
      · rw [if_pos e2]
        have : q = i := by omega
        rw [this, e2.1]
        exact h.2.2.2 i c (by omega) hc e
      · rw [if_neg e2]
  · rw [if_pos rfl]
    refine ⟨x1, x2, x3, fun q d hq hd => ?_⟩
    show upd x.2.2.2 (i * 8 + c) 0 (q * 8 + d) = _
    by_cases e1 : q * 8 + d = i * 8 + c
    · rw [e1, pk_us, if_pos (by omega)]
    · rw [pk_un e1, x4 q d hq hd]
      by_cases e2 : d = c ∧ q < i
      · rw [if_pos e2, if_pos (by omega)]
      · rw [if_neg e2, if_neg (by omega)]
theorem c_cutColumn (h : tI t) (hc : c < 8) (hb : bt t.1 c = true) : ∃ g : Nat → Int32, f_X1_cutColumn t (nI c) = (t.1 &&& (((1 : Int32) <<< (nI c &&& 31)) ^^^ (-1)), t.2.1, upd t.2.2.1 c 0, g) ∧ ∀ q d, q < 24 → d < 8 → g (q * 8 + d) = if d = c then 0 else t.2.2.2 (q * 8 + d) := by
  obtain ⟨x1, x2, x3, x4⟩ := c_cutLoopC h hc 24 (Nat.le_refl _)
  refine ⟨(it (fun (i9 : Nat) (z9 : Tr) => f_X1_cutColumn_sa (nI c) i9 z9) t 24).2.2.2, ?_, fun q d hq hd => ?_⟩
  · rw [f_X1_cutColumn, c_hasColumn hc, ite_iB, if_pos hb, x1, x2, x3, nI_clamp (by omega)]
  · rw [x4 q d hq hd]
    by_cases e : d = c
    · rw [if_pos e, if_pos ⟨e, hq⟩]
    · rw [if_neg e, if_neg (fun z => e z.1)]
theorem tI_cutColumn (h : tI t) (hc : c < 8) (hb : bt t.1 c = true) : tI (f_X1_cutColumn t (nI c)) := by
  obtain ⟨g, e, hg⟩ := c_cutColumn h hc hb
  rw [e]
  refine ⟨fun i hi => bt_anb (h.1 i hi), h.2.1, fun d hd z => ?_, fun q d hq hd z => ?_⟩
  · show upd t.2.2.1 c 0 d = 0
    by_cases e : d = c
    · rw [e, pk_us]
    · rw [pk_un e]
      exact h.2.2.1 d hd (nf (fun w => nt z ((bt_an (by omega) (by omega)).mpr ⟨w, e⟩)))
  · show g (q * 8 + d) = 0
    rw [hg q d hq hd]
    by_cases e : d = c
    · rw [if_pos e]
    · rw [if_neg e]
      exact h.2.2.2 q d hq hd (cel_f (fun w => nt z (cel_iff.mpr ⟨w.1, (bt_an (by omega) (by omega)).mpr ⟨w.2, e⟩⟩)))
/-! a name, a row, a cell -/
theorem c_putName (hc : c < 8) (hb : bt t.1 c = true) (n : Int32) : f_X1_putName t (nI c) n = (t.1, t.2.1, upd t.2.2.1 c n, t.2.2.2) := by
  rw [f_X1_putName, c_hasColumn hc, ite_iB, if_pos hb, nI_clamp (by omega)]
theorem c_putName_o (hc : c < 8) (hb : bt t.1 c = false) (n : Int32) : f_X1_putName t (nI c) n = t := by
  rw [f_X1_putName, c_hasColumn hc, ite_iB, if_neg (nt hb)]
theorem tI_putName (h : tI t) (hc : c < 8) (hb : bt t.1 c = true) (n : Int32) : tI (f_X1_putName t (nI c) n) := by
  rw [c_putName hc hb]
  refine ⟨h.1, h.2.1, fun d hd z => ?_, h.2.2.2⟩
  show upd t.2.2.1 c n d = 0
  rw [pk_un (fun e => nt z (by rw [e]; exact hb))]
  exact h.2.2.1 d hd z
theorem c_putRow (hr : r < 24) : f_X1_putRow t (nI r) = (t.1, t.2.1 ||| ((1 : Int32) <<< (nI r &&& 31)), t.2.2.1, t.2.2.2) := by
  rw [f_X1_putRow, f_X2_isKey, if_neg (nI_pos (by omega)), if_neg (show ¬ (24 : Int32) ≤ nI r from nI_ge hr (by decide)), if_neg (by decide)]
theorem tI_putRow (h : tI t) (hr : r < 24) : tI (f_X1_putRow t (nI r)) := by
  rw [c_putRow hr]
  refine ⟨h.1, fun i hi => nf (fun z => ?_), h.2.2.1, fun q d hq hd hb => ?_⟩
  · rcases (bt_or (by omega)).mp z with z | z
    · exact nt (h.2.1 i hi) z
    · omega
  · exact h.2.2.2 q d hq hd (cel_f (fun z => nt hb (cel_iff.mpr ⟨(bt_or (by omega)).mpr (Or.inl z.1), z.2⟩)))
theorem c_cutLoopR (h : tI t) (hr : r < 24) : ∀ n, n ≤ 8 → (fun (n : Nat) (x : Tr) => x.1 = t.1 ∧ x.2.1 = t.2.1 ∧ x.2.2.1 = t.2.2.1 ∧ ∀ q d, q < 24 → d < 8 → x.2.2.2 (q * 8 + d) = if q = r ∧ d < n then 0 else t.2.2.2 (q * 8 + d)) n (it (fun (i9 : Nat) (z9 : Tr) => f_X1_cutRow_sa (nI r) i9 z9) t n) := fun n hn => by
  refine it_inv (P := fun (n : Nat) (x : Tr) => x.1 = t.1 ∧ x.2.1 = t.2.1 ∧ x.2.2.1 = t.2.2.1 ∧ ∀ q d, q < 24 → d < 8 → x.2.2.2 (q * 8 + d) = if q = r ∧ d < n then 0 else t.2.2.2 (q * 8 + d)) ⟨rfl, rfl, rfl, fun q d _ _ => by rw [if_neg (by omega)]⟩ (fun i hi x hx => ?_)
  obtain ⟨x1, x2, x3, x4⟩ := hx
  have ec : ∀ q d, cel x q d = cel t q d := fun q d => by rw [cel, cel, x1, x2]
  show (f_X1_cutRow_sa (nI r) i x).1 = t.1 ∧ _
  rw [f_X1_cutRow_sa, c_putCell hr (by omega), ec]
  cases e : cel t r i
  · rw [if_neg (by decide)]
    refine ⟨x1, x2, x3, fun q d hq hd => ?_⟩
    rw [x4 q d hq hd]
    by_cases e1 : q = r ∧ d < i
    · rw [if_pos e1, if_pos ⟨e1.1, by omega⟩]
    · rw [if_neg e1]
      by_cases e2 : q = r ∧ d < i + 1
      · rw [if_pos e2]
        have : d = i := by omega
        rw [this, e2.1]
        exact h.2.2.2 r i hr (by omega) e
      · rw [if_neg e2]
  · rw [if_pos rfl]
    refine ⟨x1, x2, x3, fun q d hq hd => ?_⟩
    show upd x.2.2.2 (r * 8 + i) 0 (q * 8 + d) = _
    by_cases e1 : q * 8 + d = r * 8 + i
    · rw [e1, pk_us, if_pos (by omega)]
    · rw [pk_un e1, x4 q d hq hd]
      by_cases e2 : q = r ∧ d < i
      · rw [if_pos e2, if_pos (by omega)]
      · rw [if_neg e2, if_neg (by omega)]
theorem c_cutRow (h : tI t) (hr : r < 24) (hb : bt t.2.1 r = true) : ∃ g : Nat → Int32, f_X1_cutRow t (nI r) = (t.1, t.2.1 &&& (((1 : Int32) <<< (nI r &&& 31)) ^^^ (-1)), t.2.2.1, g) ∧ ∀ q d, q < 24 → d < 8 → g (q * 8 + d) = if q = r then 0 else t.2.2.2 (q * 8 + d) := by
  obtain ⟨x1, x2, x3, x4⟩ := c_cutLoopR h hr 8 (Nat.le_refl _)
  refine ⟨(it (fun (i9 : Nat) (z9 : Tr) => f_X1_cutRow_sa (nI r) i9 z9) t 8).2.2.2, ?_, fun q d hq hd => ?_⟩
  · rw [f_X1_cutRow, c_hasRow hr, ite_iB, if_pos hb, x1, x2, x3]
  · rw [x4 q d hq hd]
    by_cases e : q = r
    · rw [if_pos e, if_pos ⟨e, hd⟩]
    · rw [if_neg e, if_neg (fun z => e z.1)]
theorem tI_cutRow (h : tI t) (hr : r < 24) (hb : bt t.2.1 r = true) : tI (f_X1_cutRow t (nI r)) := by
  obtain ⟨g, e, hg⟩ := c_cutRow h hr hb
  rw [e]
  refine ⟨h.1, fun i hi => bt_anb (h.2.1 i hi), h.2.2.1, fun q d hq hd z => ?_⟩
  show g (q * 8 + d) = 0
  rw [hg q d hq hd]
  by_cases e : q = r
  · rw [if_pos e]
  · rw [if_neg e]
    exact h.2.2.2 q d hq hd (cel_f (fun w => nt z (cel_iff.mpr ⟨(bt_an (by omega) (by omega)).mpr ⟨w.1, e⟩, w.2⟩)))
theorem tI_putCell (h : tI t) (hr : r < 24) (hc : c < 8) (x : Int32) : tI (f_X1_putCell t (nI r) (nI c) x) := by
  rw [c_putCell hr hc]
  cases e : cel t r c
  · rw [if_neg (by decide)]; exact h
  · rw [if_pos rfl]
    refine ⟨h.1, h.2.1, h.2.2.1, fun q d hq hd z => ?_⟩
    show upd t.2.2.2 (r * 8 + c) x (q * 8 + d) = 0
    by_cases e1 : q * 8 + d = r * 8 + c
    · have e2 : q = r := by omega
      have e3 : d = c := by omega
      rw [e2, e3] at z
      exact absurd (show cel t r c = false from z) (by rw [e]; decide)
    · rw [pk_un e1]
      exact h.2.2.2 q d hq hd z
end Tab

