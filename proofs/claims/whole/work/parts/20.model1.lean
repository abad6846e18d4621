/-! the model's list of conflicts: how many, kinds, keys, columns, settled -/
abbrev Kr : Type := Nat × (Nat → Int32) × (Nat → Int32) × (Nat → Int32) × (Nat → Int32)
abbrev wN (cyI cyZ : ClassId) (a : Nat → Nat) (mc mw mn me mu mr : Nat → Int32) (mz : Kr) (mf mt : Int32) : va_W := [(a 0, .inr (3, [.ref (a 1), .ref (a 2), .ref (a 3), .ref (a 4), .ref (a 5), .ref (a 6), .int (nI mz.1), .int mf, .ref (a 7), .ref (a 8), .ref (a 9), .ref (a 10), .int mt])),
  (a 1, .inl (cyI, 4, .inl mc)), (a 2, .inl (cyI, 4, .inl mw)), (a 3, .inl (cyI, 32, .inl mn)), (a 4, .inl (cyI, 768, .inl me)), (a 5, .inl (cyI, 8, .inl mu)), (a 6, .inl (cyZ, 8, .inl mr)), (a 7, .inl (cyI, 440, .inl mz.2.1)), (a 8, .inl (cyI, 440, .inl mz.2.2.1)), (a 9, .inl (cyI, 440, .inl mz.2.2.2.1)), (a 10, .inl (cyZ, 440, .inl mz.2.2.2.2))]
theorem vi_add {a b : Int32} {m n k : Nat} (h1 : vp_in a m) (h2 : vp_in b n) (h : m + n ≤ k + 1) (hk : k ≤ 1000000) : vp_in (a + b) k := by
  have q1 := vp_in_iff.mp h1
  have q2 := vp_in_iff.mp h2
  obtain ⟨i, hi, rfl⟩ := vp_in_of h1 (by omega)
  obtain ⟨j, hj, rfl⟩ := vp_in_of h2 (by omega)
  rw [nI_add]
  exact vp_in_nI (by omega) (by omega)
theorem vi_mul {a C : Int32} {c m k : Nat} (hC : C = nI c) (h1 : vp_in a m) (h : c * (m - 1) < k) (hk : k ≤ 1000000) (hm : m ≤ 1000000) : vp_in (C * a) k := by
  obtain ⟨i, hi, rfl⟩ := vp_in_of h1 (by omega)
  rw [hC, pk_mul]
  exact vp_in_nI (Nat.lt_of_le_of_lt (Nat.mul_le_mul_left c (by omega)) h) (by omega)
theorem bz_or {a b : Int32} (ha : a = 0 ∨ a = 1) (hb : b = 0 ∨ b = 1) : a ||| b = 0 ∨ a ||| b = 1 := by
  rcases ha with rfl | rfl <;> rcases hb with rfl | rfl <;> decide
theorem it_Pi {σ : Type} {P : Nat → σ → Prop} {f : Nat → σ → σ} {s : σ} (h0 : P 0 s) (hs : ∀ (i : Nat) (x : σ), P i x → P (i + 1) (f i x)) : ∀ n : Nat, P n (it f s n)
  | 0 => h0
  | n + 1 => hs n _ (it_Pi h0 hs n)
def f_X3_isIn (p1 : Int32) (p2 : Int32) (p3 : Int32) : Int32 := if p1 < p2 then 0 else (if p3 < p1 then 0 else 1)
set_option maxHeartbeats 4000000 in
set_option maxRecDepth 100000 in
theorem k_X3_isIn (l : Launch) (D : va_G) (cyI cyZ : ClassId) (p1 : Int32) (p2 : Int32) (p3 : Int32) : Met l yX3_isIn wsX3_isIn ({ frames := 0, cells := 0, slots := 0, locals := 0 } : Room) (pcP D cyI cyZ [.int p1, .int p2, .int p3] ([])) (qI (f_X3_isIn p1 p2 p3)) 0 0 nA := by
  refine Met.ofW (cc := cX3_isIn) (maxL := 3) (ret := (some .boolean)) (by decide) rfl ?_
  intro p e s m args below meth c s₁ B hml hv
  obtain ⟨rfl, hP, hG⟩ := hv
  have hx := B.exec
  have hb := B.bytes
  have hr := B.returns
  have hts := atoms_spec (ws := wsX3_isIn) B.pre
  have hown : s.vm.findClass RX3 = some m.cls := findClass_of_methodNamed B.named
  have hlocks := B.notSynchronized
  have hS : va_S nA s.heap s.heap [] := va_S.rf
  have hl := lv_entry ([.int p1, .int p2, .int p3]) (n := 3) (Nat.le_of_ble_eq_true rfl)
  rw [lg_entry_eq]
  generalize (lg_sl ([.int p1, .int p2, .int p3]) ++ List.replicate (3 - (lg_sl ([.int p1, .int p2, .int p3])).length) Slot.unset).toArray = ls at hl ⊢
  have hl : lv_has ls 3 [(0, .int p1), (1, .int p2), (2, .int p3)] := hl
  have hP : va_P D vwCl ([]) s.heap := hP
  refine lv_iload_n hx hb dX3_isIn_0 rfl (lv_at hl 0 rfl) ?_
  refine lv_iload_n hx hb dX3_isIn_1 rfl (lv_at hl 1 rfl) ?_
  refine lv_icmp_lt (tgt := 14) hx hb dX3_isIn_2 (by decide) (fun c_2 => ?_) (fun c_2 => ?_)
  · refine lv_iconst (v := 0) hx hb dX3_isIn_14 (by decide) ?_
    have ef : f_X3_isIn p1 p2 p3 = 0 := by rw [f_X3_isIn, if_pos c_2]
    exact W.zret (v := 0) (ty := .boolean) hx hb hr rfl (fun t ht hW => ⟨⟨0, (), rfl, ef.symm, trivial⟩, hS.F ht⟩) hS.2.2 dX3_isIn_15
  · refine lv_iload_n hx hb dX3_isIn_5 rfl (lv_at hl 0 rfl) ?_
    refine lv_iload_n hx hb dX3_isIn_6 rfl (lv_at hl 2 rfl) ?_
    refine lv_icmp_gt (tgt := 14) hx hb dX3_isIn_7 (by decide) (fun c_7 => ?_) (fun c_7 => ?_)
    · refine lv_iconst (v := 0) hx hb dX3_isIn_14 (by decide) ?_
      have ef : f_X3_isIn p1 p2 p3 = 0 := by rw [f_X3_isIn, if_neg c_2, if_pos c_7]
      exact W.zret (v := 0) (ty := .boolean) hx hb hr rfl (fun t ht hW => ⟨⟨0, (), rfl, ef.symm, trivial⟩, hS.F ht⟩) hS.2.2 dX3_isIn_15
    · refine lv_iconst (v := 1) hx hb dX3_isIn_10 (by decide) ?_
      refine lv_goto (tgt := 15) hx hb dX3_isIn_11 (by decide) ?_
      have ef : f_X3_isIn p1 p2 p3 = 1 := by rw [f_X3_isIn, if_neg c_2, if_neg c_7]
      exact W.zret (v := 1) (ty := .boolean) hx hb hr rfl (fun t ht hW => ⟨⟨1, (), rfl, ef.symm, trivial⟩, hS.F ht⟩) hS.2.2 dX3_isIn_15
theorem in_isIn {x lo hi : Int32} {n : Nat} (hn : hi = nI n) (h0 : 0 ≤ lo ∧ n < 1000000) (h : ¬ f_X3_isIn x lo hi = 0) : vp_in x (n + 1) := by
  rw [f_X3_isIn] at h
  obtain ⟨h0, h9⟩ := h0
  rw [vp_in_iff]
  have e0 : (0 : Int32).toInt = 0 := by decide
  rw [Int32.le_iff_toInt_le, e0] at h0
  by_cases h1 : x < lo
  · rw [if_pos h1] at h; exact absurd rfl h
  · by_cases h2 : hi < x
    · rw [if_neg h1, if_pos h2] at h; exact absurd rfl h
    · rw [Int32.not_lt, Int32.le_iff_toInt_le] at h1
      rw [Int32.not_lt, Int32.le_iff_toInt_le, hn, nI_toInt (by omega)] at h2
      omega
def f_X3_count_sa (p1 : Int32) (ia : Nat) (va_1 : Int32) : Int32 := va_1 + ((p1 >>> ((nI ia) &&& 31)) &&& 1)
def f_X3_count_la (p1 : Int32) : Int32 := it (fun (i9 : Nat) (z9 : Int32) => f_X3_count_sa p1 i9 z9) 0 24
def f_X3_count (p1 : Int32) : Int32 := (f_X3_count_la p1)
set_option maxHeartbeats 4000000 in
set_option maxRecDepth 100000 in
theorem k_X3_count (l : Launch) (D : va_G) (cyI cyZ : ClassId) (p1 : Int32) : Met l yX3_count wsX3_count ({ frames := 0, cells := 0, slots := 0, locals := 0 } : Room) (pcP D cyI cyZ [.int p1] ([])) (qI (f_X3_count p1)) 0 0 nA := by
  refine Met.ofW (cc := cX3_count) (maxL := 3) (ret := (some .int)) (by decide) rfl ?_
  intro p e s m args below meth c s₁ B hml hv
  obtain ⟨rfl, hP, hG⟩ := hv
  have hx := B.exec
  have hb := B.bytes
  have hr := B.returns
  have hts := atoms_spec (ws := wsX3_count) B.pre
  have hown : s.vm.findClass RX3 = some m.cls := findClass_of_methodNamed B.named
  have hlocks := B.notSynchronized
  have hS : va_S nA s.heap s.heap [] := va_S.rf
  have hl := lv_entry ([.int p1]) (n := 3) (Nat.le_of_ble_eq_true rfl)
  rw [lg_entry_eq]
  generalize (lg_sl ([.int p1]) ++ List.replicate (3 - (lg_sl ([.int p1])).length) Slot.unset).toArray = ls at hl ⊢
  have hl : lv_has ls 3 [(0, .int p1)] := hl
  have hP : va_P D vwCl ([]) s.heap := hP
  refine lv_iconst (v := 0) hx hb dX3_count_0 (by decide) ?_
  refine lv_istore_n (lv' := [(1, .int 0), (0, .int p1)]) hx hb dX3_count_1 rfl hl (by decide) rfl (fun ls hl => ?_)
  refine lv_iconst (v := 0) hx hb dX3_count_2 (by decide) ?_
  refine lv_istore_n (lv' := [(2, .int 0), (1, .int 0), (0, .int p1)]) hx hb dX3_count_3 rfl hl (by decide) rfl (fun ls hl => ?_)
  have lp_a : ∀ (n ia : Nat), ia + n = 24 → ∀ (va_1 : Int32), va_1 = it (fun (i9 : Nat) (z9 : Int32) => f_X3_count_sa p1 i9 z9) 0 ia → ∀ (H : Heap) (locs : List Loc), va_P D vwCl ([]) H → va_S nA s.heap H locs → ∀ (ls : Array Slot), lv_has ls 3 [(2, .int (nI ia)), (1, .int va_1), (0, .int p1)] → W p l e (headSpec wsX3_count ({ frames := 0, cells := 0, slots := 0, locals := 0 } : Room)).room s m ([.int p1] : List Value).toArray below meth c H locs 0 0 (MQ below (qI (f_X3_count p1)) ([.int p1] : List Value).toArray s 0 0 nA) (F0 m 4 ls []) := by
    intro n
    induction n with
    | zero =>
      intro ia hi_a va_1 hs_a H locs hP hS ls hl
      obtain rfl : 24 = ia := by omega
      obtain rfl : va_1 = (f_X3_count_la p1) := hs_a
      refine lv_iload_n hx hb dX3_count_4 rfl (lv_at hl 0 rfl) ?_
      refine lv_bipush (v := 24) hx hb dX3_count_5 (by decide) ?_
      refine lv_icmp_ge (tgt := 24) hx hb dX3_count_7 (by decide) (fun c_7 => ?_) (fun c_7 => ?_)
      · refine lv_iload_n hx hb dX3_count_24 rfl (lv_at hl 1 rfl) ?_
        have ef : f_X3_count p1 = (f_X3_count_la p1) := by rw [f_X3_count]
        exact W.iret (v := (f_X3_count_la p1)) hx hb hr (fun t ht hW => ⟨⟨(f_X3_count_la p1), (), rfl, ef.symm, trivial⟩, hS.F ht⟩) hS.2.2 dX3_count_25
      · exact absurd (by decide) c_7
    | succ n ih_a =>
      intro ia hi_a va_1 hs_a H locs hP hS ls hl
      have hj_a : ia < 24 := by omega
      refine lv_iload_n hx hb dX3_count_4 rfl (lv_at hl 0 rfl) ?_
      refine lv_bipush (v := 24) hx hb dX3_count_5 (by decide) ?_
      refine lv_icmp_ge (tgt := 24) hx hb dX3_count_7 (by decide) (fun c_7 => ?_) (fun c_7 => ?_)
      · exact absurd c_7 (nI_ge hj_a (by decide))
      · refine lv_iload_n hx hb dX3_count_10 rfl (lv_at hl 1 rfl) ?_
        refine lv_iload_n hx hb dX3_count_11 rfl (lv_at hl 2 rfl) ?_
        refine lv_iload_n hx hb dX3_count_12 rfl (lv_at hl 0 rfl) ?_
        refine lv_ishr hx hb dX3_count_13 ?_
        refine lv_iconst (v := 1) hx hb dX3_count_14 (by decide) ?_
        refine lv_iand hx hb dX3_count_15 ?_
        refine lv_iadd hx hb dX3_count_16 ?_
        refine lv_istore_n (lv' := [(1, .int (va_1 + ((p1 >>> ((nI ia) &&& 31)) &&& 1))), (2, .int (nI ia)), (0, .int p1)]) hx hb dX3_count_17 rfl hl (by decide) rfl (fun ls hl => ?_)
        refine lv_iinc (v := nI (ia + 1)) (lv' := [(2, .int (nI (ia + 1))), (1, .int (va_1 + ((p1 >>> ((nI ia) &&& 31)) &&& 1))), (0, .int p1)]) hx hb dX3_count_18 hl (k := 1) rfl (nI_1 _) (by decide) rfl (fun ls hl => ?_)
        refine lv_goto (tgt := 4) hx hb dX3_count_21 (by decide) ?_
        exact ih_a (ia + 1) (by omega) (va_1 + ((p1 >>> ((nI ia) &&& 31)) &&& 1)) (it_s hs_a (by show f_X3_count_sa p1 ia va_1 = _; rw [f_X3_count_sa])) _ _ hP hS ls (lv_sub hl [0, 1, 2] rfl)
  exact lp_a 24 0 (by omega) 0 rfl _ _ hP hS ls (lv_sub hl [0, 1, 2] rfl)
def f_X3_hasColumn (mc : Nat → Int32) (p1 : Int32) (p2 : Int32) : Int32 := if (((mc (p1).toNatClampNeg) >>> (p2 &&& 31)) &&& 1) = 1 then 1 else 0
theorem uin_X3_hasColumn_X3 : ∀ w ∈ wsX30, w ∈ wsX3_hasColumn := fun _ h => List.mem_cons_of_mem _ (List.mem_append_right _ h)
set_option maxHeartbeats 4000000 in
set_option maxRecDepth 100000 in
theorem k_X3_hasColumn (l : Launch) (D : va_G) (cyI cyZ : ClassId) (ad : Nat → Nat) (mc : Nat → Int32) (mw : Nat → Int32) (mn : Nat → Int32) (me : Nat → Int32) (mu : Nat → Int32) (mr : Nat → Int32) (mz : Kr) (mf : Int32) (mt : Int32) (p1 : Int32) (p2 : Int32) (hi1 : vp_in p1 4) : Met l yX3_hasColumn wsX3_hasColumn ({ frames := 0, cells := 0, slots := 0, locals := 0 } : Room) (pcP D cyI cyZ [.ref (ad 0), .int p1, .int p2] (wN cyI cyZ ad mc mw mn me mu mr mz mf mt)) (qI (f_X3_hasColumn mc p1 p2)) 0 0 nA := by
  refine Met.ofW (cc := cX3_hasColumn) (maxL := 3) (ret := (some .boolean)) (by decide) rfl ?_
  intro p e s m args below meth c s₁ B hml hv
  obtain ⟨rfl, hP, hG⟩ := hv
  have hx := B.exec
  have hb := B.bytes
  have hr := B.returns
  have hts := atoms_spec (ws := wsX3_hasColumn) B.pre
  have hown : s.vm.findClass RX3 = some m.cls := findClass_of_methodNamed B.named
  have hlocks := B.notSynchronized
  have hS : va_S nA s.heap s.heap [] := va_S.rf
  have hl := lv_entry ([.ref (ad 0), .int p1, .int p2]) (n := 3) (Nat.le_of_ble_eq_true rfl)
  rw [lg_entry_eq]
  generalize (lg_sl ([.ref (ad 0), .int p1, .int p2]) ++ List.replicate (3 - (lg_sl ([.ref (ad 0), .int p1, .int p2])).length) Slot.unset).toArray = ls at hl ⊢
  have hl : lv_has ls 3 [(0, .ref (ad 0)), (1, .int p1), (2, .int p2)] := hl
  have hP : va_P D vwCl (wN cyI cyZ ad mc mw mn me mu mr mz mf mt) s.heap := hP
  refine lv_aload_n hx hb dX3_hasColumn_0 rfl (lv_at hl 0 rfl) ?_
  refine va_get (D := D) (ci := 3) (v := .ref (ad 1)) (C := RX3) (T := TX3) (N := 13) hx hb hts uin_X3_hasColumn_X3 hown hG.1 hP 0 rfl rfl 0 (by decide) (hts (.fieldLink RX3 7 "TableSpliceModel" "columns" "[I") (List.mem_of_getElem? (i := 1) rfl)) (fun _ h9 => h9) rfl dX3_hasColumn_1 ?_
  refine lv_iload_n hx hb dX3_hasColumn_4 rfl (lv_at hl 1 rfl) ?_
  refine va_iald hx hb hG.1 hP 1 0 rfl rfl hi1 dX3_hasColumn_5 ?_
  refine lv_iload_n hx hb dX3_hasColumn_6 rfl (lv_at hl 2 rfl) ?_
  refine lv_ishr hx hb dX3_hasColumn_7 ?_
  refine lv_iconst (v := 1) hx hb dX3_hasColumn_8 (by decide) ?_
  refine lv_iand hx hb dX3_hasColumn_9 ?_
  refine lv_iconst (v := 1) hx hb dX3_hasColumn_10 (by decide) ?_
  refine lv_icmp_ne (tgt := 18) hx hb dX3_hasColumn_11 (by decide) (fun c_11 => ?_) (fun c_11 => ?_)
  · refine lv_iconst (v := 0) hx hb dX3_hasColumn_18 (by decide) ?_
    have ef : f_X3_hasColumn mc p1 p2 = 0 := by rw [f_X3_hasColumn, if_neg c_11]
    exact W.zret (v := 0) (ty := .boolean) hx hb hr rfl (fun t ht hW => ⟨⟨0, (), rfl, ef.symm, trivial⟩, hS.F ht⟩) hS.2.2 dX3_hasColumn_19
  · refine lv_iconst (v := 1) hx hb dX3_hasColumn_14 (by decide) ?_
    refine lv_goto (tgt := 19) hx hb dX3_hasColumn_15 (by decide) ?_
    have ef : f_X3_hasColumn mc p1 p2 = 1 := by rw [f_X3_hasColumn, if_pos c_11]
    exact W.zret (v := 1) (ty := .boolean) hx hb hr rfl (fun t ht hW => ⟨⟨1, (), rfl, ef.symm, trivial⟩, hS.F ht⟩) hS.2.2 dX3_hasColumn_19
def f_X3_hasRow (mw : Nat → Int32) (p1 : Int32) (p2 : Int32) : Int32 := if (((mw (p1).toNatClampNeg) >>> (p2 &&& 31)) &&& 1) = 1 then 1 else 0
theorem uin_X3_hasRow_X3 : ∀ w ∈ wsX30, w ∈ wsX3_hasRow := fun _ h => List.mem_cons_of_mem _ (List.mem_append_right _ h)
set_option maxHeartbeats 4000000 in
set_option maxRecDepth 100000 in
theorem k_X3_hasRow (l : Launch) (D : va_G) (cyI cyZ : ClassId) (ad : Nat → Nat) (mc : Nat → Int32) (mw : Nat → Int32) (mn : Nat → Int32) (me : Nat → Int32) (mu : Nat → Int32) (mr : Nat → Int32) (mz : Kr) (mf : Int32) (mt : Int32) (p1 : Int32) (p2 : Int32) (hi1 : vp_in p1 4) : Met l yX3_hasRow wsX3_hasRow ({ frames := 0, cells := 0, slots := 0, locals := 0 } : Room) (pcP D cyI cyZ [.ref (ad 0), .int p1, .int p2] (wN cyI cyZ ad mc mw mn me mu mr mz mf mt)) (qI (f_X3_hasRow mw p1 p2)) 0 0 nA := by
  refine Met.ofW (cc := cX3_hasRow) (maxL := 3) (ret := (some .boolean)) (by decide) rfl ?_
  intro p e s m args below meth c s₁ B hml hv
  obtain ⟨rfl, hP, hG⟩ := hv
  have hx := B.exec
  have hb := B.bytes
  have hr := B.returns
  have hts := atoms_spec (ws := wsX3_hasRow) B.pre
  have hown : s.vm.findClass RX3 = some m.cls := findClass_of_methodNamed B.named
  have hlocks := B.notSynchronized
  have hS : va_S nA s.heap s.heap [] := va_S.rf
  have hl := lv_entry ([.ref (ad 0), .int p1, .int p2]) (n := 3) (Nat.le_of_ble_eq_true rfl)
  rw [lg_entry_eq]
  generalize (lg_sl ([.ref (ad 0), .int p1, .int p2]) ++ List.replicate (3 - (lg_sl ([.ref (ad 0), .int p1, .int p2])).length) Slot.unset).toArray = ls at hl ⊢
  have hl : lv_has ls 3 [(0, .ref (ad 0)), (1, .int p1), (2, .int p2)] := hl
  have hP : va_P D vwCl (wN cyI cyZ ad mc mw mn me mu mr mz mf mt) s.heap := hP
  refine lv_aload_n hx hb dX3_hasRow_0 rfl (lv_at hl 0 rfl) ?_
  refine va_get (D := D) (ci := 3) (v := .ref (ad 2)) (C := RX3) (T := TX3) (N := 13) hx hb hts uin_X3_hasRow_X3 hown hG.1 hP 0 rfl rfl 1 (by decide) (hts (.fieldLink RX3 13 "TableSpliceModel" "rows" "[I") (List.mem_of_getElem? (i := 1) rfl)) (fun _ h9 => h9) rfl dX3_hasRow_1 ?_
  refine lv_iload_n hx hb dX3_hasRow_4 rfl (lv_at hl 1 rfl) ?_
  refine va_iald hx hb hG.1 hP 2 0 rfl rfl hi1 dX3_hasRow_5 ?_
  refine lv_iload_n hx hb dX3_hasRow_6 rfl (lv_at hl 2 rfl) ?_
  refine lv_ishr hx hb dX3_hasRow_7 ?_
  refine lv_iconst (v := 1) hx hb dX3_hasRow_8 (by decide) ?_
  refine lv_iand hx hb dX3_hasRow_9 ?_
  refine lv_iconst (v := 1) hx hb dX3_hasRow_10 (by decide) ?_
  refine lv_icmp_ne (tgt := 18) hx hb dX3_hasRow_11 (by decide) (fun c_11 => ?_) (fun c_11 => ?_)
  · refine lv_iconst (v := 0) hx hb dX3_hasRow_18 (by decide) ?_
    have ef : f_X3_hasRow mw p1 p2 = 0 := by rw [f_X3_hasRow, if_neg c_11]
    exact W.zret (v := 0) (ty := .boolean) hx hb hr rfl (fun t ht hW => ⟨⟨0, (), rfl, ef.symm, trivial⟩, hS.F ht⟩) hS.2.2 dX3_hasRow_19
  · refine lv_iconst (v := 1) hx hb dX3_hasRow_14 (by decide) ?_
    refine lv_goto (tgt := 19) hx hb dX3_hasRow_15 (by decide) ?_
    have ef : f_X3_hasRow mw p1 p2 = 1 := by rw [f_X3_hasRow, if_pos c_11]
    exact W.zret (v := 1) (ty := .boolean) hx hb hr rfl (fun t ht hW => ⟨⟨1, (), rfl, ef.symm, trivial⟩, hS.F ht⟩) hS.2.2 dX3_hasRow_19
def f_X3_hasCell (mc : Nat → Int32) (mw : Nat → Int32) (p1 : Int32) (p2 : Int32) (p3 : Int32) : Int32 := if (f_X3_hasRow mw p1 p2) = 0 then 0 else (if (f_X3_hasColumn mc p1 p3) = 0 then 0 else 1)
theorem uin_X3_hasCell_X3 : ∀ w ∈ wsX30, w ∈ wsX3_hasCell := fun _ h => List.mem_cons_of_mem _ (List.mem_append_right _ h)
set_option maxHeartbeats 4000000 in
set_option maxRecDepth 100000 in
theorem k_X3_hasCell (l : Launch) (D : va_G) (cyI cyZ : ClassId) (ad : Nat → Nat) (mc : Nat → Int32) (mw : Nat → Int32) (mn : Nat → Int32) (me : Nat → Int32) (mu : Nat → Int32) (mr : Nat → Int32) (mz : Kr) (mf : Int32) (mt : Int32) (p1 : Int32) (p2 : Int32) (p3 : Int32) (hi1 : vp_in p1 4) : Met l yX3_hasCell wsX3_hasCell ({ frames := 1, cells := 0, slots := 0, locals := 22 } : Room) (pcP D cyI cyZ [.ref (ad 0), .int p1, .int p2, .int p3] (wN cyI cyZ ad mc mw mn me mu mr mz mf mt)) (qI (f_X3_hasCell mc mw p1 p2 p3)) 0 0 nA := by
  refine Met.ofW (cc := cX3_hasCell) (maxL := 4) (ret := (some .boolean)) (by decide) rfl ?_
  intro p e s m args below meth c s₁ B hml hv
  obtain ⟨rfl, hP, hG⟩ := hv
  have hx := B.exec
  have hb := B.bytes
  have hr := B.returns
  have hts := atoms_spec (ws := wsX3_hasCell) B.pre
  have hown : s.vm.findClass RX3 = some m.cls := findClass_of_methodNamed B.named
  have hlocks := B.notSynchronized
  have hS : va_S nA s.heap s.heap [] := va_S.rf
  have hl := lv_entry ([.ref (ad 0), .int p1, .int p2, .int p3]) (n := 4) (Nat.le_of_ble_eq_true rfl)
  rw [lg_entry_eq]
  generalize (lg_sl ([.ref (ad 0), .int p1, .int p2, .int p3]) ++ List.replicate (4 - (lg_sl ([.ref (ad 0), .int p1, .int p2, .int p3])).length) Slot.unset).toArray = ls at hl ⊢
  have hl : lv_has ls 4 [(0, .ref (ad 0)), (1, .int p1), (2, .int p2), (3, .int p3)] := hl
  have hP : va_P D vwCl (wN cyI cyZ ad mc mw mn me mu mr mz mf mt) s.heap := hP
  refine lv_aload_n hx hb dX3_hasCell_0 rfl (lv_at hl 0 rfl) ?_
  refine lv_iload_n hx hb dX3_hasCell_1 rfl (lv_at hl 1 rfl) ?_
  refine lv_iload_n hx hb dX3_hasCell_2 rfl (lv_at hl 2 rfl) ?_
  refine pr_i (va_runV (As := [.int p1, .int p2]) (rest := []) ⟨hx, hb, hml, hown, hts⟩ (k_X3_hasRow l D cyI cyZ ad mc mw mn me mu mr mz mf mt p1 p2 hi1) (cwV 2 hts gX3_hasCell_X3_hasRow rfl rfl rfl (by decide +kernel) ⟨Nat.le_of_ble_eq_true rfl, Nat.le_of_ble_eq_true rfl⟩) (prV hG hP (ci := 3) rfl rfl rfl) rfl rfl hl.1 rfl (lv_room (Nat.le_of_ble_eq_true rfl)) dX3_hasCell_3 ⟨Nat.zero_le _, Nat.zero_le _⟩) hS hP (fun H locs hP hS => ?_)
  refine lv_if_eq (tgt := 22) hx hb dX3_hasCell_6 (by decide) (fun c_6 => ?_) (fun c_6 => ?_)
  · refine lv_iconst (v := 0) hx hb dX3_hasCell_22 (by decide) ?_
    have ef : f_X3_hasCell mc mw p1 p2 p3 = 0 := by rw [f_X3_hasCell, if_pos c_6]
    exact W.zret (v := 0) (ty := .boolean) hx hb hr rfl (fun t ht hW => ⟨⟨0, (), rfl, ef.symm, trivial⟩, hS.F ht⟩) hS.2.2 dX3_hasCell_23
  · refine lv_aload_n hx hb dX3_hasCell_9 rfl (lv_at hl 0 rfl) ?_
    refine lv_iload_n hx hb dX3_hasCell_10 rfl (lv_at hl 1 rfl) ?_
    refine lv_iload_n hx hb dX3_hasCell_11 rfl (lv_at hl 3 rfl) ?_
    refine pr_i (va_runV (As := [.int p1, .int p3]) (rest := []) ⟨hx, hb, hml, hown, hts⟩ (k_X3_hasColumn l D cyI cyZ ad mc mw mn me mu mr mz mf mt p1 p3 hi1) (cwV 2 hts gX3_hasCell_X3_hasColumn rfl rfl rfl (by decide +kernel) ⟨Nat.le_of_ble_eq_true rfl, Nat.le_of_ble_eq_true rfl⟩) (prV hG hP (ci := 3) rfl rfl rfl) rfl rfl hl.1 rfl (lv_room (Nat.le_of_ble_eq_true rfl)) dX3_hasCell_12 ⟨Nat.zero_le _, Nat.zero_le _⟩) hS hP (fun H locs hP hS => ?_)
    refine lv_if_eq (tgt := 22) hx hb dX3_hasCell_15 (by decide) (fun c_15 => ?_) (fun c_15 => ?_)
    · refine lv_iconst (v := 0) hx hb dX3_hasCell_22 (by decide) ?_
      have ef : f_X3_hasCell mc mw p1 p2 p3 = 0 := by rw [f_X3_hasCell, if_neg c_6, if_pos c_15]
      exact W.zret (v := 0) (ty := .boolean) hx hb hr rfl (fun t ht hW => ⟨⟨0, (), rfl, ef.symm, trivial⟩, hS.F ht⟩) hS.2.2 dX3_hasCell_23
    · refine lv_iconst (v := 1) hx hb dX3_hasCell_18 (by decide) ?_
      refine lv_goto (tgt := 23) hx hb dX3_hasCell_19 (by decide) ?_
      have ef : f_X3_hasCell mc mw p1 p2 p3 = 1 := by rw [f_X3_hasCell, if_neg c_6, if_neg c_15]
      exact W.zret (v := 1) (ty := .boolean) hx hb hr rfl (fun t ht hW => ⟨⟨1, (), rfl, ef.symm, trivial⟩, hS.F ht⟩) hS.2.2 dX3_hasCell_23
def f_X3_at (me : Nat → Int32) (p1 : Int32) (p2 : Int32) (p3 : Int32) : Int32 := me (((192 * p1) + (8 * p2)) + p3).toNatClampNeg
theorem uin_X3_at_X3 : ∀ w ∈ wsX30, w ∈ wsX3_at := fun _ h => List.mem_cons_of_mem _ (List.mem_append_right _ h)
set_option maxHeartbeats 4000000 in
set_option maxRecDepth 100000 in
theorem k_X3_at (l : Launch) (D : va_G) (cyI cyZ : ClassId) (ad : Nat → Nat) (mc : Nat → Int32) (mw : Nat → Int32) (mn : Nat → Int32) (me : Nat → Int32) (mu : Nat → Int32) (mr : Nat → Int32) (mz : Kr) (mf : Int32) (mt : Int32) (p1 : Int32) (p2 : Int32) (p3 : Int32) (hi1 : vp_in p1 4) (hi2 : vp_in p2 24) (hi3 : vp_in p3 8) : Met l yX3_at wsX3_at ({ frames := 0, cells := 0, slots := 0, locals := 0 } : Room) (pcP D cyI cyZ [.ref (ad 0), .int p1, .int p2, .int p3] (wN cyI cyZ ad mc mw mn me mu mr mz mf mt)) (qI (f_X3_at me p1 p2 p3)) 0 0 nA := by
  refine Met.ofW (cc := cX3_at) (maxL := 4) (ret := (some .int)) (by decide) rfl ?_
  intro p e s m args below meth c s₁ B hml hv
  obtain ⟨rfl, hP, hG⟩ := hv
  have hx := B.exec
  have hb := B.bytes
  have hr := B.returns
  have hts := atoms_spec (ws := wsX3_at) B.pre
  have hown : s.vm.findClass RX3 = some m.cls := findClass_of_methodNamed B.named
  have hlocks := B.notSynchronized
  have hS : va_S nA s.heap s.heap [] := va_S.rf
  have hl := lv_entry ([.ref (ad 0), .int p1, .int p2, .int p3]) (n := 4) (Nat.le_of_ble_eq_true rfl)
  rw [lg_entry_eq]
  generalize (lg_sl ([.ref (ad 0), .int p1, .int p2, .int p3]) ++ List.replicate (4 - (lg_sl ([.ref (ad 0), .int p1, .int p2, .int p3])).length) Slot.unset).toArray = ls at hl ⊢
  have hl : lv_has ls 4 [(0, .ref (ad 0)), (1, .int p1), (2, .int p2), (3, .int p3)] := hl
  have hP : va_P D vwCl (wN cyI cyZ ad mc mw mn me mu mr mz mf mt) s.heap := hP
  refine lv_aload_n hx hb dX3_at_0 rfl (lv_at hl 0 rfl) ?_
  refine va_get (D := D) (ci := 3) (v := .ref (ad 4)) (C := RX3) (T := TX3) (N := 13) hx hb hts uin_X3_at_X3 hown hG.1 hP 0 rfl rfl 3 (by decide) (hts (.fieldLink RX3 19 "TableSpliceModel" "cell" "[I") (List.mem_of_getElem? (i := 1) rfl)) (fun _ h9 => h9) rfl dX3_at_1 ?_
  refine lv_sipush (v := 192) hx hb dX3_at_4 (by decide) ?_
  refine lv_iload_n hx hb dX3_at_7 rfl (lv_at hl 1 rfl) ?_
  refine lv_imul hx hb dX3_at_8 ?_
  refine lv_bipush (v := 8) hx hb dX3_at_9 (by decide) ?_
  refine lv_iload_n hx hb dX3_at_11 rfl (lv_at hl 2 rfl) ?_
  refine lv_imul hx hb dX3_at_12 ?_
  refine lv_iadd hx hb dX3_at_13 ?_
  refine lv_iload_n hx hb dX3_at_14 rfl (lv_at hl 3 rfl) ?_
  refine lv_iadd hx hb dX3_at_15 ?_
  refine va_iald hx hb hG.1 hP 4 0 rfl rfl (vi_add (k := 768) (vi_add (k := 761) (vi_mul (c := 192) (k := 577) rfl hi1 (by decide) (by decide) (by decide)) (vi_mul (c := 8) (k := 185) rfl hi2 (by decide) (by decide) (by decide)) (by decide) (by decide)) hi3 (by decide) (by decide)) dX3_at_16 ?_
  have ef : f_X3_at me p1 p2 p3 = me (((192 * p1) + (8 * p2)) + p3).toNatClampNeg := by rw [f_X3_at]
  exact W.iret (v := me (((192 * p1) + (8 * p2)) + p3).toNatClampNeg) hx hb hr (fun t ht hW => ⟨⟨me (((192 * p1) + (8 * p2)) + p3).toNatClampNeg, (), rfl, ef.symm, trivial⟩, hS.F ht⟩) hS.2.2 dX3_at_17
def f_X3_thrown (mt : Int32) : Int32 := mt
theorem uin_X3_thrown_X3 : ∀ w ∈ wsX30, w ∈ wsX3_thrown := fun _ h => List.mem_cons_of_mem _ (List.mem_append_right _ h)
set_option maxHeartbeats 4000000 in
set_option maxRecDepth 100000 in
theorem k_X3_thrown (l : Launch) (D : va_G) (cyI cyZ : ClassId) (ad : Nat → Nat) (mc : Nat → Int32) (mw : Nat → Int32) (mn : Nat → Int32) (me : Nat → Int32) (mu : Nat → Int32) (mr : Nat → Int32) (mz : Kr) (mf : Int32) (mt : Int32) : Met l yX3_thrown wsX3_thrown ({ frames := 0, cells := 0, slots := 0, locals := 0 } : Room) (pcP D cyI cyZ [.ref (ad 0)] (wN cyI cyZ ad mc mw mn me mu mr mz mf mt)) (qI (f_X3_thrown mt)) 0 0 nA := by
  refine Met.ofW (cc := cX3_thrown) (maxL := 1) (ret := (some .int)) (by decide) rfl ?_
  intro p e s m args below meth c s₁ B hml hv
  obtain ⟨rfl, hP, hG⟩ := hv
  have hx := B.exec
  have hb := B.bytes
  have hr := B.returns
  have hts := atoms_spec (ws := wsX3_thrown) B.pre
  have hown : s.vm.findClass RX3 = some m.cls := findClass_of_methodNamed B.named
  have hlocks := B.notSynchronized
  have hS : va_S nA s.heap s.heap [] := va_S.rf
  have hl := lv_entry ([.ref (ad 0)]) (n := 1) (Nat.le_of_ble_eq_true rfl)
  rw [lg_entry_eq]
  generalize (lg_sl ([.ref (ad 0)]) ++ List.replicate (1 - (lg_sl ([.ref (ad 0)])).length) Slot.unset).toArray = ls at hl ⊢
  have hl : lv_has ls 1 [(0, .ref (ad 0))] := hl
  have hP : va_P D vwCl (wN cyI cyZ ad mc mw mn me mu mr mz mf mt) s.heap := hP
  refine lv_aload_n hx hb dX3_thrown_0 rfl (lv_at hl 0 rfl) ?_
  refine va_get (D := D) (ci := 3) (v := .int mt) (C := RX3) (T := TX3) (N := 13) hx hb hts uin_X3_thrown_X3 hown hG.1 hP 0 rfl rfl 12 (by decide) (hts (.fieldLink RX3 41 "TableSpliceModel" "thrown" "I") (List.mem_of_getElem? (i := 1) rfl)) (fun _ h9 => h9) rfl dX3_thrown_1 ?_
  have ef : f_X3_thrown mt = mt := by rw [f_X3_thrown]
  exact W.iret (v := mt) hx hb hr (fun t ht hW => ⟨⟨mt, (), rfl, ef.symm, trivial⟩, hS.F ht⟩) hS.2.2 dX3_thrown_4
def f_X3_findsColumn_2 (mc : Nat → Int32) (p1 : Int32) (p3 : Int32) : Int32 × Int32 := if (f_X3_isIn p1 0 2) = 0 then ((0, 1)) else (if (f_X3_isIn p3 0 7) = 0 then ((0, 1)) else (if (f_X3_hasColumn mc p1 p3) = 0 then ((0, 1)) else ((1, 0))))
theorem uin_X3_findsColumn_X3 : ∀ w ∈ wsX30, w ∈ wsX3_findsColumn := fun _ h => List.mem_cons_of_mem _ (List.mem_append_right _ h)
set_option maxHeartbeats 4000000 in
set_option maxRecDepth 100000 in
theorem k_X3_findsColumn_2 (l : Launch) (D : va_G) (cyI cyZ : ClassId) (ad : Nat → Nat) (mc : Nat → Int32) (mw : Nat → Int32) (mn : Nat → Int32) (me : Nat → Int32) (mu : Nat → Int32) (mr : Nat → Int32) (mz : Kr) (mf : Int32) (mt : Int32) (p1 : Int32) (p3 : Int32) (A : Nat → Prop) (sz : Nat) (hAe : A = va_A (wN cyI cyZ ad mc mw mn me mu mr mz mf mt) sz) : Met l yX3_findsColumn wsX3_findsColumn ({ frames := 1, cells := 0, slots := 0, locals := 22 } : Room) (pcM D cyI cyZ sz [.ref (ad 0), .int p1, .int 2, .int p3] (wN cyI cyZ ad mc mw mn me mu mr mz mf mt)) (mI D A (wN cyI cyZ ad mc mw mn me mu mr mz mf (f_X3_findsColumn_2 mc p1 p3).2) (f_X3_findsColumn_2 mc p1 p3).1) 0 0 A := by
  refine Met.ofW (cc := cX3_findsColumn) (maxL := 4) (ret := (some .boolean)) (by decide) rfl ?_
  intro p e s m args below meth c s₁ B hml hv
  obtain ⟨rfl, hsz, hP, hG, hD0⟩ := hv
  have hx := B.exec
  have hb := B.bytes
  have hr := B.returns
  have hts := atoms_spec (ws := wsX3_findsColumn) B.pre
  have hown : s.vm.findClass RX3 = some m.cls := findClass_of_methodNamed B.named
  have hlocks := B.notSynchronized
  subst hsz
  have hD : va_D A (wN cyI cyZ ad mc mw mn me mu mr mz mf mt) := by rw [hAe]; exact hD0.self
  have hA : ∀ q : Nat, s.heap.size ≤ q → A q := fun q h => by rw [hAe]; exact Or.inr h
  clear hAe hD0
  have hS : va_S nA s.heap s.heap [] := va_S.rf
  have hl := lv_entry ([.ref (ad 0), .int p1, .int 2, .int p3]) (n := 4) (Nat.le_of_ble_eq_true rfl)
  rw [lg_entry_eq]
  generalize (lg_sl ([.ref (ad 0), .int p1, .int 2, .int p3]) ++ List.replicate (4 - (lg_sl ([.ref (ad 0), .int p1, .int 2, .int p3])).length) Slot.unset).toArray = ls at hl ⊢
  have hl : lv_has ls 4 [(0, .ref (ad 0)), (1, .int p1), (2, .int 2), (3, .int p3)] := hl
  have hP : va_P D vwCl (wN cyI cyZ ad mc mw mn me mu mr mz mf mt) s.heap := hP
  refine lv_aload_n hx hb dX3_findsColumn_0 rfl (lv_at hl 0 rfl) ?_
  refine lv_iload_n hx hb dX3_findsColumn_1 rfl (lv_at hl 1 rfl) ?_
  refine lv_iconst (v := 0) hx hb dX3_findsColumn_2 (by decide) ?_
  refine lv_iload_n hx hb dX3_findsColumn_3 rfl (lv_at hl 2 rfl) ?_
  refine pr_i (va_runS (As := [.int p1, .int 0, .int 2]) (rest := [.ref (ad 0)]) ⟨hx, hb, hml, hown, hts⟩ (k_X3_isIn l D cyI cyZ p1 0 2) (va_cwS 3 hts gX3_findsColumn_X3_isIn rfl rfl rfl (by decide +kernel) ⟨Nat.le_of_ble_eq_true rfl, Nat.le_of_ble_eq_true rfl⟩) (prS hG (hP.sub (ws' := []) [] rfl)) rfl rfl hl.1 rfl (lv_room (Nat.le_of_ble_eq_true rfl)) dX3_findsColumn_4 ⟨Nat.zero_le _, Nat.zero_le _⟩) hS hP (fun H locs hP hS => ?_)
  refine lv_if_eq (tgt := 33) hx hb dX3_findsColumn_7 (by decide) (fun c_7 => ?_) (fun c_7 => ?_)
  · refine lv_iconst (v := 1) hx hb dX3_findsColumn_33 (by decide) ?_
    have hS := sw_n (B := A) hS
    refine va_put (D := D) (ci := 3) (v := .int 1) (ty := .int) (C := RX3) (T := TX3) (N := 13) hx hb hts uin_X3_findsColumn_X3 tyX3 tyX3_ok nmX3 hown hG.1 hP hD hS 0 rfl rfl 12 (by decide) (hts (.fieldLink RX3 41 "TableSpliceModel" "thrown" "I") (List.mem_of_getElem? (i := 1) rfl)) (fun _ h9 => h9) rfl (by decide +kernel) rfl rfl (Nat.le_of_ble_eq_true rfl) dX3_findsColumn_34 (fun H locs hP hD hS => ?_)
    have hP : va_P D vwCl (wN cyI cyZ ad mc mw mn me mu mr mz mf 1) H := hP
    have hD : va_D A (wN cyI cyZ ad mc mw mn me mu mr mz mf 1) := hD
    refine lv_aload_n hx hb dX3_findsColumn_37 rfl (lv_at hl 0 rfl) ?_
    refine va_get (D := D) (ci := 3) (v := .int 1) (C := RX3) (T := TX3) (N := 13) hx hb hts uin_X3_findsColumn_X3 hown hG.1 hP 0 rfl rfl 12 (by decide) (hts (.fieldLink RX3 41 "TableSpliceModel" "thrown" "I") (List.mem_of_getElem? (i := 1) rfl)) (fun _ h9 => h9) rfl dX3_findsColumn_38 ?_
    refine lv_if_ne (tgt := 48) hx hb dX3_findsColumn_41 (by decide) (fun c_41 => ?_) (fun c_41 => ?_)
    · refine lv_iconst (v := 0) hx hb dX3_findsColumn_48 (by decide) ?_
      have ef : f_X3_findsColumn_2 mc p1 p3 = (0, 1) := by rw [f_X3_findsColumn_2, if_pos c_7]
      exact W.zret (v := 0) (ty := .boolean) hx hb hr rfl (fun t ht hW => ⟨⟨0, (), rfl, by rw [ef], by rw [ht, ef]; exact hP, by rw [ef]; exact hD⟩, hS.F ht⟩) hS.2.2 dX3_findsColumn_49
    · exact absurd c_41 (by decide)
  · refine lv_iload_n hx hb dX3_findsColumn_10 rfl (lv_at hl 3 rfl) ?_
    refine lv_iconst (v := 0) hx hb dX3_findsColumn_11 (by decide) ?_
    refine lv_bipush (v := 7) hx hb dX3_findsColumn_12 (by decide) ?_
    refine pr_i (va_runS (As := [.int p3, .int 0, .int 7]) (rest := [.ref (ad 0)]) ⟨hx, hb, hml, hown, hts⟩ (k_X3_isIn l D cyI cyZ p3 0 7) (va_cwS 3 hts gX3_findsColumn_X3_isIn rfl rfl rfl (by decide +kernel) ⟨Nat.le_of_ble_eq_true rfl, Nat.le_of_ble_eq_true rfl⟩) (prS hG (hP.sub (ws' := []) [] rfl)) rfl rfl hl.1 rfl (lv_room (Nat.le_of_ble_eq_true rfl)) dX3_findsColumn_14 ⟨Nat.zero_le _, Nat.zero_le _⟩) hS hP (fun H locs hP hS => ?_)
    refine lv_if_eq (tgt := 33) hx hb dX3_findsColumn_17 (by decide) (fun c_17 => ?_) (fun c_17 => ?_)
    · refine lv_iconst (v := 1) hx hb dX3_findsColumn_33 (by decide) ?_
      have hS := sw_n (B := A) hS
      refine va_put (D := D) (ci := 3) (v := .int 1) (ty := .int) (C := RX3) (T := TX3) (N := 13) hx hb hts uin_X3_findsColumn_X3 tyX3 tyX3_ok nmX3 hown hG.1 hP hD hS 0 rfl rfl 12 (by decide) (hts (.fieldLink RX3 41 "TableSpliceModel" "thrown" "I") (List.mem_of_getElem? (i := 1) rfl)) (fun _ h9 => h9) rfl (by decide +kernel) rfl rfl (Nat.le_of_ble_eq_true rfl) dX3_findsColumn_34 (fun H locs hP hD hS => ?_)
      have hP : va_P D vwCl (wN cyI cyZ ad mc mw mn me mu mr mz mf 1) H := hP
      have hD : va_D A (wN cyI cyZ ad mc mw mn me mu mr mz mf 1) := hD
      refine lv_aload_n hx hb dX3_findsColumn_37 rfl (lv_at hl 0 rfl) ?_
      refine va_get (D := D) (ci := 3) (v := .int 1) (C := RX3) (T := TX3) (N := 13) hx hb hts uin_X3_findsColumn_X3 hown hG.1 hP 0 rfl rfl 12 (by decide) (hts (.fieldLink RX3 41 "TableSpliceModel" "thrown" "I") (List.mem_of_getElem? (i := 1) rfl)) (fun _ h9 => h9) rfl dX3_findsColumn_38 ?_
      refine lv_if_ne (tgt := 48) hx hb dX3_findsColumn_41 (by decide) (fun c_41 => ?_) (fun c_41 => ?_)
      · refine lv_iconst (v := 0) hx hb dX3_findsColumn_48 (by decide) ?_
        have ef : f_X3_findsColumn_2 mc p1 p3 = (0, 1) := by rw [f_X3_findsColumn_2, if_neg c_7, if_pos c_17]
        exact W.zret (v := 0) (ty := .boolean) hx hb hr rfl (fun t ht hW => ⟨⟨0, (), rfl, by rw [ef], by rw [ht, ef]; exact hP, by rw [ef]; exact hD⟩, hS.F ht⟩) hS.2.2 dX3_findsColumn_49
      · exact absurd c_41 (by decide)
    · refine lv_aload_n hx hb dX3_findsColumn_20 rfl (lv_at hl 0 rfl) ?_
      refine lv_iload_n hx hb dX3_findsColumn_21 rfl (lv_at hl 1 rfl) ?_
      refine lv_iload_n hx hb dX3_findsColumn_22 rfl (lv_at hl 3 rfl) ?_
      refine pr_i (va_runV (As := [.int p1, .int p3]) (rest := [.ref (ad 0)]) ⟨hx, hb, hml, hown, hts⟩ (k_X3_hasColumn l D cyI cyZ ad mc mw mn me mu mr mz mf mt p1 p3 (vi_mono (in_isIn (n := 2) rfl (by decide) c_7) (by decide))) (cwV 2 hts gX3_findsColumn_X3_hasColumn rfl rfl rfl (by decide +kernel) ⟨Nat.le_of_ble_eq_true rfl, Nat.le_of_ble_eq_true rfl⟩) (prV hG hP (ci := 3) rfl rfl rfl) rfl rfl hl.1 rfl (lv_room (Nat.le_of_ble_eq_true rfl)) dX3_findsColumn_23 ⟨Nat.zero_le _, Nat.zero_le _⟩) hS hP (fun H locs hP hS => ?_)
      refine lv_if_eq (tgt := 33) hx hb dX3_findsColumn_26 (by decide) (fun c_26 => ?_) (fun c_26 => ?_)
      · refine lv_iconst (v := 1) hx hb dX3_findsColumn_33 (by decide) ?_
        have hS := sw_n (B := A) hS
        refine va_put (D := D) (ci := 3) (v := .int 1) (ty := .int) (C := RX3) (T := TX3) (N := 13) hx hb hts uin_X3_findsColumn_X3 tyX3 tyX3_ok nmX3 hown hG.1 hP hD hS 0 rfl rfl 12 (by decide) (hts (.fieldLink RX3 41 "TableSpliceModel" "thrown" "I") (List.mem_of_getElem? (i := 1) rfl)) (fun _ h9 => h9) rfl (by decide +kernel) rfl rfl (Nat.le_of_ble_eq_true rfl) dX3_findsColumn_34 (fun H locs hP hD hS => ?_)
        have hP : va_P D vwCl (wN cyI cyZ ad mc mw mn me mu mr mz mf 1) H := hP
        have hD : va_D A (wN cyI cyZ ad mc mw mn me mu mr mz mf 1) := hD
        refine lv_aload_n hx hb dX3_findsColumn_37 rfl (lv_at hl 0 rfl) ?_
        refine va_get (D := D) (ci := 3) (v := .int 1) (C := RX3) (T := TX3) (N := 13) hx hb hts uin_X3_findsColumn_X3 hown hG.1 hP 0 rfl rfl 12 (by decide) (hts (.fieldLink RX3 41 "TableSpliceModel" "thrown" "I") (List.mem_of_getElem? (i := 1) rfl)) (fun _ h9 => h9) rfl dX3_findsColumn_38 ?_
        refine lv_if_ne (tgt := 48) hx hb dX3_findsColumn_41 (by decide) (fun c_41 => ?_) (fun c_41 => ?_)
        · refine lv_iconst (v := 0) hx hb dX3_findsColumn_48 (by decide) ?_
          have ef : f_X3_findsColumn_2 mc p1 p3 = (0, 1) := by rw [f_X3_findsColumn_2, if_neg c_7, if_neg c_17, if_pos c_26]
          exact W.zret (v := 0) (ty := .boolean) hx hb hr rfl (fun t ht hW => ⟨⟨0, (), rfl, by rw [ef], by rw [ht, ef]; exact hP, by rw [ef]; exact hD⟩, hS.F ht⟩) hS.2.2 dX3_findsColumn_49
        · exact absurd c_41 (by decide)
      · refine lv_iconst (v := 0) hx hb dX3_findsColumn_29 (by decide) ?_
        refine lv_goto (tgt := 34) hx hb dX3_findsColumn_30 (by decide) ?_
        have hS := sw_n (B := A) hS
        refine va_put (D := D) (ci := 3) (v := .int 0) (ty := .int) (C := RX3) (T := TX3) (N := 13) hx hb hts uin_X3_findsColumn_X3 tyX3 tyX3_ok nmX3 hown hG.1 hP hD hS 0 rfl rfl 12 (by decide) (hts (.fieldLink RX3 41 "TableSpliceModel" "thrown" "I") (List.mem_of_getElem? (i := 1) rfl)) (fun _ h9 => h9) rfl (by decide +kernel) rfl rfl (Nat.le_of_ble_eq_true rfl) dX3_findsColumn_34 (fun H locs hP hD hS => ?_)
        have hP : va_P D vwCl (wN cyI cyZ ad mc mw mn me mu mr mz mf 0) H := hP
        have hD : va_D A (wN cyI cyZ ad mc mw mn me mu mr mz mf 0) := hD
        refine lv_aload_n hx hb dX3_findsColumn_37 rfl (lv_at hl 0 rfl) ?_
        refine va_get (D := D) (ci := 3) (v := .int 0) (C := RX3) (T := TX3) (N := 13) hx hb hts uin_X3_findsColumn_X3 hown hG.1 hP 0 rfl rfl 12 (by decide) (hts (.fieldLink RX3 41 "TableSpliceModel" "thrown" "I") (List.mem_of_getElem? (i := 1) rfl)) (fun _ h9 => h9) rfl dX3_findsColumn_38 ?_
        refine lv_if_ne (tgt := 48) hx hb dX3_findsColumn_41 (by decide) (fun c_41 => ?_) (fun c_41 => ?_)
        · exact absurd (by decide) c_41
        · refine lv_iconst (v := 1) hx hb dX3_findsColumn_44 (by decide) ?_
          refine lv_goto (tgt := 49) hx hb dX3_findsColumn_45 (by decide) ?_
          have ef : f_X3_findsColumn_2 mc p1 p3 = (1, 0) := by rw [f_X3_findsColumn_2, if_neg c_7, if_neg c_17, if_neg c_26]
          exact W.zret (v := 1) (ty := .boolean) hx hb hr rfl (fun t ht hW => ⟨⟨1, (), rfl, by rw [ef], by rw [ht, ef]; exact hP, by rw [ef]; exact hD⟩, hS.F ht⟩) hS.2.2 dX3_findsColumn_49
def f_X3_findsCell_2 (mc : Nat → Int32) (mw : Nat → Int32) (p1 : Int32) (p3 : Int32) (p4 : Int32) : Int32 × Int32 := if (f_X3_isIn p1 0 2) = 0 then ((0, 1)) else (if (f_X3_isIn p3 0 23) = 0 then ((0, 1)) else (if (f_X3_isIn p4 0 7) = 0 then ((0, 1)) else (if (f_X3_hasCell mc mw p1 p3 p4) = 0 then ((0, 1)) else ((1, 0)))))
theorem uin_X3_findsCell_X3 : ∀ w ∈ wsX30, w ∈ wsX3_findsCell := fun _ h => List.mem_cons_of_mem _ (List.mem_append_right _ h)
set_option maxHeartbeats 4000000 in
set_option maxRecDepth 100000 in
theorem k_X3_findsCell_2 (l : Launch) (D : va_G) (cyI cyZ : ClassId) (ad : Nat → Nat) (mc : Nat → Int32) (mw : Nat → Int32) (mn : Nat → Int32) (me : Nat → Int32) (mu : Nat → Int32) (mr : Nat → Int32) (mz : Kr) (mf : Int32) (mt : Int32) (p1 : Int32) (p3 : Int32) (p4 : Int32) (A : Nat → Prop) (sz : Nat) (hAe : A = va_A (wN cyI cyZ ad mc mw mn me mu mr mz mf mt) sz) : Met l yX3_findsCell wsX3_findsCell ({ frames := 2, cells := 0, slots := 0, locals := 45 } : Room) (pcM D cyI cyZ sz [.ref (ad 0), .int p1, .int 2, .int p3, .int p4] (wN cyI cyZ ad mc mw mn me mu mr mz mf mt)) (mI D A (wN cyI cyZ ad mc mw mn me mu mr mz mf (f_X3_findsCell_2 mc mw p1 p3 p4).2) (f_X3_findsCell_2 mc mw p1 p3 p4).1) 0 0 A := by
  refine Met.ofW (cc := cX3_findsCell) (maxL := 6) (ret := (some .boolean)) (by decide) rfl ?_
  intro p e s m args below meth c s₁ B hml hv
  obtain ⟨rfl, hsz, hP, hG, hD0⟩ := hv
  have hx := B.exec
  have hb := B.bytes
  have hr := B.returns
  have hts := atoms_spec (ws := wsX3_findsCell) B.pre
  have hown : s.vm.findClass RX3 = some m.cls := findClass_of_methodNamed B.named
  have hlocks := B.notSynchronized
  subst hsz
  have hD : va_D A (wN cyI cyZ ad mc mw mn me mu mr mz mf mt) := by rw [hAe]; exact hD0.self
  have hA : ∀ q : Nat, s.heap.size ≤ q → A q := fun q h => by rw [hAe]; exact Or.inr h
  clear hAe hD0
  have hS : va_S nA s.heap s.heap [] := va_S.rf
  have hl := lv_entry ([.ref (ad 0), .int p1, .int 2, .int p3, .int p4]) (n := 6) (Nat.le_of_ble_eq_true rfl)
  rw [lg_entry_eq]
  generalize (lg_sl ([.ref (ad 0), .int p1, .int 2, .int p3, .int p4]) ++ List.replicate (6 - (lg_sl ([.ref (ad 0), .int p1, .int 2, .int p3, .int p4])).length) Slot.unset).toArray = ls at hl ⊢
  have hl : lv_has ls 6 [(0, .ref (ad 0)), (1, .int p1), (2, .int 2), (3, .int p3), (4, .int p4)] := hl
  have hP : va_P D vwCl (wN cyI cyZ ad mc mw mn me mu mr mz mf mt) s.heap := hP
  refine lv_iload_n hx hb dX3_findsCell_0 rfl (lv_at hl 1 rfl) ?_
  refine lv_iconst (v := 0) hx hb dX3_findsCell_1 (by decide) ?_
  refine lv_iload_n hx hb dX3_findsCell_2 rfl (lv_at hl 2 rfl) ?_
  refine pr_i (va_runS (As := [.int p1, .int 0, .int 2]) (rest := []) ⟨hx, hb, hml, hown, hts⟩ (k_X3_isIn l D cyI cyZ p1 0 2) (va_cwS 3 hts gX3_findsCell_X3_isIn rfl rfl rfl (by decide +kernel) ⟨Nat.le_of_ble_eq_true rfl, Nat.le_of_ble_eq_true rfl⟩) (prS hG (hP.sub (ws' := []) [] rfl)) rfl rfl hl.1 rfl (lv_room (Nat.le_of_ble_eq_true rfl)) dX3_findsCell_3 ⟨Nat.zero_le _, Nat.zero_le _⟩) hS hP (fun H locs hP hS => ?_)
  refine lv_if_eq (tgt := 34) hx hb dX3_findsCell_6 (by decide) (fun c_6 => ?_) (fun c_6 => ?_)
  · refine lv_iconst (v := 0) hx hb dX3_findsCell_34 (by decide) ?_
    refine lv_istore (lv' := [(5, .int 0), (0, .ref (ad 0)), (1, .int p1), (2, .int 2), (3, .int p3), (4, .int p4)]) hx hb dX3_findsCell_35 hl (by decide) rfl (fun ls hl => ?_)
    refine lv_aload_n hx hb dX3_findsCell_37 rfl (lv_at hl 1 rfl) ?_
    refine lv_iload hx hb dX3_findsCell_38 (lv_at hl 0 rfl) ?_
    refine lv_if_eq (tgt := 58) hx hb dX3_findsCell_40 (by decide) (fun c_40 => ?_) (fun c_40 => ?_)
    · refine lv_iconst (v := 1) hx hb dX3_findsCell_58 (by decide) ?_
      have hS := sw_n (B := A) hS
      refine va_put (D := D) (ci := 3) (v := .int 1) (ty := .int) (C := RX3) (T := TX3) (N := 13) hx hb hts uin_X3_findsCell_X3 tyX3 tyX3_ok nmX3 hown hG.1 hP hD hS 0 rfl rfl 12 (by decide) (hts (.fieldLink RX3 41 "TableSpliceModel" "thrown" "I") (List.mem_of_getElem? (i := 1) rfl)) (fun _ h9 => h9) rfl (by decide +kernel) rfl rfl (Nat.le_of_ble_eq_true rfl) dX3_findsCell_59 (fun H locs hP hD hS => ?_)
      have hP : va_P D vwCl (wN cyI cyZ ad mc mw mn me mu mr mz mf 1) H := hP
      have hD : va_D A (wN cyI cyZ ad mc mw mn me mu mr mz mf 1) := hD
      refine lv_aload_n hx hb dX3_findsCell_62 rfl (lv_at hl 1 rfl) ?_
      refine va_get (D := D) (ci := 3) (v := .int 1) (C := RX3) (T := TX3) (N := 13) hx hb hts uin_X3_findsCell_X3 hown hG.1 hP 0 rfl rfl 12 (by decide) (hts (.fieldLink RX3 41 "TableSpliceModel" "thrown" "I") (List.mem_of_getElem? (i := 1) rfl)) (fun _ h9 => h9) rfl dX3_findsCell_63 ?_
      refine lv_if_ne (tgt := 73) hx hb dX3_findsCell_66 (by decide) (fun c_66 => ?_) (fun c_66 => ?_)
      · refine lv_iconst (v := 0) hx hb dX3_findsCell_73 (by decide) ?_
        have ef : f_X3_findsCell_2 mc mw p1 p3 p4 = (0, 1) := by rw [f_X3_findsCell_2, if_pos c_6]
        exact W.zret (v := 0) (ty := .boolean) hx hb hr rfl (fun t ht hW => ⟨⟨0, (), rfl, by rw [ef], by rw [ht, ef]; exact hP, by rw [ef]; exact hD⟩, hS.F ht⟩) hS.2.2 dX3_findsCell_74
      · exact absurd c_66 (by decide)
    · exact absurd (by decide) c_40
  · refine lv_iload_n hx hb dX3_findsCell_9 rfl (lv_at hl 3 rfl) ?_
    refine lv_iconst (v := 0) hx hb dX3_findsCell_10 (by decide) ?_
    refine lv_bipush (v := 23) hx hb dX3_findsCell_11 (by decide) ?_
    refine pr_i (va_runS (As := [.int p3, .int 0, .int 23]) (rest := []) ⟨hx, hb, hml, hown, hts⟩ (k_X3_isIn l D cyI cyZ p3 0 23) (va_cwS 3 hts gX3_findsCell_X3_isIn rfl rfl rfl (by decide +kernel) ⟨Nat.le_of_ble_eq_true rfl, Nat.le_of_ble_eq_true rfl⟩) (prS hG (hP.sub (ws' := []) [] rfl)) rfl rfl hl.1 rfl (lv_room (Nat.le_of_ble_eq_true rfl)) dX3_findsCell_13 ⟨Nat.zero_le _, Nat.zero_le _⟩) hS hP (fun H locs hP hS => ?_)
    refine lv_if_eq (tgt := 34) hx hb dX3_findsCell_16 (by decide) (fun c_16 => ?_) (fun c_16 => ?_)
    · refine lv_iconst (v := 0) hx hb dX3_findsCell_34 (by decide) ?_
      refine lv_istore (lv' := [(5, .int 0), (0, .ref (ad 0)), (1, .int p1), (2, .int 2), (3, .int p3), (4, .int p4)]) hx hb dX3_findsCell_35 hl (by decide) rfl (fun ls hl => ?_)
      refine lv_aload_n hx hb dX3_findsCell_37 rfl (lv_at hl 1 rfl) ?_
      refine lv_iload hx hb dX3_findsCell_38 (lv_at hl 0 rfl) ?_
      refine lv_if_eq (tgt := 58) hx hb dX3_findsCell_40 (by decide) (fun c_40 => ?_) (fun c_40 => ?_)
      · refine lv_iconst (v := 1) hx hb dX3_findsCell_58 (by decide) ?_
        have hS := sw_n (B := A) hS
        refine va_put (D := D) (ci := 3) (v := .int 1) (ty := .int) (C := RX3) (T := TX3) (N := 13) hx hb hts uin_X3_findsCell_X3 tyX3 tyX3_ok nmX3 hown hG.1 hP hD hS 0 rfl rfl 12 (by decide) (hts (.fieldLink RX3 41 "TableSpliceModel" "thrown" "I") (List.mem_of_getElem? (i := 1) rfl)) (fun _ h9 => h9) rfl (by decide +kernel) rfl rfl (Nat.le_of_ble_eq_true rfl) dX3_findsCell_59 (fun H locs hP hD hS => ?_)
        have hP : va_P D vwCl (wN cyI cyZ ad mc mw mn me mu mr mz mf 1) H := hP
        have hD : va_D A (wN cyI cyZ ad mc mw mn me mu mr mz mf 1) := hD
        refine lv_aload_n hx hb dX3_findsCell_62 rfl (lv_at hl 1 rfl) ?_
        refine va_get (D := D) (ci := 3) (v := .int 1) (C := RX3) (T := TX3) (N := 13) hx hb hts uin_X3_findsCell_X3 hown hG.1 hP 0 rfl rfl 12 (by decide) (hts (.fieldLink RX3 41 "TableSpliceModel" "thrown" "I") (List.mem_of_getElem? (i := 1) rfl)) (fun _ h9 => h9) rfl dX3_findsCell_63 ?_
        refine lv_if_ne (tgt := 73) hx hb dX3_findsCell_66 (by decide) (fun c_66 => ?_) (fun c_66 => ?_)
        · refine lv_iconst (v := 0) hx hb dX3_findsCell_73 (by decide) ?_
          have ef : f_X3_findsCell_2 mc mw p1 p3 p4 = (0, 1) := by rw [f_X3_findsCell_2, if_neg c_6, if_pos c_16]
          exact W.zret (v := 0) (ty := .boolean) hx hb hr rfl (fun t ht hW => ⟨⟨0, (), rfl, by rw [ef], by rw [ht, ef]; exact hP, by rw [ef]; exact hD⟩, hS.F ht⟩) hS.2.2 dX3_findsCell_74
        · exact absurd c_66 (by decide)
      · exact absurd (by decide) c_40
    · refine lv_iload hx hb dX3_findsCell_19 (lv_at hl 4 rfl) ?_
      refine lv_iconst (v := 0) hx hb dX3_findsCell_21 (by decide) ?_
      refine lv_bipush (v := 7) hx hb dX3_findsCell_22 (by decide) ?_
      refine pr_i (va_runS (As := [.int p4, .int 0, .int 7]) (rest := []) ⟨hx, hb, hml, hown, hts⟩ (k_X3_isIn l D cyI cyZ p4 0 7) (va_cwS 3 hts gX3_findsCell_X3_isIn rfl rfl rfl (by decide +kernel) ⟨Nat.le_of_ble_eq_true rfl, Nat.le_of_ble_eq_true rfl⟩) (prS hG (hP.sub (ws' := []) [] rfl)) rfl rfl hl.1 rfl (lv_room (Nat.le_of_ble_eq_true rfl)) dX3_findsCell_24 ⟨Nat.zero_le _, Nat.zero_le _⟩) hS hP (fun H locs hP hS => ?_)
      refine lv_if_eq (tgt := 34) hx hb dX3_findsCell_27 (by decide) (fun c_27 => ?_) (fun c_27 => ?_)
      · refine lv_iconst (v := 0) hx hb dX3_findsCell_34 (by decide) ?_
        refine lv_istore (lv' := [(5, .int 0), (0, .ref (ad 0)), (1, .int p1), (2, .int 2), (3, .int p3), (4, .int p4)]) hx hb dX3_findsCell_35 hl (by decide) rfl (fun ls hl => ?_)
        refine lv_aload_n hx hb dX3_findsCell_37 rfl (lv_at hl 1 rfl) ?_
        refine lv_iload hx hb dX3_findsCell_38 (lv_at hl 0 rfl) ?_
        refine lv_if_eq (tgt := 58) hx hb dX3_findsCell_40 (by decide) (fun c_40 => ?_) (fun c_40 => ?_)
        · refine lv_iconst (v := 1) hx hb dX3_findsCell_58 (by decide) ?_
          have hS := sw_n (B := A) hS
          refine va_put (D := D) (ci := 3) (v := .int 1) (ty := .int) (C := RX3) (T := TX3) (N := 13) hx hb hts uin_X3_findsCell_X3 tyX3 tyX3_ok nmX3 hown hG.1 hP hD hS 0 rfl rfl 12 (by decide) (hts (.fieldLink RX3 41 "TableSpliceModel" "thrown" "I") (List.mem_of_getElem? (i := 1) rfl)) (fun _ h9 => h9) rfl (by decide +kernel) rfl rfl (Nat.le_of_ble_eq_true rfl) dX3_findsCell_59 (fun H locs hP hD hS => ?_)
          have hP : va_P D vwCl (wN cyI cyZ ad mc mw mn me mu mr mz mf 1) H := hP
          have hD : va_D A (wN cyI cyZ ad mc mw mn me mu mr mz mf 1) := hD
          refine lv_aload_n hx hb dX3_findsCell_62 rfl (lv_at hl 1 rfl) ?_
          refine va_get (D := D) (ci := 3) (v := .int 1) (C := RX3) (T := TX3) (N := 13) hx hb hts uin_X3_findsCell_X3 hown hG.1 hP 0 rfl rfl 12 (by decide) (hts (.fieldLink RX3 41 "TableSpliceModel" "thrown" "I") (List.mem_of_getElem? (i := 1) rfl)) (fun _ h9 => h9) rfl dX3_findsCell_63 ?_
          refine lv_if_ne (tgt := 73) hx hb dX3_findsCell_66 (by decide) (fun c_66 => ?_) (fun c_66 => ?_)
          · refine lv_iconst (v := 0) hx hb dX3_findsCell_73 (by decide) ?_
            have ef : f_X3_findsCell_2 mc mw p1 p3 p4 = (0, 1) := by rw [f_X3_findsCell_2, if_neg c_6, if_neg c_16, if_pos c_27]
            exact W.zret (v := 0) (ty := .boolean) hx hb hr rfl (fun t ht hW => ⟨⟨0, (), rfl, by rw [ef], by rw [ht, ef]; exact hP, by rw [ef]; exact hD⟩, hS.F ht⟩) hS.2.2 dX3_findsCell_74
          · exact absurd c_66 (by decide)
        · exact absurd (by decide) c_40
      · refine lv_iconst (v := 1) hx hb dX3_findsCell_30 (by decide) ?_
        refine lv_goto (tgt := 35) hx hb dX3_findsCell_31 (by decide) ?_
        refine lv_istore (lv' := [(5, .int 1), (0, .ref (ad 0)), (1, .int p1), (2, .int 2), (3, .int p3), (4, .int p4)]) hx hb dX3_findsCell_35 hl (by decide) rfl (fun ls hl => ?_)
        refine lv_aload_n hx hb dX3_findsCell_37 rfl (lv_at hl 1 rfl) ?_
        refine lv_iload hx hb dX3_findsCell_38 (lv_at hl 0 rfl) ?_
        refine lv_if_eq (tgt := 58) hx hb dX3_findsCell_40 (by decide) (fun c_40 => ?_) (fun c_40 => ?_)
        · exact absurd c_40 (by decide)
        · refine lv_aload_n hx hb dX3_findsCell_43 rfl (lv_at hl 1 rfl) ?_
          refine lv_iload_n hx hb dX3_findsCell_44 rfl (lv_at hl 2 rfl) ?_
          refine lv_iload_n hx hb dX3_findsCell_45 rfl (lv_at hl 4 rfl) ?_
          refine lv_iload hx hb dX3_findsCell_46 (lv_at hl 5 rfl) ?_
          refine pr_i (va_runV (As := [.int p1, .int p3, .int p4]) (rest := [.ref (ad 0)]) ⟨hx, hb, hml, hown, hts⟩ (k_X3_hasCell l D cyI cyZ ad mc mw mn me mu mr mz mf mt p1 p3 p4 (vi_mono (in_isIn (n := 2) rfl (by decide) c_6) (by decide))) (cwV 3 hts gX3_findsCell_X3_hasCell rfl rfl rfl (by decide +kernel) ⟨Nat.le_of_ble_eq_true rfl, Nat.le_of_ble_eq_true rfl⟩) (prV hG hP (ci := 3) rfl rfl rfl) rfl rfl hl.1 rfl (lv_room (Nat.le_of_ble_eq_true rfl)) dX3_findsCell_48 ⟨Nat.zero_le _, Nat.zero_le _⟩) hS hP (fun H locs hP hS => ?_)
          refine lv_if_eq (tgt := 58) hx hb dX3_findsCell_51 (by decide) (fun c_51 => ?_) (fun c_51 => ?_)
          · refine lv_iconst (v := 1) hx hb dX3_findsCell_58 (by decide) ?_
            have hS := sw_n (B := A) hS
            refine va_put (D := D) (ci := 3) (v := .int 1) (ty := .int) (C := RX3) (T := TX3) (N := 13) hx hb hts uin_X3_findsCell_X3 tyX3 tyX3_ok nmX3 hown hG.1 hP hD hS 0 rfl rfl 12 (by decide) (hts (.fieldLink RX3 41 "TableSpliceModel" "thrown" "I") (List.mem_of_getElem? (i := 1) rfl)) (fun _ h9 => h9) rfl (by decide +kernel) rfl rfl (Nat.le_of_ble_eq_true rfl) dX3_findsCell_59 (fun H locs hP hD hS => ?_)
            have hP : va_P D vwCl (wN cyI cyZ ad mc mw mn me mu mr mz mf 1) H := hP
            have hD : va_D A (wN cyI cyZ ad mc mw mn me mu mr mz mf 1) := hD
            refine lv_aload_n hx hb dX3_findsCell_62 rfl (lv_at hl 1 rfl) ?_
            refine va_get (D := D) (ci := 3) (v := .int 1) (C := RX3) (T := TX3) (N := 13) hx hb hts uin_X3_findsCell_X3 hown hG.1 hP 0 rfl rfl 12 (by decide) (hts (.fieldLink RX3 41 "TableSpliceModel" "thrown" "I") (List.mem_of_getElem? (i := 1) rfl)) (fun _ h9 => h9) rfl dX3_findsCell_63 ?_
            refine lv_if_ne (tgt := 73) hx hb dX3_findsCell_66 (by decide) (fun c_66 => ?_) (fun c_66 => ?_)
            · refine lv_iconst (v := 0) hx hb dX3_findsCell_73 (by decide) ?_
              have ef : f_X3_findsCell_2 mc mw p1 p3 p4 = (0, 1) := by rw [f_X3_findsCell_2, if_neg c_6, if_neg c_16, if_neg c_27, if_pos c_51]
              exact W.zret (v := 0) (ty := .boolean) hx hb hr rfl (fun t ht hW => ⟨⟨0, (), rfl, by rw [ef], by rw [ht, ef]; exact hP, by rw [ef]; exact hD⟩, hS.F ht⟩) hS.2.2 dX3_findsCell_74
            · exact absurd c_66 (by decide)
          · refine lv_iconst (v := 0) hx hb dX3_findsCell_54 (by decide) ?_
            refine lv_goto (tgt := 59) hx hb dX3_findsCell_55 (by decide) ?_
            have hS := sw_n (B := A) hS
            refine va_put (D := D) (ci := 3) (v := .int 0) (ty := .int) (C := RX3) (T := TX3) (N := 13) hx hb hts uin_X3_findsCell_X3 tyX3 tyX3_ok nmX3 hown hG.1 hP hD hS 0 rfl rfl 12 (by decide) (hts (.fieldLink RX3 41 "TableSpliceModel" "thrown" "I") (List.mem_of_getElem? (i := 1) rfl)) (fun _ h9 => h9) rfl (by decide +kernel) rfl rfl (Nat.le_of_ble_eq_true rfl) dX3_findsCell_59 (fun H locs hP hD hS => ?_)
            have hP : va_P D vwCl (wN cyI cyZ ad mc mw mn me mu mr mz mf 0) H := hP
            have hD : va_D A (wN cyI cyZ ad mc mw mn me mu mr mz mf 0) := hD
            refine lv_aload_n hx hb dX3_findsCell_62 rfl (lv_at hl 1 rfl) ?_
            refine va_get (D := D) (ci := 3) (v := .int 0) (C := RX3) (T := TX3) (N := 13) hx hb hts uin_X3_findsCell_X3 hown hG.1 hP 0 rfl rfl 12 (by decide) (hts (.fieldLink RX3 41 "TableSpliceModel" "thrown" "I") (List.mem_of_getElem? (i := 1) rfl)) (fun _ h9 => h9) rfl dX3_findsCell_63 ?_
            refine lv_if_ne (tgt := 73) hx hb dX3_findsCell_66 (by decide) (fun c_66 => ?_) (fun c_66 => ?_)
            · exact absurd (by decide) c_66
            · refine lv_iconst (v := 1) hx hb dX3_findsCell_69 (by decide) ?_
              refine lv_goto (tgt := 74) hx hb dX3_findsCell_70 (by decide) ?_
              have ef : f_X3_findsCell_2 mc mw p1 p3 p4 = (1, 0) := by rw [f_X3_findsCell_2, if_neg c_6, if_neg c_16, if_neg c_27, if_neg c_51]
              exact W.zret (v := 1) (ty := .boolean) hx hb hr rfl (fun t ht hW => ⟨⟨1, (), rfl, by rw [ef], by rw [ht, ef]; exact hP, by rw [ef]; exact hD⟩, hS.F ht⟩) hS.2.2 dX3_findsCell_74
def f_X3_findsColumn_3 (mc : Nat → Int32) (p1 : Int32) (p3 : Int32) : Int32 × Int32 := if (f_X3_isIn p1 0 3) = 0 then ((0, 1)) else (if (f_X3_isIn p3 0 7) = 0 then ((0, 1)) else (if (f_X3_hasColumn mc p1 p3) = 0 then ((0, 1)) else ((1, 0))))
set_option maxHeartbeats 4000000 in
set_option maxRecDepth 100000 in
theorem k_X3_findsColumn_3 (l : Launch) (D : va_G) (cyI cyZ : ClassId) (ad : Nat → Nat) (mc : Nat → Int32) (mw : Nat → Int32) (mn : Nat → Int32) (me : Nat → Int32) (mu : Nat → Int32) (mr : Nat → Int32) (mz : Kr) (mf : Int32) (mt : Int32) (p1 : Int32) (p3 : Int32) (A : Nat → Prop) (sz : Nat) (hAe : A = va_A (wN cyI cyZ ad mc mw mn me mu mr mz mf mt) sz) : Met l yX3_findsColumn wsX3_findsColumn ({ frames := 1, cells := 0, slots := 0, locals := 22 } : Room) (pcM D cyI cyZ sz [.ref (ad 0), .int p1, .int 3, .int p3] (wN cyI cyZ ad mc mw mn me mu mr mz mf mt)) (mI D A (wN cyI cyZ ad mc mw mn me mu mr mz mf (f_X3_findsColumn_3 mc p1 p3).2) (f_X3_findsColumn_3 mc p1 p3).1) 0 0 A := by
  refine Met.ofW (cc := cX3_findsColumn) (maxL := 4) (ret := (some .boolean)) (by decide) rfl ?_
  intro p e s m args below meth c s₁ B hml hv
  obtain ⟨rfl, hsz, hP, hG, hD0⟩ := hv
  have hx := B.exec
  have hb := B.bytes
  have hr := B.returns
  have hts := atoms_spec (ws := wsX3_findsColumn) B.pre
  have hown : s.vm.findClass RX3 = some m.cls := findClass_of_methodNamed B.named
  have hlocks := B.notSynchronized
  subst hsz
  have hD : va_D A (wN cyI cyZ ad mc mw mn me mu mr mz mf mt) := by rw [hAe]; exact hD0.self
  have hA : ∀ q : Nat, s.heap.size ≤ q → A q := fun q h => by rw [hAe]; exact Or.inr h
  clear hAe hD0
  have hS : va_S nA s.heap s.heap [] := va_S.rf
  have hl := lv_entry ([.ref (ad 0), .int p1, .int 3, .int p3]) (n := 4) (Nat.le_of_ble_eq_true rfl)
  rw [lg_entry_eq]
  generalize (lg_sl ([.ref (ad 0), .int p1, .int 3, .int p3]) ++ List.replicate (4 - (lg_sl ([.ref (ad 0), .int p1, .int 3, .int p3])).length) Slot.unset).toArray = ls at hl ⊢
  have hl : lv_has ls 4 [(0, .ref (ad 0)), (1, .int p1), (2, .int 3), (3, .int p3)] := hl
  have hP : va_P D vwCl (wN cyI cyZ ad mc mw mn me mu mr mz mf mt) s.heap := hP
  refine lv_aload_n hx hb dX3_findsColumn_0 rfl (lv_at hl 0 rfl) ?_
  refine lv_iload_n hx hb dX3_findsColumn_1 rfl (lv_at hl 1 rfl) ?_
  refine lv_iconst (v := 0) hx hb dX3_findsColumn_2 (by decide) ?_
  refine lv_iload_n hx hb dX3_findsColumn_3 rfl (lv_at hl 2 rfl) ?_
  refine pr_i (va_runS (As := [.int p1, .int 0, .int 3]) (rest := [.ref (ad 0)]) ⟨hx, hb, hml, hown, hts⟩ (k_X3_isIn l D cyI cyZ p1 0 3) (va_cwS 3 hts gX3_findsColumn_X3_isIn rfl rfl rfl (by decide +kernel) ⟨Nat.le_of_ble_eq_true rfl, Nat.le_of_ble_eq_true rfl⟩) (prS hG (hP.sub (ws' := []) [] rfl)) rfl rfl hl.1 rfl (lv_room (Nat.le_of_ble_eq_true rfl)) dX3_findsColumn_4 ⟨Nat.zero_le _, Nat.zero_le _⟩) hS hP (fun H locs hP hS => ?_)
  refine lv_if_eq (tgt := 33) hx hb dX3_findsColumn_7 (by decide) (fun c_7 => ?_) (fun c_7 => ?_)
  · refine lv_iconst (v := 1) hx hb dX3_findsColumn_33 (by decide) ?_
    have hS := sw_n (B := A) hS
    refine va_put (D := D) (ci := 3) (v := .int 1) (ty := .int) (C := RX3) (T := TX3) (N := 13) hx hb hts uin_X3_findsColumn_X3 tyX3 tyX3_ok nmX3 hown hG.1 hP hD hS 0 rfl rfl 12 (by decide) (hts (.fieldLink RX3 41 "TableSpliceModel" "thrown" "I") (List.mem_of_getElem? (i := 1) rfl)) (fun _ h9 => h9) rfl (by decide +kernel) rfl rfl (Nat.le_of_ble_eq_true rfl) dX3_findsColumn_34 (fun H locs hP hD hS => ?_)
    have hP : va_P D vwCl (wN cyI cyZ ad mc mw mn me mu mr mz mf 1) H := hP
    have hD : va_D A (wN cyI cyZ ad mc mw mn me mu mr mz mf 1) := hD
    refine lv_aload_n hx hb dX3_findsColumn_37 rfl (lv_at hl 0 rfl) ?_
    refine va_get (D := D) (ci := 3) (v := .int 1) (C := RX3) (T := TX3) (N := 13) hx hb hts uin_X3_findsColumn_X3 hown hG.1 hP 0 rfl rfl 12 (by decide) (hts (.fieldLink RX3 41 "TableSpliceModel" "thrown" "I") (List.mem_of_getElem? (i := 1) rfl)) (fun _ h9 => h9) rfl dX3_findsColumn_38 ?_
    refine lv_if_ne (tgt := 48) hx hb dX3_findsColumn_41 (by decide) (fun c_41 => ?_) (fun c_41 => ?_)
    · refine lv_iconst (v := 0) hx hb dX3_findsColumn_48 (by decide) ?_
      have ef : f_X3_findsColumn_3 mc p1 p3 = (0, 1) := by rw [f_X3_findsColumn_3, if_pos c_7]
      exact W.zret (v := 0) (ty := .boolean) hx hb hr rfl (fun t ht hW => ⟨⟨0, (), rfl, by rw [ef], by rw [ht, ef]; exact hP, by rw [ef]; exact hD⟩, hS.F ht⟩) hS.2.2 dX3_findsColumn_49
    · exact absurd c_41 (by decide)
  · refine lv_iload_n hx hb dX3_findsColumn_10 rfl (lv_at hl 3 rfl) ?_
    refine lv_iconst (v := 0) hx hb dX3_findsColumn_11 (by decide) ?_
    refine lv_bipush (v := 7) hx hb dX3_findsColumn_12 (by decide) ?_
    refine pr_i (va_runS (As := [.int p3, .int 0, .int 7]) (rest := [.ref (ad 0)]) ⟨hx, hb, hml, hown, hts⟩ (k_X3_isIn l D cyI cyZ p3 0 7) (va_cwS 3 hts gX3_findsColumn_X3_isIn rfl rfl rfl (by decide +kernel) ⟨Nat.le_of_ble_eq_true rfl, Nat.le_of_ble_eq_true rfl⟩) (prS hG (hP.sub (ws' := []) [] rfl)) rfl rfl hl.1 rfl (lv_room (Nat.le_of_ble_eq_true rfl)) dX3_findsColumn_14 ⟨Nat.zero_le _, Nat.zero_le _⟩) hS hP (fun H locs hP hS => ?_)
    refine lv_if_eq (tgt := 33) hx hb dX3_findsColumn_17 (by decide) (fun c_17 => ?_) (fun c_17 => ?_)
    · refine lv_iconst (v := 1) hx hb dX3_findsColumn_33 (by decide) ?_
      have hS := sw_n (B := A) hS
      refine va_put (D := D) (ci := 3) (v := .int 1) (ty := .int) (C := RX3) (T := TX3) (N := 13) hx hb hts uin_X3_findsColumn_X3 tyX3 tyX3_ok nmX3 hown hG.1 hP hD hS 0 rfl rfl 12 (by decide) (hts (.fieldLink RX3 41 "TableSpliceModel" "thrown" "I") (List.mem_of_getElem? (i := 1) rfl)) (fun _ h9 => h9) rfl (by decide +kernel) rfl rfl (Nat.le_of_ble_eq_true rfl) dX3_findsColumn_34 (fun H locs hP hD hS => ?_)
      have hP : va_P D vwCl (wN cyI cyZ ad mc mw mn me mu mr mz mf 1) H := hP
      have hD : va_D A (wN cyI cyZ ad mc mw mn me mu mr mz mf 1) := hD
      refine lv_aload_n hx hb dX3_findsColumn_37 rfl (lv_at hl 0 rfl) ?_
      refine va_get (D := D) (ci := 3) (v := .int 1) (C := RX3) (T := TX3) (N := 13) hx hb hts uin_X3_findsColumn_X3 hown hG.1 hP 0 rfl rfl 12 (by decide) (hts (.fieldLink RX3 41 "TableSpliceModel" "thrown" "I") (List.mem_of_getElem? (i := 1) rfl)) (fun _ h9 => h9) rfl dX3_findsColumn_38 ?_
      refine lv_if_ne (tgt := 48) hx hb dX3_findsColumn_41 (by decide) (fun c_41 => ?_) (fun c_41 => ?_)
      · refine lv_iconst (v := 0) hx hb dX3_findsColumn_48 (by decide) ?_
        have ef : f_X3_findsColumn_3 mc p1 p3 = (0, 1) := by rw [f_X3_findsColumn_3, if_neg c_7, if_pos c_17]
        exact W.zret (v := 0) (ty := .boolean) hx hb hr rfl (fun t ht hW => ⟨⟨0, (), rfl, by rw [ef], by rw [ht, ef]; exact hP, by rw [ef]; exact hD⟩, hS.F ht⟩) hS.2.2 dX3_findsColumn_49
      · exact absurd c_41 (by decide)
    · refine lv_aload_n hx hb dX3_findsColumn_20 rfl (lv_at hl 0 rfl) ?_
      refine lv_iload_n hx hb dX3_findsColumn_21 rfl (lv_at hl 1 rfl) ?_
      refine lv_iload_n hx hb dX3_findsColumn_22 rfl (lv_at hl 3 rfl) ?_
      refine pr_i (va_runV (As := [.int p1, .int p3]) (rest := [.ref (ad 0)]) ⟨hx, hb, hml, hown, hts⟩ (k_X3_hasColumn l D cyI cyZ ad mc mw mn me mu mr mz mf mt p1 p3 (in_isIn (n := 3) rfl (by decide) c_7)) (cwV 2 hts gX3_findsColumn_X3_hasColumn rfl rfl rfl (by decide +kernel) ⟨Nat.le_of_ble_eq_true rfl, Nat.le_of_ble_eq_true rfl⟩) (prV hG hP (ci := 3) rfl rfl rfl) rfl rfl hl.1 rfl (lv_room (Nat.le_of_ble_eq_true rfl)) dX3_findsColumn_23 ⟨Nat.zero_le _, Nat.zero_le _⟩) hS hP (fun H locs hP hS => ?_)
      refine lv_if_eq (tgt := 33) hx hb dX3_findsColumn_26 (by decide) (fun c_26 => ?_) (fun c_26 => ?_)
      · refine lv_iconst (v := 1) hx hb dX3_findsColumn_33 (by decide) ?_
        have hS := sw_n (B := A) hS
        refine va_put (D := D) (ci := 3) (v := .int 1) (ty := .int) (C := RX3) (T := TX3) (N := 13) hx hb hts uin_X3_findsColumn_X3 tyX3 tyX3_ok nmX3 hown hG.1 hP hD hS 0 rfl rfl 12 (by decide) (hts (.fieldLink RX3 41 "TableSpliceModel" "thrown" "I") (List.mem_of_getElem? (i := 1) rfl)) (fun _ h9 => h9) rfl (by decide +kernel) rfl rfl (Nat.le_of_ble_eq_true rfl) dX3_findsColumn_34 (fun H locs hP hD hS => ?_)
        have hP : va_P D vwCl (wN cyI cyZ ad mc mw mn me mu mr mz mf 1) H := hP
        have hD : va_D A (wN cyI cyZ ad mc mw mn me mu mr mz mf 1) := hD
        refine lv_aload_n hx hb dX3_findsColumn_37 rfl (lv_at hl 0 rfl) ?_
        refine va_get (D := D) (ci := 3) (v := .int 1) (C := RX3) (T := TX3) (N := 13) hx hb hts uin_X3_findsColumn_X3 hown hG.1 hP 0 rfl rfl 12 (by decide) (hts (.fieldLink RX3 41 "TableSpliceModel" "thrown" "I") (List.mem_of_getElem? (i := 1) rfl)) (fun _ h9 => h9) rfl dX3_findsColumn_38 ?_
        refine lv_if_ne (tgt := 48) hx hb dX3_findsColumn_41 (by decide) (fun c_41 => ?_) (fun c_41 => ?_)
        · refine lv_iconst (v := 0) hx hb dX3_findsColumn_48 (by decide) ?_
          have ef : f_X3_findsColumn_3 mc p1 p3 = (0, 1) := by rw [f_X3_findsColumn_3, if_neg c_7, if_neg c_17, if_pos c_26]
          exact W.zret (v := 0) (ty := .boolean) hx hb hr rfl (fun t ht hW => ⟨⟨0, (), rfl, by rw [ef], by rw [ht, ef]; exact hP, by rw [ef]; exact hD⟩, hS.F ht⟩) hS.2.2 dX3_findsColumn_49
        · exact absurd c_41 (by decide)
      · refine lv_iconst (v := 0) hx hb dX3_findsColumn_29 (by decide) ?_
        refine lv_goto (tgt := 34) hx hb dX3_findsColumn_30 (by decide) ?_
        have hS := sw_n (B := A) hS
        refine va_put (D := D) (ci := 3) (v := .int 0) (ty := .int) (C := RX3) (T := TX3) (N := 13) hx hb hts uin_X3_findsColumn_X3 tyX3 tyX3_ok nmX3 hown hG.1 hP hD hS 0 rfl rfl 12 (by decide) (hts (.fieldLink RX3 41 "TableSpliceModel" "thrown" "I") (List.mem_of_getElem? (i := 1) rfl)) (fun _ h9 => h9) rfl (by decide +kernel) rfl rfl (Nat.le_of_ble_eq_true rfl) dX3_findsColumn_34 (fun H locs hP hD hS => ?_)
        have hP : va_P D vwCl (wN cyI cyZ ad mc mw mn me mu mr mz mf 0) H := hP
        have hD : va_D A (wN cyI cyZ ad mc mw mn me mu mr mz mf 0) := hD
        refine lv_aload_n hx hb dX3_findsColumn_37 rfl (lv_at hl 0 rfl) ?_
        refine va_get (D := D) (ci := 3) (v := .int 0) (C := RX3) (T := TX3) (N := 13) hx hb hts uin_X3_findsColumn_X3 hown hG.1 hP 0 rfl rfl 12 (by decide) (hts (.fieldLink RX3 41 "TableSpliceModel" "thrown" "I") (List.mem_of_getElem? (i := 1) rfl)) (fun _ h9 => h9) rfl dX3_findsColumn_38 ?_
        refine lv_if_ne (tgt := 48) hx hb dX3_findsColumn_41 (by decide) (fun c_41 => ?_) (fun c_41 => ?_)
        · exact absurd (by decide) c_41
        · refine lv_iconst (v := 1) hx hb dX3_findsColumn_44 (by decide) ?_
          refine lv_goto (tgt := 49) hx hb dX3_findsColumn_45 (by decide) ?_
          have ef : f_X3_findsColumn_3 mc p1 p3 = (1, 0) := by rw [f_X3_findsColumn_3, if_neg c_7, if_neg c_17, if_neg c_26]
          exact W.zret (v := 1) (ty := .boolean) hx hb hr rfl (fun t ht hW => ⟨⟨1, (), rfl, by rw [ef], by rw [ht, ef]; exact hP, by rw [ef]; exact hD⟩, hS.F ht⟩) hS.2.2 dX3_findsColumn_49
def f_X3_findsCell_3 (mc : Nat → Int32) (mw : Nat → Int32) (p1 : Int32) (p3 : Int32) (p4 : Int32) : Int32 × Int32 := if (f_X3_isIn p1 0 3) = 0 then ((0, 1)) else (if (f_X3_isIn p3 0 23) = 0 then ((0, 1)) else (if (f_X3_isIn p4 0 7) = 0 then ((0, 1)) else (if (f_X3_hasCell mc mw p1 p3 p4) = 0 then ((0, 1)) else ((1, 0)))))
set_option maxHeartbeats 4000000 in
set_option maxRecDepth 100000 in
theorem k_X3_findsCell_3 (l : Launch) (D : va_G) (cyI cyZ : ClassId) (ad : Nat → Nat) (mc : Nat → Int32) (mw : Nat → Int32) (mn : Nat → Int32) (me : Nat → Int32) (mu : Nat → Int32) (mr : Nat → Int32) (mz : Kr) (mf : Int32) (mt : Int32) (p1 : Int32) (p3 : Int32) (p4 : Int32) (A : Nat → Prop) (sz : Nat) (hAe : A = va_A (wN cyI cyZ ad mc mw mn me mu mr mz mf mt) sz) : Met l yX3_findsCell wsX3_findsCell ({ frames := 2, cells := 0, slots := 0, locals := 45 } : Room) (pcM D cyI cyZ sz [.ref (ad 0), .int p1, .int 3, .int p3, .int p4] (wN cyI cyZ ad mc mw mn me mu mr mz mf mt)) (mI D A (wN cyI cyZ ad mc mw mn me mu mr mz mf (f_X3_findsCell_3 mc mw p1 p3 p4).2) (f_X3_findsCell_3 mc mw p1 p3 p4).1) 0 0 A := by
  refine Met.ofW (cc := cX3_findsCell) (maxL := 6) (ret := (some .boolean)) (by decide) rfl ?_
  intro p e s m args below meth c s₁ B hml hv
  obtain ⟨rfl, hsz, hP, hG, hD0⟩ := hv
  have hx := B.exec
  have hb := B.bytes
  have hr := B.returns
  have hts := atoms_spec (ws := wsX3_findsCell) B.pre
  have hown : s.vm.findClass RX3 = some m.cls := findClass_of_methodNamed B.named
  have hlocks := B.notSynchronized
  subst hsz
  have hD : va_D A (wN cyI cyZ ad mc mw mn me mu mr mz mf mt) := by rw [hAe]; exact hD0.self
  have hA : ∀ q : Nat, s.heap.size ≤ q → A q := fun q h => by rw [hAe]; exact Or.inr h
  clear hAe hD0
  have hS : va_S nA s.heap s.heap [] := va_S.rf
  have hl := lv_entry ([.ref (ad 0), .int p1, .int 3, .int p3, .int p4]) (n := 6) (Nat.le_of_ble_eq_true rfl)
  rw [lg_entry_eq]
  generalize (lg_sl ([.ref (ad 0), .int p1, .int 3, .int p3, .int p4]) ++ List.replicate (6 - (lg_sl ([.ref (ad 0), .int p1, .int 3, .int p3, .int p4])).length) Slot.unset).toArray = ls at hl ⊢
  have hl : lv_has ls 6 [(0, .ref (ad 0)), (1, .int p1), (2, .int 3), (3, .int p3), (4, .int p4)] := hl
  have hP : va_P D vwCl (wN cyI cyZ ad mc mw mn me mu mr mz mf mt) s.heap := hP
  refine lv_iload_n hx hb dX3_findsCell_0 rfl (lv_at hl 1 rfl) ?_
  refine lv_iconst (v := 0) hx hb dX3_findsCell_1 (by decide) ?_
  refine lv_iload_n hx hb dX3_findsCell_2 rfl (lv_at hl 2 rfl) ?_
  refine pr_i (va_runS (As := [.int p1, .int 0, .int 3]) (rest := []) ⟨hx, hb, hml, hown, hts⟩ (k_X3_isIn l D cyI cyZ p1 0 3) (va_cwS 3 hts gX3_findsCell_X3_isIn rfl rfl rfl (by decide +kernel) ⟨Nat.le_of_ble_eq_true rfl, Nat.le_of_ble_eq_true rfl⟩) (prS hG (hP.sub (ws' := []) [] rfl)) rfl rfl hl.1 rfl (lv_room (Nat.le_of_ble_eq_true rfl)) dX3_findsCell_3 ⟨Nat.zero_le _, Nat.zero_le _⟩) hS hP (fun H locs hP hS => ?_)
  refine lv_if_eq (tgt := 34) hx hb dX3_findsCell_6 (by decide) (fun c_6 => ?_) (fun c_6 => ?_)
  · refine lv_iconst (v := 0) hx hb dX3_findsCell_34 (by decide) ?_
    refine lv_istore (lv' := [(5, .int 0), (0, .ref (ad 0)), (1, .int p1), (2, .int 3), (3, .int p3), (4, .int p4)]) hx hb dX3_findsCell_35 hl (by decide) rfl (fun ls hl => ?_)
    refine lv_aload_n hx hb dX3_findsCell_37 rfl (lv_at hl 1 rfl) ?_
    refine lv_iload hx hb dX3_findsCell_38 (lv_at hl 0 rfl) ?_
    refine lv_if_eq (tgt := 58) hx hb dX3_findsCell_40 (by decide) (fun c_40 => ?_) (fun c_40 => ?_)
    · refine lv_iconst (v := 1) hx hb dX3_findsCell_58 (by decide) ?_
      have hS := sw_n (B := A) hS
      refine va_put (D := D) (ci := 3) (v := .int 1) (ty := .int) (C := RX3) (T := TX3) (N := 13) hx hb hts uin_X3_findsCell_X3 tyX3 tyX3_ok nmX3 hown hG.1 hP hD hS 0 rfl rfl 12 (by decide) (hts (.fieldLink RX3 41 "TableSpliceModel" "thrown" "I") (List.mem_of_getElem? (i := 1) rfl)) (fun _ h9 => h9) rfl (by decide +kernel) rfl rfl (Nat.le_of_ble_eq_true rfl) dX3_findsCell_59 (fun H locs hP hD hS => ?_)
      have hP : va_P D vwCl (wN cyI cyZ ad mc mw mn me mu mr mz mf 1) H := hP
      have hD : va_D A (wN cyI cyZ ad mc mw mn me mu mr mz mf 1) := hD
      refine lv_aload_n hx hb dX3_findsCell_62 rfl (lv_at hl 1 rfl) ?_
      refine va_get (D := D) (ci := 3) (v := .int 1) (C := RX3) (T := TX3) (N := 13) hx hb hts uin_X3_findsCell_X3 hown hG.1 hP 0 rfl rfl 12 (by decide) (hts (.fieldLink RX3 41 "TableSpliceModel" "thrown" "I") (List.mem_of_getElem? (i := 1) rfl)) (fun _ h9 => h9) rfl dX3_findsCell_63 ?_
      refine lv_if_ne (tgt := 73) hx hb dX3_findsCell_66 (by decide) (fun c_66 => ?_) (fun c_66 => ?_)
      · refine lv_iconst (v := 0) hx hb dX3_findsCell_73 (by decide) ?_
        have ef : f_X3_findsCell_3 mc mw p1 p3 p4 = (0, 1) := by rw [f_X3_findsCell_3, if_pos c_6]
        exact W.zret (v := 0) (ty := .boolean) hx hb hr rfl (fun t ht hW => ⟨⟨0, (), rfl, by rw [ef], by rw [ht, ef]; exact hP, by rw [ef]; exact hD⟩, hS.F ht⟩) hS.2.2 dX3_findsCell_74
      · exact absurd c_66 (by decide)
    · exact absurd (by decide) c_40
  · refine lv_iload_n hx hb dX3_findsCell_9 rfl (lv_at hl 3 rfl) ?_
    refine lv_iconst (v := 0) hx hb dX3_findsCell_10 (by decide) ?_
    refine lv_bipush (v := 23) hx hb dX3_findsCell_11 (by decide) ?_
    refine pr_i (va_runS (As := [.int p3, .int 0, .int 23]) (rest := []) ⟨hx, hb, hml, hown, hts⟩ (k_X3_isIn l D cyI cyZ p3 0 23) (va_cwS 3 hts gX3_findsCell_X3_isIn rfl rfl rfl (by decide +kernel) ⟨Nat.le_of_ble_eq_true rfl, Nat.le_of_ble_eq_true rfl⟩) (prS hG (hP.sub (ws' := []) [] rfl)) rfl rfl hl.1 rfl (lv_room (Nat.le_of_ble_eq_true rfl)) dX3_findsCell_13 ⟨Nat.zero_le _, Nat.zero_le _⟩) hS hP (fun H locs hP hS => ?_)
    refine lv_if_eq (tgt := 34) hx hb dX3_findsCell_16 (by decide) (fun c_16 => ?_) (fun c_16 => ?_)
    · refine lv_iconst (v := 0) hx hb dX3_findsCell_34 (by decide) ?_
      refine lv_istore (lv' := [(5, .int 0), (0, .ref (ad 0)), (1, .int p1), (2, .int 3), (3, .int p3), (4, .int p4)]) hx hb dX3_findsCell_35 hl (by decide) rfl (fun ls hl => ?_)
      refine lv_aload_n hx hb dX3_findsCell_37 rfl (lv_at hl 1 rfl) ?_
      refine lv_iload hx hb dX3_findsCell_38 (lv_at hl 0 rfl) ?_
      refine lv_if_eq (tgt := 58) hx hb dX3_findsCell_40 (by decide) (fun c_40 => ?_) (fun c_40 => ?_)
      · refine lv_iconst (v := 1) hx hb dX3_findsCell_58 (by decide) ?_
        have hS := sw_n (B := A) hS
        refine va_put (D := D) (ci := 3) (v := .int 1) (ty := .int) (C := RX3) (T := TX3) (N := 13) hx hb hts uin_X3_findsCell_X3 tyX3 tyX3_ok nmX3 hown hG.1 hP hD hS 0 rfl rfl 12 (by decide) (hts (.fieldLink RX3 41 "TableSpliceModel" "thrown" "I") (List.mem_of_getElem? (i := 1) rfl)) (fun _ h9 => h9) rfl (by decide +kernel) rfl rfl (Nat.le_of_ble_eq_true rfl) dX3_findsCell_59 (fun H locs hP hD hS => ?_)
        have hP : va_P D vwCl (wN cyI cyZ ad mc mw mn me mu mr mz mf 1) H := hP
        have hD : va_D A (wN cyI cyZ ad mc mw mn me mu mr mz mf 1) := hD
        refine lv_aload_n hx hb dX3_findsCell_62 rfl (lv_at hl 1 rfl) ?_
        refine va_get (D := D) (ci := 3) (v := .int 1) (C := RX3) (T := TX3) (N := 13) hx hb hts uin_X3_findsCell_X3 hown hG.1 hP 0 rfl rfl 12 (by decide) (hts (.fieldLink RX3 41 "TableSpliceModel" "thrown" "I") (List.mem_of_getElem? (i := 1) rfl)) (fun _ h9 => h9) rfl dX3_findsCell_63 ?_
        refine lv_if_ne (tgt := 73) hx hb dX3_findsCell_66 (by decide) (fun c_66 => ?_) (fun c_66 => ?_)
        · refine lv_iconst (v := 0) hx hb dX3_findsCell_73 (by decide) ?_
          have ef : f_X3_findsCell_3 mc mw p1 p3 p4 = (0, 1) := by rw [f_X3_findsCell_3, if_neg c_6, if_pos c_16]
          exact W.zret (v := 0) (ty := .boolean) hx hb hr rfl (fun t ht hW => ⟨⟨0, (), rfl, by rw [ef], by rw [ht, ef]; exact hP, by rw [ef]; exact hD⟩, hS.F ht⟩) hS.2.2 dX3_findsCell_74
        · exact absurd c_66 (by decide)
      · exact absurd (by decide) c_40
    · refine lv_iload hx hb dX3_findsCell_19 (lv_at hl 4 rfl) ?_
      refine lv_iconst (v := 0) hx hb dX3_findsCell_21 (by decide) ?_
      refine lv_bipush (v := 7) hx hb dX3_findsCell_22 (by decide) ?_
      refine pr_i (va_runS (As := [.int p4, .int 0, .int 7]) (rest := []) ⟨hx, hb, hml, hown, hts⟩ (k_X3_isIn l D cyI cyZ p4 0 7) (va_cwS 3 hts gX3_findsCell_X3_isIn rfl rfl rfl (by decide +kernel) ⟨Nat.le_of_ble_eq_true rfl, Nat.le_of_ble_eq_true rfl⟩) (prS hG (hP.sub (ws' := []) [] rfl)) rfl rfl hl.1 rfl (lv_room (Nat.le_of_ble_eq_true rfl)) dX3_findsCell_24 ⟨Nat.zero_le _, Nat.zero_le _⟩) hS hP (fun H locs hP hS => ?_)
      refine lv_if_eq (tgt := 34) hx hb dX3_findsCell_27 (by decide) (fun c_27 => ?_) (fun c_27 => ?_)
      · refine lv_iconst (v := 0) hx hb dX3_findsCell_34 (by decide) ?_
        refine lv_istore (lv' := [(5, .int 0), (0, .ref (ad 0)), (1, .int p1), (2, .int 3), (3, .int p3), (4, .int p4)]) hx hb dX3_findsCell_35 hl (by decide) rfl (fun ls hl => ?_)
        refine lv_aload_n hx hb dX3_findsCell_37 rfl (lv_at hl 1 rfl) ?_
        refine lv_iload hx hb dX3_findsCell_38 (lv_at hl 0 rfl) ?_
        refine lv_if_eq (tgt := 58) hx hb dX3_findsCell_40 (by decide) (fun c_40 => ?_) (fun c_40 => ?_)
        · refine lv_iconst (v := 1) hx hb dX3_findsCell_58 (by decide) ?_
          have hS := sw_n (B := A) hS
          refine va_put (D := D) (ci := 3) (v := .int 1) (ty := .int) (C := RX3) (T := TX3) (N := 13) hx hb hts uin_X3_findsCell_X3 tyX3 tyX3_ok nmX3 hown hG.1 hP hD hS 0 rfl rfl 12 (by decide) (hts (.fieldLink RX3 41 "TableSpliceModel" "thrown" "I") (List.mem_of_getElem? (i := 1) rfl)) (fun _ h9 => h9) rfl (by decide +kernel) rfl rfl (Nat.le_of_ble_eq_true rfl) dX3_findsCell_59 (fun H locs hP hD hS => ?_)
          have hP : va_P D vwCl (wN cyI cyZ ad mc mw mn me mu mr mz mf 1) H := hP
          have hD : va_D A (wN cyI cyZ ad mc mw mn me mu mr mz mf 1) := hD
          refine lv_aload_n hx hb dX3_findsCell_62 rfl (lv_at hl 1 rfl) ?_
          refine va_get (D := D) (ci := 3) (v := .int 1) (C := RX3) (T := TX3) (N := 13) hx hb hts uin_X3_findsCell_X3 hown hG.1 hP 0 rfl rfl 12 (by decide) (hts (.fieldLink RX3 41 "TableSpliceModel" "thrown" "I") (List.mem_of_getElem? (i := 1) rfl)) (fun _ h9 => h9) rfl dX3_findsCell_63 ?_
          refine lv_if_ne (tgt := 73) hx hb dX3_findsCell_66 (by decide) (fun c_66 => ?_) (fun c_66 => ?_)
          · refine lv_iconst (v := 0) hx hb dX3_findsCell_73 (by decide) ?_
            have ef : f_X3_findsCell_3 mc mw p1 p3 p4 = (0, 1) := by rw [f_X3_findsCell_3, if_neg c_6, if_neg c_16, if_pos c_27]
            exact W.zret (v := 0) (ty := .boolean) hx hb hr rfl (fun t ht hW => ⟨⟨0, (), rfl, by rw [ef], by rw [ht, ef]; exact hP, by rw [ef]; exact hD⟩, hS.F ht⟩) hS.2.2 dX3_findsCell_74
          · exact absurd c_66 (by decide)
        · exact absurd (by decide) c_40
      · refine lv_iconst (v := 1) hx hb dX3_findsCell_30 (by decide) ?_
        refine lv_goto (tgt := 35) hx hb dX3_findsCell_31 (by decide) ?_
        refine lv_istore (lv' := [(5, .int 1), (0, .ref (ad 0)), (1, .int p1), (2, .int 3), (3, .int p3), (4, .int p4)]) hx hb dX3_findsCell_35 hl (by decide) rfl (fun ls hl => ?_)
        refine lv_aload_n hx hb dX3_findsCell_37 rfl (lv_at hl 1 rfl) ?_
        refine lv_iload hx hb dX3_findsCell_38 (lv_at hl 0 rfl) ?_
        refine lv_if_eq (tgt := 58) hx hb dX3_findsCell_40 (by decide) (fun c_40 => ?_) (fun c_40 => ?_)
        · exact absurd c_40 (by decide)
        · refine lv_aload_n hx hb dX3_findsCell_43 rfl (lv_at hl 1 rfl) ?_
          refine lv_iload_n hx hb dX3_findsCell_44 rfl (lv_at hl 2 rfl) ?_
          refine lv_iload_n hx hb dX3_findsCell_45 rfl (lv_at hl 4 rfl) ?_
          refine lv_iload hx hb dX3_findsCell_46 (lv_at hl 5 rfl) ?_
          refine pr_i (va_runV (As := [.int p1, .int p3, .int p4]) (rest := [.ref (ad 0)]) ⟨hx, hb, hml, hown, hts⟩ (k_X3_hasCell l D cyI cyZ ad mc mw mn me mu mr mz mf mt p1 p3 p4 (in_isIn (n := 3) rfl (by decide) c_6)) (cwV 3 hts gX3_findsCell_X3_hasCell rfl rfl rfl (by decide +kernel) ⟨Nat.le_of_ble_eq_true rfl, Nat.le_of_ble_eq_true rfl⟩) (prV hG hP (ci := 3) rfl rfl rfl) rfl rfl hl.1 rfl (lv_room (Nat.le_of_ble_eq_true rfl)) dX3_findsCell_48 ⟨Nat.zero_le _, Nat.zero_le _⟩) hS hP (fun H locs hP hS => ?_)
          refine lv_if_eq (tgt := 58) hx hb dX3_findsCell_51 (by decide) (fun c_51 => ?_) (fun c_51 => ?_)
          · refine lv_iconst (v := 1) hx hb dX3_findsCell_58 (by decide) ?_
            have hS := sw_n (B := A) hS
            refine va_put (D := D) (ci := 3) (v := .int 1) (ty := .int) (C := RX3) (T := TX3) (N := 13) hx hb hts uin_X3_findsCell_X3 tyX3 tyX3_ok nmX3 hown hG.1 hP hD hS 0 rfl rfl 12 (by decide) (hts (.fieldLink RX3 41 "TableSpliceModel" "thrown" "I") (List.mem_of_getElem? (i := 1) rfl)) (fun _ h9 => h9) rfl (by decide +kernel) rfl rfl (Nat.le_of_ble_eq_true rfl) dX3_findsCell_59 (fun H locs hP hD hS => ?_)
            have hP : va_P D vwCl (wN cyI cyZ ad mc mw mn me mu mr mz mf 1) H := hP
            have hD : va_D A (wN cyI cyZ ad mc mw mn me mu mr mz mf 1) := hD
            refine lv_aload_n hx hb dX3_findsCell_62 rfl (lv_at hl 1 rfl) ?_
            refine va_get (D := D) (ci := 3) (v := .int 1) (C := RX3) (T := TX3) (N := 13) hx hb hts uin_X3_findsCell_X3 hown hG.1 hP 0 rfl rfl 12 (by decide) (hts (.fieldLink RX3 41 "TableSpliceModel" "thrown" "I") (List.mem_of_getElem? (i := 1) rfl)) (fun _ h9 => h9) rfl dX3_findsCell_63 ?_
            refine lv_if_ne (tgt := 73) hx hb dX3_findsCell_66 (by decide) (fun c_66 => ?_) (fun c_66 => ?_)
            · refine lv_iconst (v := 0) hx hb dX3_findsCell_73 (by decide) ?_
              have ef : f_X3_findsCell_3 mc mw p1 p3 p4 = (0, 1) := by rw [f_X3_findsCell_3, if_neg c_6, if_neg c_16, if_neg c_27, if_pos c_51]
              exact W.zret (v := 0) (ty := .boolean) hx hb hr rfl (fun t ht hW => ⟨⟨0, (), rfl, by rw [ef], by rw [ht, ef]; exact hP, by rw [ef]; exact hD⟩, hS.F ht⟩) hS.2.2 dX3_findsCell_74
            · exact absurd c_66 (by decide)
          · refine lv_iconst (v := 0) hx hb dX3_findsCell_54 (by decide) ?_
            refine lv_goto (tgt := 59) hx hb dX3_findsCell_55 (by decide) ?_
            have hS := sw_n (B := A) hS
            refine va_put (D := D) (ci := 3) (v := .int 0) (ty := .int) (C := RX3) (T := TX3) (N := 13) hx hb hts uin_X3_findsCell_X3 tyX3 tyX3_ok nmX3 hown hG.1 hP hD hS 0 rfl rfl 12 (by decide) (hts (.fieldLink RX3 41 "TableSpliceModel" "thrown" "I") (List.mem_of_getElem? (i := 1) rfl)) (fun _ h9 => h9) rfl (by decide +kernel) rfl rfl (Nat.le_of_ble_eq_true rfl) dX3_findsCell_59 (fun H locs hP hD hS => ?_)
            have hP : va_P D vwCl (wN cyI cyZ ad mc mw mn me mu mr mz mf 0) H := hP
            have hD : va_D A (wN cyI cyZ ad mc mw mn me mu mr mz mf 0) := hD
            refine lv_aload_n hx hb dX3_findsCell_62 rfl (lv_at hl 1 rfl) ?_
            refine va_get (D := D) (ci := 3) (v := .int 0) (C := RX3) (T := TX3) (N := 13) hx hb hts uin_X3_findsCell_X3 hown hG.1 hP 0 rfl rfl 12 (by decide) (hts (.fieldLink RX3 41 "TableSpliceModel" "thrown" "I") (List.mem_of_getElem? (i := 1) rfl)) (fun _ h9 => h9) rfl dX3_findsCell_63 ?_
            refine lv_if_ne (tgt := 73) hx hb dX3_findsCell_66 (by decide) (fun c_66 => ?_) (fun c_66 => ?_)
            · exact absurd (by decide) c_66
            · refine lv_iconst (v := 1) hx hb dX3_findsCell_69 (by decide) ?_
              refine lv_goto (tgt := 74) hx hb dX3_findsCell_70 (by decide) ?_
              have ef : f_X3_findsCell_3 mc mw p1 p3 p4 = (1, 0) := by rw [f_X3_findsCell_3, if_neg c_6, if_neg c_16, if_neg c_27, if_neg c_51]
              exact W.zret (v := 1) (ty := .boolean) hx hb hr rfl (fun t ht hW => ⟨⟨1, (), rfl, by rw [ef], by rw [ht, ef]; exact hP, by rw [ef]; exact hD⟩, hS.F ht⟩) hS.2.2 dX3_findsCell_74
theorem in_findsColumn_2_p1 {mc : Nat → Int32} {p1 p2 : Int32} (h : ¬ (f_X3_findsColumn_2 mc p1 p2).1 = 0) : vp_in p1 3 := by
  rw [f_X3_findsColumn_2] at h
  by_cases h1 : f_X3_isIn p1 0 2 = 0
  · rw [if_pos h1] at h; exact absurd rfl h
  rw [if_neg h1] at h
  by_cases h2 : f_X3_isIn p2 0 7 = 0
  · rw [if_pos h2] at h; exact absurd rfl h
  exact in_isIn (n := 2) rfl (by decide) h1
theorem in_findsColumn_2_p2 {mc : Nat → Int32} {p1 p2 : Int32} (h : ¬ (f_X3_findsColumn_2 mc p1 p2).1 = 0) : vp_in p2 8 := by
  rw [f_X3_findsColumn_2] at h
  by_cases h1 : f_X3_isIn p1 0 2 = 0
  · rw [if_pos h1] at h; exact absurd rfl h
  rw [if_neg h1] at h
  by_cases h2 : f_X3_isIn p2 0 7 = 0
  · rw [if_pos h2] at h; exact absurd rfl h
  exact in_isIn (n := 7) rfl (by decide) h2
theorem in_findsCell_2_p1 {mc mw : Nat → Int32} {p1 p2 p3 : Int32} (h : ¬ (f_X3_findsCell_2 mc mw p1 p2 p3).1 = 0) : vp_in p1 3 := by
  rw [f_X3_findsCell_2] at h
  by_cases h1 : f_X3_isIn p1 0 2 = 0
  · rw [if_pos h1] at h; exact absurd rfl h
  rw [if_neg h1] at h
  by_cases h2 : f_X3_isIn p2 0 23 = 0
  · rw [if_pos h2] at h; exact absurd rfl h
  rw [if_neg h2] at h
  by_cases h3 : f_X3_isIn p3 0 7 = 0
  · rw [if_pos h3] at h; exact absurd rfl h
  exact in_isIn (n := 2) rfl (by decide) h1
theorem in_findsCell_2_p2 {mc mw : Nat → Int32} {p1 p2 p3 : Int32} (h : ¬ (f_X3_findsCell_2 mc mw p1 p2 p3).1 = 0) : vp_in p2 24 := by
  rw [f_X3_findsCell_2] at h
  by_cases h1 : f_X3_isIn p1 0 2 = 0
  · rw [if_pos h1] at h; exact absurd rfl h
  rw [if_neg h1] at h
  by_cases h2 : f_X3_isIn p2 0 23 = 0
  · rw [if_pos h2] at h; exact absurd rfl h
  rw [if_neg h2] at h
  by_cases h3 : f_X3_isIn p3 0 7 = 0
  · rw [if_pos h3] at h; exact absurd rfl h
  exact in_isIn (n := 23) rfl (by decide) h2
theorem in_findsCell_2_p3 {mc mw : Nat → Int32} {p1 p2 p3 : Int32} (h : ¬ (f_X3_findsCell_2 mc mw p1 p2 p3).1 = 0) : vp_in p3 8 := by
  rw [f_X3_findsCell_2] at h
  by_cases h1 : f_X3_isIn p1 0 2 = 0
  · rw [if_pos h1] at h; exact absurd rfl h
  rw [if_neg h1] at h
  by_cases h2 : f_X3_isIn p2 0 23 = 0
  · rw [if_pos h2] at h; exact absurd rfl h
  rw [if_neg h2] at h
  by_cases h3 : f_X3_isIn p3 0 7 = 0
  · rw [if_pos h3] at h; exact absurd rfl h
  exact in_isIn (n := 7) rfl (by decide) h3
theorem in_findsColumn_3_p1 {mc : Nat → Int32} {p1 p2 : Int32} (h : ¬ (f_X3_findsColumn_3 mc p1 p2).1 = 0) : vp_in p1 4 := by
  rw [f_X3_findsColumn_3] at h
  by_cases h1 : f_X3_isIn p1 0 3 = 0
  · rw [if_pos h1] at h; exact absurd rfl h
  rw [if_neg h1] at h
  by_cases h2 : f_X3_isIn p2 0 7 = 0
  · rw [if_pos h2] at h; exact absurd rfl h
  exact in_isIn (n := 3) rfl (by decide) h1
theorem in_findsColumn_3_p2 {mc : Nat → Int32} {p1 p2 : Int32} (h : ¬ (f_X3_findsColumn_3 mc p1 p2).1 = 0) : vp_in p2 8 := by
  rw [f_X3_findsColumn_3] at h
  by_cases h1 : f_X3_isIn p1 0 3 = 0
  · rw [if_pos h1] at h; exact absurd rfl h
  rw [if_neg h1] at h
  by_cases h2 : f_X3_isIn p2 0 7 = 0
  · rw [if_pos h2] at h; exact absurd rfl h
  exact in_isIn (n := 7) rfl (by decide) h2
theorem in_findsCell_3_p1 {mc mw : Nat → Int32} {p1 p2 p3 : Int32} (h : ¬ (f_X3_findsCell_3 mc mw p1 p2 p3).1 = 0) : vp_in p1 4 := by
  rw [f_X3_findsCell_3] at h
  by_cases h1 : f_X3_isIn p1 0 3 = 0
  · rw [if_pos h1] at h; exact absurd rfl h
  rw [if_neg h1] at h
  by_cases h2 : f_X3_isIn p2 0 23 = 0
  · rw [if_pos h2] at h; exact absurd rfl h
  rw [if_neg h2] at h
  by_cases h3 : f_X3_isIn p3 0 7 = 0
  · rw [if_pos h3] at h; exact absurd rfl h
  exact in_isIn (n := 3) rfl (by decide) h1
theorem in_findsCell_3_p2 {mc mw : Nat → Int32} {p1 p2 p3 : Int32} (h : ¬ (f_X3_findsCell_3 mc mw p1 p2 p3).1 = 0) : vp_in p2 24 := by
  rw [f_X3_findsCell_3] at h
  by_cases h1 : f_X3_isIn p1 0 3 = 0
  · rw [if_pos h1] at h; exact absurd rfl h
  rw [if_neg h1] at h
  by_cases h2 : f_X3_isIn p2 0 23 = 0
  · rw [if_pos h2] at h; exact absurd rfl h
  rw [if_neg h2] at h
  by_cases h3 : f_X3_isIn p3 0 7 = 0
  · rw [if_pos h3] at h; exact absurd rfl h
  exact in_isIn (n := 23) rfl (by decide) h2
theorem in_findsCell_3_p3 {mc mw : Nat → Int32} {p1 p2 p3 : Int32} (h : ¬ (f_X3_findsCell_3 mc mw p1 p2 p3).1 = 0) : vp_in p3 8 := by
  rw [f_X3_findsCell_3] at h
  by_cases h1 : f_X3_isIn p1 0 3 = 0
  · rw [if_pos h1] at h; exact absurd rfl h
  rw [if_neg h1] at h
  by_cases h2 : f_X3_isIn p2 0 23 = 0
  · rw [if_pos h2] at h; exact absurd rfl h
  rw [if_neg h2] at h
  by_cases h3 : f_X3_isIn p3 0 7 = 0
  · rw [if_pos h3] at h; exact absurd rfl h
  exact in_isIn (n := 7) rfl (by decide) h3
