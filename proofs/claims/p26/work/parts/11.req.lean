theorem tsw_out0_3 {x : Int32} (h0 : ¬ x = 0) (h1 : ¬ x = 1) (h2 : ¬ x = 2) (h3 : ¬ x = 3) : x.toInt < 0 ∨ 3 < x.toInt := by
  have e : ∀ n : Nat, n < 4 → x.toInt = (n : Int) → x = nI n := fun n hn h => Int32.toInt_inj.mp (by rw [h, nI_toInt (by omega)])
  rcases Int.lt_or_le x.toInt 0 with q | q
  · exact Or.inl q
  rcases Int.lt_or_le 3 x.toInt with r | r
  · exact Or.inr r
  have h4 : x.toInt = 0 ∨ x.toInt = 1 ∨ x.toInt = 2 ∨ x.toInt = 3 := by omega
  rcases h4 with h | h | h | h
  · exact absurd (e 0 (by decide) h) h0
  · exact absurd (e 1 (by decide) h) h1
  · exact absurd (e 2 (by decide) h) h2
  · exact absurd (e 3 (by decide) h) h3
theorem tsw_out1_4 {x : Int32} (h0 : ¬ x = 1) (h1 : ¬ x = 2) (h2 : ¬ x = 3) (h3 : ¬ x = 4) : x.toInt < 1 ∨ 4 < x.toInt := by
  have e : ∀ n : Nat, n < 5 → x.toInt = (n : Int) → x = nI n := fun n hn h => Int32.toInt_inj.mp (by rw [h, nI_toInt (by omega)])
  rcases Int.lt_or_le x.toInt 1 with q | q
  · exact Or.inl q
  rcases Int.lt_or_le 4 x.toInt with r | r
  · exact Or.inr r
  have h4 : x.toInt = 1 ∨ x.toInt = 2 ∨ x.toInt = 3 ∨ x.toInt = 4 := by omega
  rcases h4 with h | h | h | h
  · exact absurd (e 1 (by decide) h) h0
  · exact absurd (e 2 (by decide) h) h1
  · exact absurd (e 3 (by decide) h) h2
  · exact absurd (e 4 (by decide) h) h3
def f_X2_requireColumnNumber_x (p1 : Int32) : Nat := if (f_X2_isColumnNumber p1) = 0 then 1 else 0
theorem xin_X2_requireColumnNumber_IO : ∀ w ∈ (vx_atS RX2 224 "java/lang/IndexOutOfBoundsException" ["java/lang/RuntimeException", "java/lang/Exception"]).filter goodWord, w ∈ wsX2_requireColumnNumber := fun _ h => List.mem_cons_of_mem _ (List.mem_append_right _ h)
set_option maxHeartbeats 4000000 in
set_option maxRecDepth 100000 in
theorem k_X2_requireColumnNumber (l : Launch) (D : va_G) (cyI cyZ : ClassId) (p1 : Int32) (hx9 : f_X2_requireColumnNumber_x p1 = 0) : Met l yX2_requireColumnNumber wsX2_requireColumnNumber ({ frames := 1, cells := 0, slots := 0, locals := 20 } : Room) (pcP D cyI cyZ [.int p1] ([])) qV 0 0 nA := by
  refine Met.ofW (cc := cX2_requireColumnNumber) (maxL := 1) (ret := none) (by decide) rfl ?_
  intro p e s m args below meth c s₁ B hml hv
  obtain ⟨rfl, hP, hG⟩ := hv
  have hx := B.exec
  have hb := B.bytes
  have hr := B.returns
  have hts := atoms_spec (ws := wsX2_requireColumnNumber) B.pre
  have hown : s.vm.findClass RX2 = some m.cls := findClass_of_methodNamed B.named
  have hlocks := B.notSynchronized
  have hS : va_S nA s.heap s.heap [] := va_S.rf
  have hl := lv_entry ([.int p1]) (n := 1) (Nat.le_of_ble_eq_true rfl)
  rw [lg_entry_eq]
  generalize (lg_sl ([.int p1]) ++ List.replicate (1 - (lg_sl ([.int p1])).length) Slot.unset).toArray = ls at hl ⊢
  have hl : lv_has ls 1 [(0, .int p1)] := hl
  have hP : va_P D vwCl ([]) s.heap := hP
  refine lv_iload_n hx hb dX2_requireColumnNumber_0 rfl (lv_at hl 0 rfl) ?_
  refine pr_i (va_runS (As := [.int p1]) (rest := []) ⟨hx, hb, hml, hown, hts⟩ (k_X2_isColumnNumber l D cyI cyZ p1) (va_cwS 1 hts gX2_requireColumnNumber_X2_isColumnNumber rfl rfl rfl (by decide +kernel) ⟨Nat.le_of_ble_eq_true rfl, Nat.le_of_ble_eq_true rfl⟩) (prS hG hP) rfl rfl hl.1 rfl (lv_room (Nat.le_of_ble_eq_true rfl)) dX2_requireColumnNumber_1 ⟨Nat.zero_le _, Nat.zero_le _⟩) hS hP (fun H locs hP hS => ?_)
  refine lv_if_ne (tgt := 17) hx hb dX2_requireColumnNumber_4 (by decide) (fun c_4 => ?_) (fun c_4 => ?_)
  · exact W.vret hx hb hr (fun t ht hW => ⟨⟨(), rfl, trivial, trivial⟩, hS.F ht⟩) hS.2.2 dX2_requireColumnNumber_17
  · exact absurd hx9 (by rw [f_X2_requireColumnNumber_x, if_pos c_4]; decide)
set_option maxHeartbeats 4000000 in
set_option maxRecDepth 100000 in
theorem t_X2_requireColumnNumber (l : Launch) (hlt : l.stackTraces = false) (D : va_G) (cyI cyZ : ClassId) (p1 : Int32) (hx9 : ¬ f_X2_requireColumnNumber_x p1 = 0) : vx_Met l yX2_requireColumnNumber wsX2_requireColumnNumber ({ frames := 6, cells := 1, slots := 6, locals := 100 } : Room) (pcT D cyI cyZ [.int p1] ([])) qFv (xX (f_X2_requireColumnNumber_x p1)) 1 6 nA := by
  refine vx_ofW (cc := cX2_requireColumnNumber) (maxL := 1) (ret := none) (by decide) rfl ?_
  intro p e s m args below meth c s₁ B hml hnt hv
  obtain ⟨rfl, hP, hG, hz⟩ := hv
  have hx := B.exec
  have hb := B.bytes
  have hr := B.returns
  have hts := atoms_spec (ws := wsX2_requireColumnNumber) B.pre
  have hown : s.vm.findClass RX2 = some m.cls := findClass_of_methodNamed B.named
  have hlocks := B.notSynchronized
  have hS : va_S nA s.heap s.heap [] := va_S.rf
  have hl := lv_entry ([.int p1]) (n := 1) (Nat.le_of_ble_eq_true rfl)
  rw [lg_entry_eq]
  generalize (lg_sl ([.int p1]) ++ List.replicate (1 - (lg_sl ([.int p1])).length) Slot.unset).toArray = ls at hl ⊢
  have hl : lv_has ls 1 [(0, .int p1)] := hl
  have hP : va_P D vwCl ([]) s.heap := hP
  refine lv_iload_n hx hb dX2_requireColumnNumber_0 rfl (lv_at hl 0 rfl) ?_
  refine pr_i (va_runS (As := [.int p1]) (rest := []) ⟨hx, hb, hml, hown, hts⟩ (k_X2_isColumnNumber l D cyI cyZ p1) (va_cwS 1 hts gX2_requireColumnNumber_X2_isColumnNumber rfl rfl rfl (by decide +kernel) ⟨Nat.le_of_ble_eq_true rfl, Nat.le_of_ble_eq_true rfl⟩) (prS hG hP) rfl rfl hl.1 rfl (lv_room (Nat.le_of_ble_eq_true rfl)) dX2_requireColumnNumber_1 ⟨Nat.zero_le _, Nat.zero_le _⟩) hS hP (fun H locs hP hS => ?_)
  refine lv_if_ne (tgt := 17) hx hb dX2_requireColumnNumber_4 (by decide) (fun c_4 => ?_) (fun c_4 => ?_)
  · exact absurd (by rw [f_X2_requireColumnNumber_x, if_neg c_4]) hx9
  · have ef : f_X2_requireColumnNumber_x p1 = 1 := by rw [f_X2_requireColumnNumber_x, if_pos c_4]
    obtain ⟨sa, hsa⟩ := hz.2.2.1 (232, "no such column number") (List.mem_of_getElem? (i := 2) rfl)
    exact vx_throwS (own := RX2) (cls := "java/lang/IndexOutOfBoundsException") (text := "no such column number") (names := xnm) (ik := 220) (is := 232) (ic := 224) (A := nA) hx hb hlt hown (by decide) (by decide) (hts (.classLink RX2 220 "java/lang/IndexOutOfBoundsException") (List.mem_of_getElem? (i := 1) rfl)) (hts (.initialized "java/lang/IndexOutOfBoundsException") (List.mem_of_getElem? (i := 2) rfl)) hsa (vx_hat (fun w h => hts w (xin_X2_requireColumnNumber_IO w h)) xb_IO (hz.xb (X := "java/lang/IndexOutOfBoundsException") (by decide))) (xg_IO) hz.1 hz.2.1 hS (hl.1.trans hml.symm) dX2_requireColumnNumber_7 dX2_requireColumnNumber_10 dX2_requireColumnNumber_11 dX2_requireColumnNumber_13 dX2_requireColumnNumber_16 (fun x h => (hnt x h).elim) (Nat.le_of_ble_eq_true rfl) (Nat.le_of_ble_eq_true rfl) (Nat.le_of_ble_eq_true rfl) (Nat.le_of_ble_eq_true rfl) hlocks (fun t _ hz1 hk1 => ⟨(), trivial, by rw [ef]; rfl, ⟨Nat.le_trans hS.1 hz1, fun q h1 h2 => (hk1 q (Nat.lt_of_lt_of_le h1 hS.1)).trans (hS.2.1 q h1 h2)⟩⟩) hS.2.2 (Nat.le_refl _) (Nat.le_refl _)
def f_X2_requireKey_x (p1 : Int32) : Nat := if (f_X2_isKey p1) = 0 then 1 else 0
theorem xin_X2_requireKey_IO : ∀ w ∈ (vx_atS RX2 224 "java/lang/IndexOutOfBoundsException" ["java/lang/RuntimeException", "java/lang/Exception"]).filter goodWord, w ∈ wsX2_requireKey := fun _ h => List.mem_cons_of_mem _ (List.mem_append_right _ h)
set_option maxHeartbeats 4000000 in
set_option maxRecDepth 100000 in
theorem k_X2_requireKey (l : Launch) (D : va_G) (cyI cyZ : ClassId) (p1 : Int32) (hx9 : f_X2_requireKey_x p1 = 0) : Met l yX2_requireKey wsX2_requireKey ({ frames := 1, cells := 0, slots := 0, locals := 20 } : Room) (pcP D cyI cyZ [.int p1] ([])) qV 0 0 nA := by
  refine Met.ofW (cc := cX2_requireKey) (maxL := 1) (ret := none) (by decide) rfl ?_
  intro p e s m args below meth c s₁ B hml hv
  obtain ⟨rfl, hP, hG⟩ := hv
  have hx := B.exec
  have hb := B.bytes
  have hr := B.returns
  have hts := atoms_spec (ws := wsX2_requireKey) B.pre
  have hown : s.vm.findClass RX2 = some m.cls := findClass_of_methodNamed B.named
  have hlocks := B.notSynchronized
  have hS : va_S nA s.heap s.heap [] := va_S.rf
  have hl := lv_entry ([.int p1]) (n := 1) (Nat.le_of_ble_eq_true rfl)
  rw [lg_entry_eq]
  generalize (lg_sl ([.int p1]) ++ List.replicate (1 - (lg_sl ([.int p1])).length) Slot.unset).toArray = ls at hl ⊢
  have hl : lv_has ls 1 [(0, .int p1)] := hl
  have hP : va_P D vwCl ([]) s.heap := hP
  refine lv_iload_n hx hb dX2_requireKey_0 rfl (lv_at hl 0 rfl) ?_
  refine pr_i (va_runS (As := [.int p1]) (rest := []) ⟨hx, hb, hml, hown, hts⟩ (k_X2_isKey l D cyI cyZ p1) (va_cwS 1 hts gX2_requireKey_X2_isKey rfl rfl rfl (by decide +kernel) ⟨Nat.le_of_ble_eq_true rfl, Nat.le_of_ble_eq_true rfl⟩) (prS hG hP) rfl rfl hl.1 rfl (lv_room (Nat.le_of_ble_eq_true rfl)) dX2_requireKey_1 ⟨Nat.zero_le _, Nat.zero_le _⟩) hS hP (fun H locs hP hS => ?_)
  refine lv_if_ne (tgt := 17) hx hb dX2_requireKey_4 (by decide) (fun c_4 => ?_) (fun c_4 => ?_)
  · exact W.vret hx hb hr (fun t ht hW => ⟨⟨(), rfl, trivial, trivial⟩, hS.F ht⟩) hS.2.2 dX2_requireKey_17
  · exact absurd hx9 (by rw [f_X2_requireKey_x, if_pos c_4]; decide)
set_option maxHeartbeats 4000000 in
set_option maxRecDepth 100000 in
theorem t_X2_requireKey (l : Launch) (hlt : l.stackTraces = false) (D : va_G) (cyI cyZ : ClassId) (p1 : Int32) (hx9 : ¬ f_X2_requireKey_x p1 = 0) : vx_Met l yX2_requireKey wsX2_requireKey ({ frames := 6, cells := 1, slots := 6, locals := 100 } : Room) (pcT D cyI cyZ [.int p1] ([])) qFv (xX (f_X2_requireKey_x p1)) 1 6 nA := by
  refine vx_ofW (cc := cX2_requireKey) (maxL := 1) (ret := none) (by decide) rfl ?_
  intro p e s m args below meth c s₁ B hml hnt hv
  obtain ⟨rfl, hP, hG, hz⟩ := hv
  have hx := B.exec
  have hb := B.bytes
  have hr := B.returns
  have hts := atoms_spec (ws := wsX2_requireKey) B.pre
  have hown : s.vm.findClass RX2 = some m.cls := findClass_of_methodNamed B.named
  have hlocks := B.notSynchronized
  have hS : va_S nA s.heap s.heap [] := va_S.rf
  have hl := lv_entry ([.int p1]) (n := 1) (Nat.le_of_ble_eq_true rfl)
  rw [lg_entry_eq]
  generalize (lg_sl ([.int p1]) ++ List.replicate (1 - (lg_sl ([.int p1])).length) Slot.unset).toArray = ls at hl ⊢
  have hl : lv_has ls 1 [(0, .int p1)] := hl
  have hP : va_P D vwCl ([]) s.heap := hP
  refine lv_iload_n hx hb dX2_requireKey_0 rfl (lv_at hl 0 rfl) ?_
  refine pr_i (va_runS (As := [.int p1]) (rest := []) ⟨hx, hb, hml, hown, hts⟩ (k_X2_isKey l D cyI cyZ p1) (va_cwS 1 hts gX2_requireKey_X2_isKey rfl rfl rfl (by decide +kernel) ⟨Nat.le_of_ble_eq_true rfl, Nat.le_of_ble_eq_true rfl⟩) (prS hG hP) rfl rfl hl.1 rfl (lv_room (Nat.le_of_ble_eq_true rfl)) dX2_requireKey_1 ⟨Nat.zero_le _, Nat.zero_le _⟩) hS hP (fun H locs hP hS => ?_)
  refine lv_if_ne (tgt := 17) hx hb dX2_requireKey_4 (by decide) (fun c_4 => ?_) (fun c_4 => ?_)
  · exact absurd (by rw [f_X2_requireKey_x, if_neg c_4]) hx9
  · have ef : f_X2_requireKey_x p1 = 1 := by rw [f_X2_requireKey_x, if_pos c_4]
    obtain ⟨sa, hsa⟩ := hz.2.2.1 (237, "no such key") (List.mem_of_getElem? (i := 5) rfl)
    exact vx_throwS (own := RX2) (cls := "java/lang/IndexOutOfBoundsException") (text := "no such key") (names := xnm) (ik := 220) (is := 237) (ic := 224) (A := nA) hx hb hlt hown (by decide) (by decide) (hts (.classLink RX2 220 "java/lang/IndexOutOfBoundsException") (List.mem_of_getElem? (i := 1) rfl)) (hts (.initialized "java/lang/IndexOutOfBoundsException") (List.mem_of_getElem? (i := 2) rfl)) hsa (vx_hat (fun w h => hts w (xin_X2_requireKey_IO w h)) xb_IO (hz.xb (X := "java/lang/IndexOutOfBoundsException") (by decide))) (xg_IO) hz.1 hz.2.1 hS (hl.1.trans hml.symm) dX2_requireKey_7 dX2_requireKey_10 dX2_requireKey_11 dX2_requireKey_13 dX2_requireKey_16 (fun x h => (hnt x h).elim) (Nat.le_of_ble_eq_true rfl) (Nat.le_of_ble_eq_true rfl) (Nat.le_of_ble_eq_true rfl) (Nat.le_of_ble_eq_true rfl) hlocks (fun t _ hz1 hk1 => ⟨(), trivial, by rw [ef]; rfl, ⟨Nat.le_trans hS.1 hz1, fun q h1 h2 => (hk1 q (Nat.lt_of_lt_of_le h1 hS.1)).trans (hS.2.1 q h1 h2)⟩⟩) hS.2.2 (Nat.le_refl _) (Nat.le_refl _)
def f_X2_requireName_x (p1 : Int32) : Nat := if p1 < 0 then 2 else (if p1 ≤ 99 then 0 else 2)
theorem xin_X2_requireName_IA : ∀ w ∈ (vx_atS RX2 112 "java/lang/IllegalArgumentException" ["java/lang/RuntimeException", "java/lang/Exception"]).filter goodWord, w ∈ wsX2_requireName := fun _ h => List.mem_cons_of_mem _ (List.mem_append_right _ h)
set_option maxHeartbeats 4000000 in
set_option maxRecDepth 100000 in
theorem k_X2_requireName (l : Launch) (D : va_G) (cyI cyZ : ClassId) (p1 : Int32) (hx9 : f_X2_requireName_x p1 = 0) : Met l yX2_requireName wsX2_requireName ({ frames := 0, cells := 0, slots := 0, locals := 0 } : Room) (pcP D cyI cyZ [.int p1] ([])) qV 0 0 nA := by
  refine Met.ofW (cc := cX2_requireName) (maxL := 1) (ret := none) (by decide) rfl ?_
  intro p e s m args below meth c s₁ B hml hv
  obtain ⟨rfl, hP, hG⟩ := hv
  have hx := B.exec
  have hb := B.bytes
  have hr := B.returns
  have hts := atoms_spec (ws := wsX2_requireName) B.pre
  have hown : s.vm.findClass RX2 = some m.cls := findClass_of_methodNamed B.named
  have hlocks := B.notSynchronized
  have hS : va_S nA s.heap s.heap [] := va_S.rf
  have hl := lv_entry ([.int p1]) (n := 1) (Nat.le_of_ble_eq_true rfl)
  rw [lg_entry_eq]
  generalize (lg_sl ([.int p1]) ++ List.replicate (1 - (lg_sl ([.int p1])).length) Slot.unset).toArray = ls at hl ⊢
  have hl : lv_has ls 1 [(0, .int p1)] := hl
  have hP : va_P D vwCl ([]) s.heap := hP
  refine lv_iload_n hx hb dX2_requireName_0 rfl (lv_at hl 0 rfl) ?_
  refine lv_if_lt (tgt := 10) hx hb dX2_requireName_1 (by decide) (fun c_1 => ?_) (fun c_1 => ?_)
  · exact absurd hx9 (by rw [f_X2_requireName_x, if_pos c_1]; decide)
  · refine lv_iload_n hx hb dX2_requireName_4 rfl (lv_at hl 0 rfl) ?_
    refine lv_bipush (v := 99) hx hb dX2_requireName_5 (by decide) ?_
    refine lv_icmp_le (tgt := 20) hx hb dX2_requireName_7 (by decide) (fun c_7 => ?_) (fun c_7 => ?_)
    · exact W.vret hx hb hr (fun t ht hW => ⟨⟨(), rfl, trivial, trivial⟩, hS.F ht⟩) hS.2.2 dX2_requireName_20
    · exact absurd hx9 (by rw [f_X2_requireName_x, if_neg c_1, if_neg c_7]; decide)
set_option maxHeartbeats 4000000 in
set_option maxRecDepth 100000 in
theorem t_X2_requireName (l : Launch) (hlt : l.stackTraces = false) (D : va_G) (cyI cyZ : ClassId) (p1 : Int32) (hx9 : ¬ f_X2_requireName_x p1 = 0) : vx_Met l yX2_requireName wsX2_requireName ({ frames := 6, cells := 1, slots := 6, locals := 100 } : Room) (pcT D cyI cyZ [.int p1] ([])) qFv (xX (f_X2_requireName_x p1)) 1 6 nA := by
  refine vx_ofW (cc := cX2_requireName) (maxL := 1) (ret := none) (by decide) rfl ?_
  intro p e s m args below meth c s₁ B hml hnt hv
  obtain ⟨rfl, hP, hG, hz⟩ := hv
  have hx := B.exec
  have hb := B.bytes
  have hr := B.returns
  have hts := atoms_spec (ws := wsX2_requireName) B.pre
  have hown : s.vm.findClass RX2 = some m.cls := findClass_of_methodNamed B.named
  have hlocks := B.notSynchronized
  have hS : va_S nA s.heap s.heap [] := va_S.rf
  have hl := lv_entry ([.int p1]) (n := 1) (Nat.le_of_ble_eq_true rfl)
  rw [lg_entry_eq]
  generalize (lg_sl ([.int p1]) ++ List.replicate (1 - (lg_sl ([.int p1])).length) Slot.unset).toArray = ls at hl ⊢
  have hl : lv_has ls 1 [(0, .int p1)] := hl
  have hP : va_P D vwCl ([]) s.heap := hP
  refine lv_iload_n hx hb dX2_requireName_0 rfl (lv_at hl 0 rfl) ?_
  refine lv_if_lt (tgt := 10) hx hb dX2_requireName_1 (by decide) (fun c_1 => ?_) (fun c_1 => ?_)
  · have ef : f_X2_requireName_x p1 = 2 := by rw [f_X2_requireName_x, if_pos c_1]
    obtain ⟨sa, hsa⟩ := hz.2.2.1 (243, "the name is out of range") (List.mem_of_getElem? (i := 3) rfl)
    exact vx_throwS (own := RX2) (cls := "java/lang/IllegalArgumentException") (text := "the name is out of range") (names := xnm) (ik := 108) (is := 243) (ic := 112) (A := nA) hx hb hlt hown (by decide) (by decide) (hts (.classLink RX2 108 "java/lang/IllegalArgumentException") (List.mem_of_getElem? (i := 1) rfl)) (hts (.initialized "java/lang/IllegalArgumentException") (List.mem_of_getElem? (i := 2) rfl)) hsa (vx_hat (fun w h => hts w (xin_X2_requireName_IA w h)) xb_IA (hz.xb (X := "java/lang/IllegalArgumentException") (by decide))) (xg_IA) hz.1 hz.2.1 hS (hl.1.trans hml.symm) dX2_requireName_10 dX2_requireName_13 dX2_requireName_14 dX2_requireName_16 dX2_requireName_19 (fun x h => (hnt x h).elim) (Nat.le_of_ble_eq_true rfl) (Nat.le_of_ble_eq_true rfl) (Nat.le_of_ble_eq_true rfl) (Nat.le_of_ble_eq_true rfl) hlocks (fun t _ hz1 hk1 => ⟨(), trivial, by rw [ef]; rfl, ⟨Nat.le_trans hS.1 hz1, fun q h1 h2 => (hk1 q (Nat.lt_of_lt_of_le h1 hS.1)).trans (hS.2.1 q h1 h2)⟩⟩) hS.2.2 (Nat.le_refl _) (Nat.le_refl _)
  · refine lv_iload_n hx hb dX2_requireName_4 rfl (lv_at hl 0 rfl) ?_
    refine lv_bipush (v := 99) hx hb dX2_requireName_5 (by decide) ?_
    refine lv_icmp_le (tgt := 20) hx hb dX2_requireName_7 (by decide) (fun c_7 => ?_) (fun c_7 => ?_)
    · exact absurd (by rw [f_X2_requireName_x, if_neg c_1, if_pos c_7]) hx9
    · have ef : f_X2_requireName_x p1 = 2 := by rw [f_X2_requireName_x, if_neg c_1, if_neg c_7]
      obtain ⟨sa, hsa⟩ := hz.2.2.1 (243, "the name is out of range") (List.mem_of_getElem? (i := 3) rfl)
      exact vx_throwS (own := RX2) (cls := "java/lang/IllegalArgumentException") (text := "the name is out of range") (names := xnm) (ik := 108) (is := 243) (ic := 112) (A := nA) hx hb hlt hown (by decide) (by decide) (hts (.classLink RX2 108 "java/lang/IllegalArgumentException") (List.mem_of_getElem? (i := 1) rfl)) (hts (.initialized "java/lang/IllegalArgumentException") (List.mem_of_getElem? (i := 2) rfl)) hsa (vx_hat (fun w h => hts w (xin_X2_requireName_IA w h)) xb_IA (hz.xb (X := "java/lang/IllegalArgumentException") (by decide))) (xg_IA) hz.1 hz.2.1 hS (hl.1.trans hml.symm) dX2_requireName_10 dX2_requireName_13 dX2_requireName_14 dX2_requireName_16 dX2_requireName_19 (fun x h => (hnt x h).elim) (Nat.le_of_ble_eq_true rfl) (Nat.le_of_ble_eq_true rfl) (Nat.le_of_ble_eq_true rfl) (Nat.le_of_ble_eq_true rfl) hlocks (fun t _ hz1 hk1 => ⟨(), trivial, by rw [ef]; rfl, ⟨Nat.le_trans hS.1 hz1, fun q h1 h2 => (hk1 q (Nat.lt_of_lt_of_le h1 hS.1)).trans (hS.2.1 q h1 h2)⟩⟩) hS.2.2 (Nat.le_refl _) (Nat.le_refl _)
theorem uin_X2_requireColumnOf_X1 : ∀ w ∈ wsX10, w ∈ wsX2_requireColumnOf := fun _ h => List.mem_cons_of_mem _ (List.mem_append_left _ (List.mem_append_right _ h))
def f_X2_requireColumnOf_x (t0 : Tr) (p2 : Int32) : Nat := if (f_X1_hasColumn t0 p2) = 0 then 1 else 0
theorem xin_X2_requireColumnOf_IO : ∀ w ∈ (vx_atS RX2 224 "java/lang/IndexOutOfBoundsException" ["java/lang/RuntimeException", "java/lang/Exception"]).filter goodWord, w ∈ wsX2_requireColumnOf := fun _ h => List.mem_cons_of_mem _ (List.mem_append_right _ h)
set_option maxHeartbeats 4000000 in
set_option maxRecDepth 100000 in
theorem k_X2_requireColumnOf (l : Launch) (D : va_G) (cyI cyZ : ClassId) (ha : Nat) (hn : Nat) (hc : Nat) (t0 : Tr) (p2 : Int32) (hx9 : f_X2_requireColumnOf_x t0 p2 = 0) : Met l yX2_requireColumnOf wsX2_requireColumnOf ({ frames := 1, cells := 0, slots := 0, locals := 21 } : Room) (pcP D cyI cyZ [.ref ha, .int p2] (wT cyI ha hn hc t0)) qV 0 0 nA := by
  refine Met.ofW (cc := cX2_requireColumnOf) (maxL := 2) (ret := none) (by decide) rfl ?_
  intro p e s m args below meth c s₁ B hml hv
  obtain ⟨rfl, hP, hG⟩ := hv
  have hx := B.exec
  have hb := B.bytes
  have hr := B.returns
  have hts := atoms_spec (ws := wsX2_requireColumnOf) B.pre
  have hown : s.vm.findClass RX2 = some m.cls := findClass_of_methodNamed B.named
  have hlocks := B.notSynchronized
  have hS : va_S nA s.heap s.heap [] := va_S.rf
  have hl := lv_entry ([.ref ha, .int p2]) (n := 2) (Nat.le_of_ble_eq_true rfl)
  rw [lg_entry_eq]
  generalize (lg_sl ([.ref ha, .int p2]) ++ List.replicate (2 - (lg_sl ([.ref ha, .int p2])).length) Slot.unset).toArray = ls at hl ⊢
  have hl : lv_has ls 2 [(0, .ref ha), (1, .int p2)] := hl
  have hP : va_P D vwCl (wT cyI ha hn hc t0) s.heap := hP
  refine lv_aload_n hx hb dX2_requireColumnOf_0 rfl (lv_at hl 0 rfl) ?_
  refine lv_iload_n hx hb dX2_requireColumnOf_1 rfl (lv_at hl 1 rfl) ?_
  refine pr_i (va_runVN (As := [.int p2]) (rest := []) ⟨hx, hb, hml, hown, hts⟩ (k_X1_hasColumn l D cyI cyZ ha hn hc t0 p2) ⟨va_cnB 1 hts gX2_requireColumnOf_X1_hasColumn_n55 rfl rfl rfl (hG.2.1 (RX2, 55, yX1_hasColumn, "TableSplice") (List.mem_of_getElem? (i := 6) rfl)) (hts (.initialized RX1) (List.mem_of_getElem? (i := 4) rfl)) (by decide +kernel) ⟨Nat.le_of_ble_eq_true rfl, Nat.le_of_ble_eq_true rfl⟩, hts (.instanceMethod yX1_hasColumn) (List.mem_of_getElem? (i := 3) rfl), hts (.selects RX1 yX1_hasColumn yX1_hasColumn) (List.mem_of_getElem? (i := 5) rfl)⟩ (prV hG hP (ci := 1) rfl rfl rfl) rfl rfl hl.1 rfl (lv_room (Nat.le_of_ble_eq_true rfl)) dX2_requireColumnOf_2 ⟨Nat.zero_le _, Nat.zero_le _⟩) hS hP (fun H locs hP hS => ?_)
  refine lv_if_ne (tgt := 18) hx hb dX2_requireColumnOf_5 (by decide) (fun c_5 => ?_) (fun c_5 => ?_)
  · exact W.vret hx hb hr (fun t ht hW => ⟨⟨(), rfl, trivial, trivial⟩, hS.F ht⟩) hS.2.2 dX2_requireColumnOf_18
  · exact absurd hx9 (by rw [f_X2_requireColumnOf_x, if_pos c_5]; decide)
set_option maxHeartbeats 4000000 in
set_option maxRecDepth 100000 in
theorem t_X2_requireColumnOf (l : Launch) (hlt : l.stackTraces = false) (D : va_G) (cyI cyZ : ClassId) (ha : Nat) (hn : Nat) (hc : Nat) (t0 : Tr) (p2 : Int32) (hx9 : ¬ f_X2_requireColumnOf_x t0 p2 = 0) : vx_Met l yX2_requireColumnOf wsX2_requireColumnOf ({ frames := 6, cells := 1, slots := 6, locals := 100 } : Room) (pcT D cyI cyZ [.ref ha, .int p2] (wT cyI ha hn hc t0)) qFv (xX (f_X2_requireColumnOf_x t0 p2)) 1 6 nA := by
  refine vx_ofW (cc := cX2_requireColumnOf) (maxL := 2) (ret := none) (by decide) rfl ?_
  intro p e s m args below meth c s₁ B hml hnt hv
  obtain ⟨rfl, hP, hG, hz⟩ := hv
  have hx := B.exec
  have hb := B.bytes
  have hr := B.returns
  have hts := atoms_spec (ws := wsX2_requireColumnOf) B.pre
  have hown : s.vm.findClass RX2 = some m.cls := findClass_of_methodNamed B.named
  have hlocks := B.notSynchronized
  have hS : va_S nA s.heap s.heap [] := va_S.rf
  have hl := lv_entry ([.ref ha, .int p2]) (n := 2) (Nat.le_of_ble_eq_true rfl)
  rw [lg_entry_eq]
  generalize (lg_sl ([.ref ha, .int p2]) ++ List.replicate (2 - (lg_sl ([.ref ha, .int p2])).length) Slot.unset).toArray = ls at hl ⊢
  have hl : lv_has ls 2 [(0, .ref ha), (1, .int p2)] := hl
  have hP : va_P D vwCl (wT cyI ha hn hc t0) s.heap := hP
  refine lv_aload_n hx hb dX2_requireColumnOf_0 rfl (lv_at hl 0 rfl) ?_
  refine lv_iload_n hx hb dX2_requireColumnOf_1 rfl (lv_at hl 1 rfl) ?_
  refine pr_i (va_runVN (As := [.int p2]) (rest := []) ⟨hx, hb, hml, hown, hts⟩ (k_X1_hasColumn l D cyI cyZ ha hn hc t0 p2) ⟨va_cnB 1 hts gX2_requireColumnOf_X1_hasColumn_n55 rfl rfl rfl (hG.2.1 (RX2, 55, yX1_hasColumn, "TableSplice") (List.mem_of_getElem? (i := 6) rfl)) (hts (.initialized RX1) (List.mem_of_getElem? (i := 4) rfl)) (by decide +kernel) ⟨Nat.le_of_ble_eq_true rfl, Nat.le_of_ble_eq_true rfl⟩, hts (.instanceMethod yX1_hasColumn) (List.mem_of_getElem? (i := 3) rfl), hts (.selects RX1 yX1_hasColumn yX1_hasColumn) (List.mem_of_getElem? (i := 5) rfl)⟩ (prV hG hP (ci := 1) rfl rfl rfl) rfl rfl hl.1 rfl (lv_room (Nat.le_of_ble_eq_true rfl)) dX2_requireColumnOf_2 ⟨Nat.zero_le _, Nat.zero_le _⟩) hS hP (fun H locs hP hS => ?_)
  refine lv_if_ne (tgt := 18) hx hb dX2_requireColumnOf_5 (by decide) (fun c_5 => ?_) (fun c_5 => ?_)
  · exact absurd (by rw [f_X2_requireColumnOf_x, if_neg c_5]) hx9
  · have ef : f_X2_requireColumnOf_x t0 p2 = 1 := by rw [f_X2_requireColumnOf_x, if_pos c_5]
    obtain ⟨sa, hsa⟩ := hz.2.2.1 (239, "the table does not have the column") (List.mem_of_getElem? (i := 8) rfl)
    exact vx_throwS (own := RX2) (cls := "java/lang/IndexOutOfBoundsException") (text := "the table does not have the column") (names := xnm) (ik := 220) (is := 239) (ic := 224) (A := nA) hx hb hlt hown (by decide) (by decide) (hts (.classLink RX2 220 "java/lang/IndexOutOfBoundsException") (List.mem_of_getElem? (i := 1) rfl)) (hts (.initialized "java/lang/IndexOutOfBoundsException") (List.mem_of_getElem? (i := 2) rfl)) hsa (vx_hat (fun w h => hts w (xin_X2_requireColumnOf_IO w h)) xb_IO (hz.xb (X := "java/lang/IndexOutOfBoundsException") (by decide))) (xg_IO) hz.1 hz.2.1 hS (hl.1.trans hml.symm) dX2_requireColumnOf_8 dX2_requireColumnOf_11 dX2_requireColumnOf_12 dX2_requireColumnOf_14 dX2_requireColumnOf_17 (fun x h => (hnt x h).elim) (Nat.le_of_ble_eq_true rfl) (Nat.le_of_ble_eq_true rfl) (Nat.le_of_ble_eq_true rfl) (Nat.le_of_ble_eq_true rfl) hlocks (fun t _ hz1 hk1 => ⟨(), trivial, by rw [ef]; rfl, ⟨Nat.le_trans hS.1 hz1, fun q h1 h2 => (hk1 q (Nat.lt_of_lt_of_le h1 hS.1)).trans (hS.2.1 q h1 h2)⟩⟩) hS.2.2 (Nat.le_refl _) (Nat.le_refl _)
theorem uin_X2_requireRowOf_X1 : ∀ w ∈ wsX10, w ∈ wsX2_requireRowOf := fun _ h => List.mem_cons_of_mem _ (List.mem_append_left _ (List.mem_append_right _ h))
def f_X2_requireRowOf_x (t0 : Tr) (p2 : Int32) : Nat := if (f_X1_hasRow t0 p2) = 0 then 1 else 0
theorem xin_X2_requireRowOf_IO : ∀ w ∈ (vx_atS RX2 224 "java/lang/IndexOutOfBoundsException" ["java/lang/RuntimeException", "java/lang/Exception"]).filter goodWord, w ∈ wsX2_requireRowOf := fun _ h => List.mem_cons_of_mem _ (List.mem_append_right _ h)
set_option maxHeartbeats 4000000 in
set_option maxRecDepth 100000 in
theorem k_X2_requireRowOf (l : Launch) (D : va_G) (cyI cyZ : ClassId) (ha : Nat) (hn : Nat) (hc : Nat) (t0 : Tr) (p2 : Int32) (hx9 : f_X2_requireRowOf_x t0 p2 = 0) : Met l yX2_requireRowOf wsX2_requireRowOf ({ frames := 1, cells := 0, slots := 0, locals := 21 } : Room) (pcP D cyI cyZ [.ref ha, .int p2] (wT cyI ha hn hc t0)) qV 0 0 nA := by
  refine Met.ofW (cc := cX2_requireRowOf) (maxL := 2) (ret := none) (by decide) rfl ?_
  intro p e s m args below meth c s₁ B hml hv
  obtain ⟨rfl, hP, hG⟩ := hv
  have hx := B.exec
  have hb := B.bytes
  have hr := B.returns
  have hts := atoms_spec (ws := wsX2_requireRowOf) B.pre
  have hown : s.vm.findClass RX2 = some m.cls := findClass_of_methodNamed B.named
  have hlocks := B.notSynchronized
  have hS : va_S nA s.heap s.heap [] := va_S.rf
  have hl := lv_entry ([.ref ha, .int p2]) (n := 2) (Nat.le_of_ble_eq_true rfl)
  rw [lg_entry_eq]
  generalize (lg_sl ([.ref ha, .int p2]) ++ List.replicate (2 - (lg_sl ([.ref ha, .int p2])).length) Slot.unset).toArray = ls at hl ⊢
  have hl : lv_has ls 2 [(0, .ref ha), (1, .int p2)] := hl
  have hP : va_P D vwCl (wT cyI ha hn hc t0) s.heap := hP
  refine lv_aload_n hx hb dX2_requireRowOf_0 rfl (lv_at hl 0 rfl) ?_
  refine lv_iload_n hx hb dX2_requireRowOf_1 rfl (lv_at hl 1 rfl) ?_
  refine pr_i (va_runVN (As := [.int p2]) (rest := []) ⟨hx, hb, hml, hown, hts⟩ (k_X1_hasRow l D cyI cyZ ha hn hc t0 p2) ⟨va_cnB 1 hts gX2_requireRowOf_X1_hasRow_n91 rfl rfl rfl (hG.2.1 (RX2, 91, yX1_hasRow, "TableSplice") (List.mem_of_getElem? (i := 13) rfl)) (hts (.initialized RX1) (List.mem_of_getElem? (i := 4) rfl)) (by decide +kernel) ⟨Nat.le_of_ble_eq_true rfl, Nat.le_of_ble_eq_true rfl⟩, hts (.instanceMethod yX1_hasRow) (List.mem_of_getElem? (i := 3) rfl), hts (.selects RX1 yX1_hasRow yX1_hasRow) (List.mem_of_getElem? (i := 5) rfl)⟩ (prV hG hP (ci := 1) rfl rfl rfl) rfl rfl hl.1 rfl (lv_room (Nat.le_of_ble_eq_true rfl)) dX2_requireRowOf_2 ⟨Nat.zero_le _, Nat.zero_le _⟩) hS hP (fun H locs hP hS => ?_)
  refine lv_if_ne (tgt := 18) hx hb dX2_requireRowOf_5 (by decide) (fun c_5 => ?_) (fun c_5 => ?_)
  · exact W.vret hx hb hr (fun t ht hW => ⟨⟨(), rfl, trivial, trivial⟩, hS.F ht⟩) hS.2.2 dX2_requireRowOf_18
  · exact absurd hx9 (by rw [f_X2_requireRowOf_x, if_pos c_5]; decide)
set_option maxHeartbeats 4000000 in
set_option maxRecDepth 100000 in
theorem t_X2_requireRowOf (l : Launch) (hlt : l.stackTraces = false) (D : va_G) (cyI cyZ : ClassId) (ha : Nat) (hn : Nat) (hc : Nat) (t0 : Tr) (p2 : Int32) (hx9 : ¬ f_X2_requireRowOf_x t0 p2 = 0) : vx_Met l yX2_requireRowOf wsX2_requireRowOf ({ frames := 6, cells := 1, slots := 6, locals := 100 } : Room) (pcT D cyI cyZ [.ref ha, .int p2] (wT cyI ha hn hc t0)) qFv (xX (f_X2_requireRowOf_x t0 p2)) 1 6 nA := by
  refine vx_ofW (cc := cX2_requireRowOf) (maxL := 2) (ret := none) (by decide) rfl ?_
  intro p e s m args below meth c s₁ B hml hnt hv
  obtain ⟨rfl, hP, hG, hz⟩ := hv
  have hx := B.exec
  have hb := B.bytes
  have hr := B.returns
  have hts := atoms_spec (ws := wsX2_requireRowOf) B.pre
  have hown : s.vm.findClass RX2 = some m.cls := findClass_of_methodNamed B.named
  have hlocks := B.notSynchronized
  have hS : va_S nA s.heap s.heap [] := va_S.rf
  have hl := lv_entry ([.ref ha, .int p2]) (n := 2) (Nat.le_of_ble_eq_true rfl)
  rw [lg_entry_eq]
  generalize (lg_sl ([.ref ha, .int p2]) ++ List.replicate (2 - (lg_sl ([.ref ha, .int p2])).length) Slot.unset).toArray = ls at hl ⊢
  have hl : lv_has ls 2 [(0, .ref ha), (1, .int p2)] := hl
  have hP : va_P D vwCl (wT cyI ha hn hc t0) s.heap := hP
  refine lv_aload_n hx hb dX2_requireRowOf_0 rfl (lv_at hl 0 rfl) ?_
  refine lv_iload_n hx hb dX2_requireRowOf_1 rfl (lv_at hl 1 rfl) ?_
  refine pr_i (va_runVN (As := [.int p2]) (rest := []) ⟨hx, hb, hml, hown, hts⟩ (k_X1_hasRow l D cyI cyZ ha hn hc t0 p2) ⟨va_cnB 1 hts gX2_requireRowOf_X1_hasRow_n91 rfl rfl rfl (hG.2.1 (RX2, 91, yX1_hasRow, "TableSplice") (List.mem_of_getElem? (i := 13) rfl)) (hts (.initialized RX1) (List.mem_of_getElem? (i := 4) rfl)) (by decide +kernel) ⟨Nat.le_of_ble_eq_true rfl, Nat.le_of_ble_eq_true rfl⟩, hts (.instanceMethod yX1_hasRow) (List.mem_of_getElem? (i := 3) rfl), hts (.selects RX1 yX1_hasRow yX1_hasRow) (List.mem_of_getElem? (i := 5) rfl)⟩ (prV hG hP (ci := 1) rfl rfl rfl) rfl rfl hl.1 rfl (lv_room (Nat.le_of_ble_eq_true rfl)) dX2_requireRowOf_2 ⟨Nat.zero_le _, Nat.zero_le _⟩) hS hP (fun H locs hP hS => ?_)
  refine lv_if_ne (tgt := 18) hx hb dX2_requireRowOf_5 (by decide) (fun c_5 => ?_) (fun c_5 => ?_)
  · exact absurd (by rw [f_X2_requireRowOf_x, if_neg c_5]) hx9
  · have ef : f_X2_requireRowOf_x t0 p2 = 1 := by rw [f_X2_requireRowOf_x, if_pos c_5]
    obtain ⟨sa, hsa⟩ := hz.2.2.1 (241, "the table does not have the row") (List.mem_of_getElem? (i := 7) rfl)
    exact vx_throwS (own := RX2) (cls := "java/lang/IndexOutOfBoundsException") (text := "the table does not have the row") (names := xnm) (ik := 220) (is := 241) (ic := 224) (A := nA) hx hb hlt hown (by decide) (by decide) (hts (.classLink RX2 220 "java/lang/IndexOutOfBoundsException") (List.mem_of_getElem? (i := 1) rfl)) (hts (.initialized "java/lang/IndexOutOfBoundsException") (List.mem_of_getElem? (i := 2) rfl)) hsa (vx_hat (fun w h => hts w (xin_X2_requireRowOf_IO w h)) xb_IO (hz.xb (X := "java/lang/IndexOutOfBoundsException") (by decide))) (xg_IO) hz.1 hz.2.1 hS (hl.1.trans hml.symm) dX2_requireRowOf_8 dX2_requireRowOf_11 dX2_requireRowOf_12 dX2_requireRowOf_14 dX2_requireRowOf_17 (fun x h => (hnt x h).elim) (Nat.le_of_ble_eq_true rfl) (Nat.le_of_ble_eq_true rfl) (Nat.le_of_ble_eq_true rfl) (Nat.le_of_ble_eq_true rfl) hlocks (fun t _ hz1 hk1 => ⟨(), trivial, by rw [ef]; rfl, ⟨Nat.le_trans hS.1 hz1, fun q h1 h2 => (hk1 q (Nat.lt_of_lt_of_le h1 hS.1)).trans (hS.2.1 q h1 h2)⟩⟩) hS.2.2 (Nat.le_refl _) (Nat.le_refl _)
theorem uin_X2_requireConflict_X2 : ∀ w ∈ wsX20, w ∈ wsX2_requireConflict := fun _ h => List.mem_cons_of_mem _ (List.mem_append_left _ (List.mem_append_left _ (List.mem_append_right _ h)))
theorem uin_X2_requireConflict_X0 : ∀ w ∈ wsX00, w ∈ wsX2_requireConflict := fun _ h => List.mem_cons_of_mem _ (List.mem_append_left _ (List.mem_append_right _ h))
def f_X2_requireConflict_x (zl : Lr) (p1 : Int32) : Nat := if (f_X0_holds zl p1) = 0 then 1 else 0
theorem xin_X2_requireConflict_IO : ∀ w ∈ (vx_atS RX2 224 "java/lang/IndexOutOfBoundsException" ["java/lang/RuntimeException", "java/lang/Exception"]).filter goodWord, w ∈ wsX2_requireConflict := fun _ h => List.mem_cons_of_mem _ (List.mem_append_right _ h)
set_option maxHeartbeats 4000000 in
set_option maxRecDepth 100000 in
theorem k_X2_requireConflict (l : Launch) (D : va_G) (cyI cyZ : ClassId) (ad : Nat → Nat) (zb : Tr) (zo : Tr) (zt : Tr) (zm : Tr) (zu : Nat → Int32) (zr : Nat → Int32) (zl : Lr) (zf : Int32) (p1 : Int32) (hx9 : f_X2_requireConflict_x zl p1 = 0) : Met l yX2_requireConflict wsX2_requireConflict ({ frames := 1, cells := 0, slots := 0, locals := 21 } : Room) (pcP D cyI cyZ [.ref (ad 0), .int p1] (wZ cyI cyZ ad zb zo zt zm zu zr zl zf)) qV 0 0 nA := by
  refine Met.ofW (cc := cX2_requireConflict) (maxL := 2) (ret := none) (by decide) rfl ?_
  intro p e s m args below meth c s₁ B hml hv
  obtain ⟨rfl, hP, hG⟩ := hv
  have hx := B.exec
  have hb := B.bytes
  have hr := B.returns
  have hts := atoms_spec (ws := wsX2_requireConflict) B.pre
  have hown : s.vm.findClass RX2 = some m.cls := findClass_of_methodNamed B.named
  have hlocks := B.notSynchronized
  have hS : va_S nA s.heap s.heap [] := va_S.rf
  have hl := lv_entry ([.ref (ad 0), .int p1]) (n := 2) (Nat.le_of_ble_eq_true rfl)
  rw [lg_entry_eq]
  generalize (lg_sl ([.ref (ad 0), .int p1]) ++ List.replicate (2 - (lg_sl ([.ref (ad 0), .int p1])).length) Slot.unset).toArray = ls at hl ⊢
  have hl : lv_has ls 2 [(0, .ref (ad 0)), (1, .int p1)] := hl
  have hP : va_P D vwCl (wZ cyI cyZ ad zb zo zt zm zu zr zl zf) s.heap := hP
  refine lv_aload_n hx hb dX2_requireConflict_0 rfl (lv_at hl 0 rfl) ?_
  refine va_get (D := D) (ci := 2) (v := .ref (ad 15)) (C := RX2) (T := TX2) (N := 8) hx hb hts uin_X2_requireConflict_X2 hown hG.1 hP 0 rfl rfl 6 (by decide) (hts (.fieldLink RX2 36 "TableSplice" "list" "LTableSplice$ConflictList;") (List.mem_of_getElem? (i := 3) rfl)) (fun _ h9 => h9) rfl dX2_requireConflict_1 ?_
  refine lv_iload_n hx hb dX2_requireConflict_4 rfl (lv_at hl 1 rfl) ?_
  refine pr_i (va_runVN (As := [.int p1]) (rest := []) ⟨hx, hb, hml, hown, hts⟩ (k_X0_holds l D cyI cyZ (ad 15) (ad 16) (ad 17) (ad 18) (ad 19) zl p1) ⟨va_cnB 1 hts gX2_requireConflict_X0_holds_n245 rfl rfl rfl (hG.2.1 (RX2, 245, yX0_holds, "TableSplice") (List.mem_of_getElem? (i := 27) rfl)) (hts (.initialized RX0) (List.mem_of_getElem? (i := 5) rfl)) (by decide +kernel) ⟨Nat.le_of_ble_eq_true rfl, Nat.le_of_ble_eq_true rfl⟩, hts (.instanceMethod yX0_holds) (List.mem_of_getElem? (i := 4) rfl), hts (.selects RX0 yX0_holds yX0_holds) (List.mem_of_getElem? (i := 6) rfl)⟩ (prV hG (hP.sub (ws' := wL cyI cyZ (ad 15) (ad 16) (ad 17) (ad 18) (ad 19) zl) [15, 16, 17, 18, 19] rfl) (ci := 0) rfl rfl rfl) rfl rfl hl.1 rfl (lv_room (Nat.le_of_ble_eq_true rfl)) dX2_requireConflict_5 ⟨Nat.zero_le _, Nat.zero_le _⟩) hS hP (fun H locs hP hS => ?_)
  refine lv_if_ne (tgt := 21) hx hb dX2_requireConflict_8 (by decide) (fun c_8 => ?_) (fun c_8 => ?_)
  · exact W.vret hx hb hr (fun t ht hW => ⟨⟨(), rfl, trivial, trivial⟩, hS.F ht⟩) hS.2.2 dX2_requireConflict_21
  · exact absurd hx9 (by rw [f_X2_requireConflict_x, if_pos c_8]; decide)
set_option maxHeartbeats 4000000 in
set_option maxRecDepth 100000 in
theorem t_X2_requireConflict (l : Launch) (hlt : l.stackTraces = false) (D : va_G) (cyI cyZ : ClassId) (ad : Nat → Nat) (zb : Tr) (zo : Tr) (zt : Tr) (zm : Tr) (zu : Nat → Int32) (zr : Nat → Int32) (zl : Lr) (zf : Int32) (p1 : Int32) (hx9 : ¬ f_X2_requireConflict_x zl p1 = 0) : vx_Met l yX2_requireConflict wsX2_requireConflict ({ frames := 6, cells := 1, slots := 6, locals := 100 } : Room) (pcT D cyI cyZ [.ref (ad 0), .int p1] (wZ cyI cyZ ad zb zo zt zm zu zr zl zf)) qFv (xX (f_X2_requireConflict_x zl p1)) 1 6 nA := by
  refine vx_ofW (cc := cX2_requireConflict) (maxL := 2) (ret := none) (by decide) rfl ?_
  intro p e s m args below meth c s₁ B hml hnt hv
  obtain ⟨rfl, hP, hG, hz⟩ := hv
  have hx := B.exec
  have hb := B.bytes
  have hr := B.returns
  have hts := atoms_spec (ws := wsX2_requireConflict) B.pre
  have hown : s.vm.findClass RX2 = some m.cls := findClass_of_methodNamed B.named
  have hlocks := B.notSynchronized
  have hS : va_S nA s.heap s.heap [] := va_S.rf
  have hl := lv_entry ([.ref (ad 0), .int p1]) (n := 2) (Nat.le_of_ble_eq_true rfl)
  rw [lg_entry_eq]
  generalize (lg_sl ([.ref (ad 0), .int p1]) ++ List.replicate (2 - (lg_sl ([.ref (ad 0), .int p1])).length) Slot.unset).toArray = ls at hl ⊢
  have hl : lv_has ls 2 [(0, .ref (ad 0)), (1, .int p1)] := hl
  have hP : va_P D vwCl (wZ cyI cyZ ad zb zo zt zm zu zr zl zf) s.heap := hP
  refine lv_aload_n hx hb dX2_requireConflict_0 rfl (lv_at hl 0 rfl) ?_
  refine va_get (D := D) (ci := 2) (v := .ref (ad 15)) (C := RX2) (T := TX2) (N := 8) hx hb hts uin_X2_requireConflict_X2 hown hG.1 hP 0 rfl rfl 6 (by decide) (hts (.fieldLink RX2 36 "TableSplice" "list" "LTableSplice$ConflictList;") (List.mem_of_getElem? (i := 3) rfl)) (fun _ h9 => h9) rfl dX2_requireConflict_1 ?_
  refine lv_iload_n hx hb dX2_requireConflict_4 rfl (lv_at hl 1 rfl) ?_
  refine pr_i (va_runVN (As := [.int p1]) (rest := []) ⟨hx, hb, hml, hown, hts⟩ (k_X0_holds l D cyI cyZ (ad 15) (ad 16) (ad 17) (ad 18) (ad 19) zl p1) ⟨va_cnB 1 hts gX2_requireConflict_X0_holds_n245 rfl rfl rfl (hG.2.1 (RX2, 245, yX0_holds, "TableSplice") (List.mem_of_getElem? (i := 27) rfl)) (hts (.initialized RX0) (List.mem_of_getElem? (i := 5) rfl)) (by decide +kernel) ⟨Nat.le_of_ble_eq_true rfl, Nat.le_of_ble_eq_true rfl⟩, hts (.instanceMethod yX0_holds) (List.mem_of_getElem? (i := 4) rfl), hts (.selects RX0 yX0_holds yX0_holds) (List.mem_of_getElem? (i := 6) rfl)⟩ (prV hG (hP.sub (ws' := wL cyI cyZ (ad 15) (ad 16) (ad 17) (ad 18) (ad 19) zl) [15, 16, 17, 18, 19] rfl) (ci := 0) rfl rfl rfl) rfl rfl hl.1 rfl (lv_room (Nat.le_of_ble_eq_true rfl)) dX2_requireConflict_5 ⟨Nat.zero_le _, Nat.zero_le _⟩) hS hP (fun H locs hP hS => ?_)
  refine lv_if_ne (tgt := 21) hx hb dX2_requireConflict_8 (by decide) (fun c_8 => ?_) (fun c_8 => ?_)
  · exact absurd (by rw [f_X2_requireConflict_x, if_neg c_8]) hx9
  · have ef : f_X2_requireConflict_x zl p1 = 1 := by rw [f_X2_requireConflict_x, if_pos c_8]
    obtain ⟨sa, hsa⟩ := hz.2.2.1 (248, "no such conflict") (List.mem_of_getElem? (i := 14) rfl)
    exact vx_throwS (own := RX2) (cls := "java/lang/IndexOutOfBoundsException") (text := "no such conflict") (names := xnm) (ik := 220) (is := 248) (ic := 224) (A := nA) hx hb hlt hown (by decide) (by decide) (hts (.classLink RX2 220 "java/lang/IndexOutOfBoundsException") (List.mem_of_getElem? (i := 1) rfl)) (hts (.initialized "java/lang/IndexOutOfBoundsException") (List.mem_of_getElem? (i := 2) rfl)) hsa (vx_hat (fun w h => hts w (xin_X2_requireConflict_IO w h)) xb_IO (hz.xb (X := "java/lang/IndexOutOfBoundsException") (by decide))) (xg_IO) hz.1 hz.2.1 hS (hl.1.trans hml.symm) dX2_requireConflict_11 dX2_requireConflict_14 dX2_requireConflict_15 dX2_requireConflict_17 dX2_requireConflict_20 (fun x h => (hnt x h).elim) (Nat.le_of_ble_eq_true rfl) (Nat.le_of_ble_eq_true rfl) (Nat.le_of_ble_eq_true rfl) (Nat.le_of_ble_eq_true rfl) hlocks (fun t _ hz1 hk1 => ⟨(), trivial, by rw [ef]; rfl, ⟨Nat.le_trans hS.1 hz1, fun q h1 h2 => (hk1 q (Nat.lt_of_lt_of_le h1 hS.1)).trans (hS.2.1 q h1 h2)⟩⟩) hS.2.2 (Nat.le_refl _) (Nat.le_refl _)
theorem uin_X2_tableToRead_X2 : ∀ w ∈ wsX20, w ∈ wsX2_tableToRead := fun _ h => List.mem_cons_of_mem _ (List.mem_append_left _ (List.mem_append_right _ h))
set_option maxHeartbeats 4000000 in
set_option maxRecDepth 100000 in
theorem k_X2_tableToRead_0 (l : Launch) (D : va_G) (cyI cyZ : ClassId) (ad : Nat → Nat) (zb : Tr) (zo : Tr) (zt : Tr) (zm : Tr) (zu : Nat → Int32) (zr : Nat → Int32) (zl : Lr) (zf : Int32) (p1 : Int32) (h0 : p1 = 0) : Met l yX2_tableToRead wsX2_tableToRead ({ frames := 0, cells := 0, slots := 0, locals := 0 } : Room) (pcP D cyI cyZ [.ref (ad 0), .int p1] (wZ cyI cyZ ad zb zo zt zm zu zr zl zf)) (qR (ad 1)) 0 0 nA := by
  refine Met.ofW (cc := cX2_tableToRead) (maxL := 2) (ret := (some (.object "TableSplice$Table"))) (by decide) rfl ?_
  intro p e s m args below meth c s₁ B hml hv
  obtain ⟨rfl, hP, hG⟩ := hv
  have hx := B.exec
  have hb := B.bytes
  have hr := B.returns
  have hts := atoms_spec (ws := wsX2_tableToRead) B.pre
  have hown : s.vm.findClass RX2 = some m.cls := findClass_of_methodNamed B.named
  have hlocks := B.notSynchronized
  have hS : va_S nA s.heap s.heap [] := va_S.rf
  have hl := lv_entry ([.ref (ad 0), .int p1]) (n := 2) (Nat.le_of_ble_eq_true rfl)
  rw [lg_entry_eq]
  generalize (lg_sl ([.ref (ad 0), .int p1]) ++ List.replicate (2 - (lg_sl ([.ref (ad 0), .int p1])).length) Slot.unset).toArray = ls at hl ⊢
  have hl : lv_has ls 2 [(0, .ref (ad 0)), (1, .int p1)] := hl
  have hP : va_P D vwCl (wZ cyI cyZ ad zb zo zt zm zu zr zl zf) s.heap := hP
  refine lv_iload_n hx hb dX2_tableToRead_0 rfl (lv_at hl 1 rfl) ?_
  refine lv_tableIn (off := 31) (tgt := 32) hx hb dX2_tableToRead_1 (by rw [h0]; decide) (by rw [h0]; decide) (by rw [h0]; rfl) (by decide) ?_
  refine lv_aload_n hx hb dX2_tableToRead_32 rfl (lv_at hl 0 rfl) ?_
  refine va_get (D := D) (ci := 2) (v := .ref (ad 1)) (C := RX2) (T := TX2) (N := 8) hx hb hts uin_X2_tableToRead_X2 hown hG.1 hP 0 rfl rfl 0 (by decide) (hts (.fieldLink RX2 10 "TableSplice" "base" "LTableSplice$Table;") (List.mem_of_getElem? (i := 3) rfl)) (fun _ h9 => h9) rfl dX2_tableToRead_33 ?_
  exact W.aret (v := .ref (ad 1)) hx hb hr (Or.inl ⟨_, rfl⟩) (Or.inr ⟨_, rfl⟩) (fun t ht hW => ⟨⟨(), (ad 1), rfl, trivial, rfl⟩, hS.F ht⟩) hS.2.2 dX2_tableToRead_36

set_option maxHeartbeats 4000000 in
set_option maxRecDepth 100000 in
theorem k_X2_tableToRead_1 (l : Launch) (D : va_G) (cyI cyZ : ClassId) (ad : Nat → Nat) (zb : Tr) (zo : Tr) (zt : Tr) (zm : Tr) (zu : Nat → Int32) (zr : Nat → Int32) (zl : Lr) (zf : Int32) (p1 : Int32) (h0 : p1 = 1) : Met l yX2_tableToRead wsX2_tableToRead ({ frames := 0, cells := 0, slots := 0, locals := 0 } : Room) (pcP D cyI cyZ [.ref (ad 0), .int p1] (wZ cyI cyZ ad zb zo zt zm zu zr zl zf)) (qR (ad 4)) 0 0 nA := by
  refine Met.ofW (cc := cX2_tableToRead) (maxL := 2) (ret := (some (.object "TableSplice$Table"))) (by decide) rfl ?_
  intro p e s m args below meth c s₁ B hml hv
  obtain ⟨rfl, hP, hG⟩ := hv
  have hx := B.exec
  have hb := B.bytes
  have hr := B.returns
  have hts := atoms_spec (ws := wsX2_tableToRead) B.pre
  have hown : s.vm.findClass RX2 = some m.cls := findClass_of_methodNamed B.named
  have hlocks := B.notSynchronized
  have hS : va_S nA s.heap s.heap [] := va_S.rf
  have hl := lv_entry ([.ref (ad 0), .int p1]) (n := 2) (Nat.le_of_ble_eq_true rfl)
  rw [lg_entry_eq]
  generalize (lg_sl ([.ref (ad 0), .int p1]) ++ List.replicate (2 - (lg_sl ([.ref (ad 0), .int p1])).length) Slot.unset).toArray = ls at hl ⊢
  have hl : lv_has ls 2 [(0, .ref (ad 0)), (1, .int p1)] := hl
  have hP : va_P D vwCl (wZ cyI cyZ ad zb zo zt zm zu zr zl zf) s.heap := hP
  refine lv_iload_n hx hb dX2_tableToRead_0 rfl (lv_at hl 1 rfl) ?_
  refine lv_tableIn (off := 36) (tgt := 37) hx hb dX2_tableToRead_1 (by rw [h0]; decide) (by rw [h0]; decide) (by rw [h0]; rfl) (by decide) ?_
  refine lv_aload_n hx hb dX2_tableToRead_37 rfl (lv_at hl 0 rfl) ?_
  refine va_get (D := D) (ci := 2) (v := .ref (ad 4)) (C := RX2) (T := TX2) (N := 8) hx hb hts uin_X2_tableToRead_X2 hown hG.1 hP 0 rfl rfl 1 (by decide) (hts (.fieldLink RX2 16 "TableSplice" "ours" "LTableSplice$Table;") (List.mem_of_getElem? (i := 4) rfl)) (fun _ h9 => h9) rfl dX2_tableToRead_38 ?_
  exact W.aret (v := .ref (ad 4)) hx hb hr (Or.inl ⟨_, rfl⟩) (Or.inr ⟨_, rfl⟩) (fun t ht hW => ⟨⟨(), (ad 4), rfl, trivial, rfl⟩, hS.F ht⟩) hS.2.2 dX2_tableToRead_41

set_option maxHeartbeats 4000000 in
set_option maxRecDepth 100000 in
theorem k_X2_tableToRead_2 (l : Launch) (D : va_G) (cyI cyZ : ClassId) (ad : Nat → Nat) (zb : Tr) (zo : Tr) (zt : Tr) (zm : Tr) (zu : Nat → Int32) (zr : Nat → Int32) (zl : Lr) (zf : Int32) (p1 : Int32) (h0 : p1 = 2) : Met l yX2_tableToRead wsX2_tableToRead ({ frames := 0, cells := 0, slots := 0, locals := 0 } : Room) (pcP D cyI cyZ [.ref (ad 0), .int p1] (wZ cyI cyZ ad zb zo zt zm zu zr zl zf)) (qR (ad 7)) 0 0 nA := by
  refine Met.ofW (cc := cX2_tableToRead) (maxL := 2) (ret := (some (.object "TableSplice$Table"))) (by decide) rfl ?_
  intro p e s m args below meth c s₁ B hml hv
  obtain ⟨rfl, hP, hG⟩ := hv
  have hx := B.exec
  have hb := B.bytes
  have hr := B.returns
  have hts := atoms_spec (ws := wsX2_tableToRead) B.pre
  have hown : s.vm.findClass RX2 = some m.cls := findClass_of_methodNamed B.named
  have hlocks := B.notSynchronized
  have hS : va_S nA s.heap s.heap [] := va_S.rf
  have hl := lv_entry ([.ref (ad 0), .int p1]) (n := 2) (Nat.le_of_ble_eq_true rfl)
  rw [lg_entry_eq]
  generalize (lg_sl ([.ref (ad 0), .int p1]) ++ List.replicate (2 - (lg_sl ([.ref (ad 0), .int p1])).length) Slot.unset).toArray = ls at hl ⊢
  have hl : lv_has ls 2 [(0, .ref (ad 0)), (1, .int p1)] := hl
  have hP : va_P D vwCl (wZ cyI cyZ ad zb zo zt zm zu zr zl zf) s.heap := hP
  refine lv_iload_n hx hb dX2_tableToRead_0 rfl (lv_at hl 1 rfl) ?_
  refine lv_tableIn (off := 41) (tgt := 42) hx hb dX2_tableToRead_1 (by rw [h0]; decide) (by rw [h0]; decide) (by rw [h0]; rfl) (by decide) ?_
  refine lv_aload_n hx hb dX2_tableToRead_42 rfl (lv_at hl 0 rfl) ?_
  refine va_get (D := D) (ci := 2) (v := .ref (ad 7)) (C := RX2) (T := TX2) (N := 8) hx hb hts uin_X2_tableToRead_X2 hown hG.1 hP 0 rfl rfl 2 (by decide) (hts (.fieldLink RX2 19 "TableSplice" "theirs" "LTableSplice$Table;") (List.mem_of_getElem? (i := 5) rfl)) (fun _ h9 => h9) rfl dX2_tableToRead_43 ?_
  exact W.aret (v := .ref (ad 7)) hx hb hr (Or.inl ⟨_, rfl⟩) (Or.inr ⟨_, rfl⟩) (fun t ht hW => ⟨⟨(), (ad 7), rfl, trivial, rfl⟩, hS.F ht⟩) hS.2.2 dX2_tableToRead_46

set_option maxHeartbeats 4000000 in
set_option maxRecDepth 100000 in
theorem k_X2_tableToRead_3 (l : Launch) (D : va_G) (cyI cyZ : ClassId) (ad : Nat → Nat) (zb : Tr) (zo : Tr) (zt : Tr) (zm : Tr) (zu : Nat → Int32) (zr : Nat → Int32) (zl : Lr) (zf : Int32) (p1 : Int32) (h0 : p1 = 3) : Met l yX2_tableToRead wsX2_tableToRead ({ frames := 0, cells := 0, slots := 0, locals := 0 } : Room) (pcP D cyI cyZ [.ref (ad 0), .int p1] (wZ cyI cyZ ad zb zo zt zm zu zr zl zf)) (qR (ad 10)) 0 0 nA := by
  refine Met.ofW (cc := cX2_tableToRead) (maxL := 2) (ret := (some (.object "TableSplice$Table"))) (by decide) rfl ?_
  intro p e s m args below meth c s₁ B hml hv
  obtain ⟨rfl, hP, hG⟩ := hv
  have hx := B.exec
  have hb := B.bytes
  have hr := B.returns
  have hts := atoms_spec (ws := wsX2_tableToRead) B.pre
  have hown : s.vm.findClass RX2 = some m.cls := findClass_of_methodNamed B.named
  have hlocks := B.notSynchronized
  have hS : va_S nA s.heap s.heap [] := va_S.rf
  have hl := lv_entry ([.ref (ad 0), .int p1]) (n := 2) (Nat.le_of_ble_eq_true rfl)
  rw [lg_entry_eq]
  generalize (lg_sl ([.ref (ad 0), .int p1]) ++ List.replicate (2 - (lg_sl ([.ref (ad 0), .int p1])).length) Slot.unset).toArray = ls at hl ⊢
  have hl : lv_has ls 2 [(0, .ref (ad 0)), (1, .int p1)] := hl
  have hP : va_P D vwCl (wZ cyI cyZ ad zb zo zt zm zu zr zl zf) s.heap := hP
  refine lv_iload_n hx hb dX2_tableToRead_0 rfl (lv_at hl 1 rfl) ?_
  refine lv_tableIn (off := 46) (tgt := 47) hx hb dX2_tableToRead_1 (by rw [h0]; decide) (by rw [h0]; decide) (by rw [h0]; rfl) (by decide) ?_
  refine lv_aload_n hx hb dX2_tableToRead_47 rfl (lv_at hl 0 rfl) ?_
  refine va_get (D := D) (ci := 2) (v := .ref (ad 10)) (C := RX2) (T := TX2) (N := 8) hx hb hts uin_X2_tableToRead_X2 hown hG.1 hP 0 rfl rfl 3 (by decide) (hts (.fieldLink RX2 22 "TableSplice" "merged" "LTableSplice$Table;") (List.mem_of_getElem? (i := 6) rfl)) (fun _ h9 => h9) rfl dX2_tableToRead_48 ?_
  exact W.aret (v := .ref (ad 10)) hx hb hr (Or.inl ⟨_, rfl⟩) (Or.inr ⟨_, rfl⟩) (fun t ht hW => ⟨⟨(), (ad 10), rfl, trivial, rfl⟩, hS.F ht⟩) hS.2.2 dX2_tableToRead_51
def f_X2_tableToRead_x (p1 : Int32) : Nat := if p1 = 0 then 0 else (if p1 = 1 then 0 else (if p1 = 2 then 0 else (if p1 = 3 then 0 else 1)))
theorem xin_X2_tableToRead_IO : ∀ w ∈ (vx_atS RX2 224 "java/lang/IndexOutOfBoundsException" ["java/lang/RuntimeException", "java/lang/Exception"]).filter goodWord, w ∈ wsX2_tableToRead := fun _ h => List.mem_cons_of_mem _ (List.mem_append_right _ h)
set_option maxHeartbeats 4000000 in
set_option maxRecDepth 100000 in
theorem t_X2_tableToRead (l : Launch) (hlt : l.stackTraces = false) (D : va_G) (cyI cyZ : ClassId) (ad : Nat → Nat) (zb : Tr) (zo : Tr) (zt : Tr) (zm : Tr) (zu : Nat → Int32) (zr : Nat → Int32) (zl : Lr) (zf : Int32) (p1 : Int32) (hx9 : ¬ f_X2_tableToRead_x p1 = 0) : vx_Met l yX2_tableToRead wsX2_tableToRead ({ frames := 6, cells := 1, slots := 6, locals := 100 } : Room) (pcT D cyI cyZ [.ref (ad 0), .int p1] (wZ cyI cyZ ad zb zo zt zm zu zr zl zf)) qFr (xX (f_X2_tableToRead_x p1)) 1 6 nA := by
  refine vx_ofW (cc := cX2_tableToRead) (maxL := 2) (ret := (some (.object "TableSplice$Table"))) (by decide) rfl ?_
  intro p e s m args below meth c s₁ B hml hnt hv
  obtain ⟨rfl, hP, hG, hz⟩ := hv
  have hx := B.exec
  have hb := B.bytes
  have hr := B.returns
  have hts := atoms_spec (ws := wsX2_tableToRead) B.pre
  have hown : s.vm.findClass RX2 = some m.cls := findClass_of_methodNamed B.named
  have hlocks := B.notSynchronized
  have hS : va_S nA s.heap s.heap [] := va_S.rf
  have hl := lv_entry ([.ref (ad 0), .int p1]) (n := 2) (Nat.le_of_ble_eq_true rfl)
  rw [lg_entry_eq]
  generalize (lg_sl ([.ref (ad 0), .int p1]) ++ List.replicate (2 - (lg_sl ([.ref (ad 0), .int p1])).length) Slot.unset).toArray = ls at hl ⊢
  have hl : lv_has ls 2 [(0, .ref (ad 0)), (1, .int p1)] := hl
  have hP : va_P D vwCl (wZ cyI cyZ ad zb zo zt zm zu zr zl zf) s.heap := hP
  refine lv_iload_n hx hb dX2_tableToRead_0 rfl (lv_at hl 1 rfl) ?_
  by_cases c_1_0 : p1 = 0
  · refine lv_tableIn (off := 31) (tgt := 32) hx hb dX2_tableToRead_1 (by rw [c_1_0]; decide) (by rw [c_1_0]; decide) (by rw [c_1_0]; rfl) (by decide) ?_
    refine lv_aload_n hx hb dX2_tableToRead_32 rfl (lv_at hl 0 rfl) ?_
    refine va_get (D := D) (ci := 2) (v := .ref (ad 1)) (C := RX2) (T := TX2) (N := 8) hx hb hts uin_X2_tableToRead_X2 hown hG.1 hP 0 rfl rfl 0 (by decide) (hts (.fieldLink RX2 10 "TableSplice" "base" "LTableSplice$Table;") (List.mem_of_getElem? (i := 3) rfl)) (fun _ h9 => h9) rfl dX2_tableToRead_33 ?_
    exact absurd (by rw [f_X2_tableToRead_x, if_pos c_1_0]) hx9
  · by_cases c_1_1 : p1 = 1
    · refine lv_tableIn (off := 36) (tgt := 37) hx hb dX2_tableToRead_1 (by rw [c_1_1]; decide) (by rw [c_1_1]; decide) (by rw [c_1_1]; rfl) (by decide) ?_
      refine lv_aload_n hx hb dX2_tableToRead_37 rfl (lv_at hl 0 rfl) ?_
      refine va_get (D := D) (ci := 2) (v := .ref (ad 4)) (C := RX2) (T := TX2) (N := 8) hx hb hts uin_X2_tableToRead_X2 hown hG.1 hP 0 rfl rfl 1 (by decide) (hts (.fieldLink RX2 16 "TableSplice" "ours" "LTableSplice$Table;") (List.mem_of_getElem? (i := 4) rfl)) (fun _ h9 => h9) rfl dX2_tableToRead_38 ?_
      exact absurd (by rw [f_X2_tableToRead_x, if_neg c_1_0, if_pos c_1_1]) hx9
    · by_cases c_1_2 : p1 = 2
      · refine lv_tableIn (off := 41) (tgt := 42) hx hb dX2_tableToRead_1 (by rw [c_1_2]; decide) (by rw [c_1_2]; decide) (by rw [c_1_2]; rfl) (by decide) ?_
        refine lv_aload_n hx hb dX2_tableToRead_42 rfl (lv_at hl 0 rfl) ?_
        refine va_get (D := D) (ci := 2) (v := .ref (ad 7)) (C := RX2) (T := TX2) (N := 8) hx hb hts uin_X2_tableToRead_X2 hown hG.1 hP 0 rfl rfl 2 (by decide) (hts (.fieldLink RX2 19 "TableSplice" "theirs" "LTableSplice$Table;") (List.mem_of_getElem? (i := 5) rfl)) (fun _ h9 => h9) rfl dX2_tableToRead_43 ?_
        exact absurd (by rw [f_X2_tableToRead_x, if_neg c_1_0, if_neg c_1_1, if_pos c_1_2]) hx9
      · by_cases c_1_3 : p1 = 3
        · refine lv_tableIn (off := 46) (tgt := 47) hx hb dX2_tableToRead_1 (by rw [c_1_3]; decide) (by rw [c_1_3]; decide) (by rw [c_1_3]; rfl) (by decide) ?_
          refine lv_aload_n hx hb dX2_tableToRead_47 rfl (lv_at hl 0 rfl) ?_
          refine va_get (D := D) (ci := 2) (v := .ref (ad 10)) (C := RX2) (T := TX2) (N := 8) hx hb hts uin_X2_tableToRead_X2 hown hG.1 hP 0 rfl rfl 3 (by decide) (hts (.fieldLink RX2 22 "TableSplice" "merged" "LTableSplice$Table;") (List.mem_of_getElem? (i := 6) rfl)) (fun _ h9 => h9) rfl dX2_tableToRead_48 ?_
          exact absurd (by rw [f_X2_tableToRead_x, if_neg c_1_0, if_neg c_1_1, if_neg c_1_2, if_pos c_1_3]) hx9
        · refine lv_tableOut (tgt := 52) hx hb dX2_tableToRead_1 (tsw_out0_3 c_1_0 c_1_1 c_1_2 c_1_3) (by decide) ?_
          have ef : f_X2_tableToRead_x p1 = 1 := by rw [f_X2_tableToRead_x, if_neg c_1_0, if_neg c_1_1, if_neg c_1_2, if_neg c_1_3]
          obtain ⟨sa, hsa⟩ := hz.2.2.1 (222, "no such table") (List.mem_of_getElem? (i := 1) rfl)
          exact vx_throwS (own := RX2) (cls := "java/lang/IndexOutOfBoundsException") (text := "no such table") (names := xnm) (ik := 220) (is := 222) (ic := 224) (A := nA) hx hb hlt hown (by decide) (by decide) (hts (.classLink RX2 220 "java/lang/IndexOutOfBoundsException") (List.mem_of_getElem? (i := 1) rfl)) (hts (.initialized "java/lang/IndexOutOfBoundsException") (List.mem_of_getElem? (i := 2) rfl)) hsa (vx_hat (fun w h => hts w (xin_X2_tableToRead_IO w h)) xb_IO (hz.xb (X := "java/lang/IndexOutOfBoundsException") (by decide))) (xg_IO) hz.1 hz.2.1 hS (hl.1.trans hml.symm) dX2_tableToRead_52 dX2_tableToRead_55 dX2_tableToRead_56 dX2_tableToRead_58 dX2_tableToRead_61 (fun x h => (hnt x h).elim) (Nat.le_of_ble_eq_true rfl) (Nat.le_of_ble_eq_true rfl) (Nat.le_of_ble_eq_true rfl) (Nat.le_of_ble_eq_true rfl) hlocks (fun t _ hz1 hk1 => ⟨(), trivial, by rw [ef]; rfl, ⟨Nat.le_trans hS.1 hz1, fun q h1 h2 => (hk1 q (Nat.lt_of_lt_of_le h1 hS.1)).trans (hS.2.1 q h1 h2)⟩⟩) hS.2.2 (Nat.le_refl _) (Nat.le_refl _)
theorem tr_x {p1 : Int32} (h0 : ¬ p1 = 0) (h1 : ¬ p1 = 1) (h2 : ¬ p1 = 2) (h3 : ¬ p1 = 3) : f_X2_tableToRead_x p1 = 1 := by
  rw [f_X2_tableToRead_x, if_neg h0, if_neg h1, if_neg h2, if_neg h3]
theorem uin_X2_tableToFill_X2 : ∀ w ∈ wsX20, w ∈ wsX2_tableToFill := fun _ h => List.mem_cons_of_mem _ (List.mem_append_left _ (List.mem_append_right _ h))
set_option maxHeartbeats 4000000 in
set_option maxRecDepth 100000 in
theorem k_X2_tableToFill_0 (l : Launch) (D : va_G) (cyI cyZ : ClassId) (ad : Nat → Nat) (zb : Tr) (zo : Tr) (zt : Tr) (zm : Tr) (zu : Nat → Int32) (zr : Nat → Int32) (zl : Lr) (zf : Int32) (p1 : Int32) (h0 : p1 = 0) : Met l yX2_tableToFill wsX2_tableToFill ({ frames := 1, cells := 0, slots := 0, locals := 21 } : Room) (pcP D cyI cyZ [.ref (ad 0), .int p1] (wZ cyI cyZ ad zb zo zt zm zu zr zl zf)) (qR (ad 1)) 0 0 nA := by
  refine Met.ofW (cc := cX2_tableToFill) (maxL := 2) (ret := (some (.object "TableSplice$Table"))) (by decide) rfl ?_
  intro p e s m args below meth c s₁ B hml hv
  obtain ⟨rfl, hP, hG⟩ := hv
  have hx := B.exec
  have hb := B.bytes
  have hr := B.returns
  have hts := atoms_spec (ws := wsX2_tableToFill) B.pre
  have hown : s.vm.findClass RX2 = some m.cls := findClass_of_methodNamed B.named
  have hlocks := B.notSynchronized
  have hS : va_S nA s.heap s.heap [] := va_S.rf
  have hl := lv_entry ([.ref (ad 0), .int p1]) (n := 2) (Nat.le_of_ble_eq_true rfl)
  rw [lg_entry_eq]
  generalize (lg_sl ([.ref (ad 0), .int p1]) ++ List.replicate (2 - (lg_sl ([.ref (ad 0), .int p1])).length) Slot.unset).toArray = ls at hl ⊢
  have hl : lv_has ls 2 [(0, .ref (ad 0)), (1, .int p1)] := hl
  have hP : va_P D vwCl (wZ cyI cyZ ad zb zo zt zm zu zr zl zf) s.heap := hP
  refine lv_iload_n hx hb dX2_tableToFill_0 rfl (lv_at hl 1 rfl) ?_
  refine lv_iconst (v := 3) hx hb dX2_tableToFill_1 (by decide) ?_
  refine lv_icmp_ne (tgt := 15) hx hb dX2_tableToFill_2 (by decide) (fun c_2 => ?_) (fun c_2 => ?_)
  · refine lv_aload_n hx hb dX2_tableToFill_15 rfl (lv_at hl 0 rfl) ?_
    refine lv_iload_n hx hb dX2_tableToFill_16 rfl (lv_at hl 1 rfl) ?_
    refine pr_r (va_runV (As := [.int p1]) (rest := []) ⟨hx, hb, hml, hown, hts⟩ (k_X2_tableToRead_0 l D cyI cyZ ad zb zo zt zm zu zr zl zf p1 h0) (cwV 1 hts gX2_tableToFill_X2_tableToRead rfl rfl rfl (by decide +kernel) ⟨Nat.le_of_ble_eq_true rfl, Nat.le_of_ble_eq_true rfl⟩) (prV hG hP (ci := 2) rfl rfl rfl) rfl rfl hl.1 rfl (lv_room (Nat.le_of_ble_eq_true rfl)) dX2_tableToFill_17 ⟨Nat.zero_le _, Nat.zero_le _⟩) hS hP (fun H locs hP hS => ?_)
    exact W.aret (v := .ref (ad 1)) hx hb hr (Or.inl ⟨_, rfl⟩) (Or.inr ⟨_, rfl⟩) (fun t ht hW => ⟨⟨(), (ad 1), rfl, trivial, rfl⟩, hS.F ht⟩) hS.2.2 dX2_tableToFill_20
  · exact absurd c_2 (by rw [h0] <;> decide)

set_option maxHeartbeats 4000000 in
set_option maxRecDepth 100000 in
theorem k_X2_tableToFill_1 (l : Launch) (D : va_G) (cyI cyZ : ClassId) (ad : Nat → Nat) (zb : Tr) (zo : Tr) (zt : Tr) (zm : Tr) (zu : Nat → Int32) (zr : Nat → Int32) (zl : Lr) (zf : Int32) (p1 : Int32) (h0 : p1 = 1) : Met l yX2_tableToFill wsX2_tableToFill ({ frames := 1, cells := 0, slots := 0, locals := 21 } : Room) (pcP D cyI cyZ [.ref (ad 0), .int p1] (wZ cyI cyZ ad zb zo zt zm zu zr zl zf)) (qR (ad 4)) 0 0 nA := by
  refine Met.ofW (cc := cX2_tableToFill) (maxL := 2) (ret := (some (.object "TableSplice$Table"))) (by decide) rfl ?_
  intro p e s m args below meth c s₁ B hml hv
  obtain ⟨rfl, hP, hG⟩ := hv
  have hx := B.exec
  have hb := B.bytes
  have hr := B.returns
  have hts := atoms_spec (ws := wsX2_tableToFill) B.pre
  have hown : s.vm.findClass RX2 = some m.cls := findClass_of_methodNamed B.named
  have hlocks := B.notSynchronized
  have hS : va_S nA s.heap s.heap [] := va_S.rf
  have hl := lv_entry ([.ref (ad 0), .int p1]) (n := 2) (Nat.le_of_ble_eq_true rfl)
  rw [lg_entry_eq]
  generalize (lg_sl ([.ref (ad 0), .int p1]) ++ List.replicate (2 - (lg_sl ([.ref (ad 0), .int p1])).length) Slot.unset).toArray = ls at hl ⊢
  have hl : lv_has ls 2 [(0, .ref (ad 0)), (1, .int p1)] := hl
  have hP : va_P D vwCl (wZ cyI cyZ ad zb zo zt zm zu zr zl zf) s.heap := hP
  refine lv_iload_n hx hb dX2_tableToFill_0 rfl (lv_at hl 1 rfl) ?_
  refine lv_iconst (v := 3) hx hb dX2_tableToFill_1 (by decide) ?_
  refine lv_icmp_ne (tgt := 15) hx hb dX2_tableToFill_2 (by decide) (fun c_2 => ?_) (fun c_2 => ?_)
  · refine lv_aload_n hx hb dX2_tableToFill_15 rfl (lv_at hl 0 rfl) ?_
    refine lv_iload_n hx hb dX2_tableToFill_16 rfl (lv_at hl 1 rfl) ?_
    refine pr_r (va_runV (As := [.int p1]) (rest := []) ⟨hx, hb, hml, hown, hts⟩ (k_X2_tableToRead_1 l D cyI cyZ ad zb zo zt zm zu zr zl zf p1 h0) (cwV 1 hts gX2_tableToFill_X2_tableToRead rfl rfl rfl (by decide +kernel) ⟨Nat.le_of_ble_eq_true rfl, Nat.le_of_ble_eq_true rfl⟩) (prV hG hP (ci := 2) rfl rfl rfl) rfl rfl hl.1 rfl (lv_room (Nat.le_of_ble_eq_true rfl)) dX2_tableToFill_17 ⟨Nat.zero_le _, Nat.zero_le _⟩) hS hP (fun H locs hP hS => ?_)
    exact W.aret (v := .ref (ad 4)) hx hb hr (Or.inl ⟨_, rfl⟩) (Or.inr ⟨_, rfl⟩) (fun t ht hW => ⟨⟨(), (ad 4), rfl, trivial, rfl⟩, hS.F ht⟩) hS.2.2 dX2_tableToFill_20
  · exact absurd c_2 (by rw [h0] <;> decide)

set_option maxHeartbeats 4000000 in
set_option maxRecDepth 100000 in
theorem k_X2_tableToFill_2 (l : Launch) (D : va_G) (cyI cyZ : ClassId) (ad : Nat → Nat) (zb : Tr) (zo : Tr) (zt : Tr) (zm : Tr) (zu : Nat → Int32) (zr : Nat → Int32) (zl : Lr) (zf : Int32) (p1 : Int32) (h0 : p1 = 2) : Met l yX2_tableToFill wsX2_tableToFill ({ frames := 1, cells := 0, slots := 0, locals := 21 } : Room) (pcP D cyI cyZ [.ref (ad 0), .int p1] (wZ cyI cyZ ad zb zo zt zm zu zr zl zf)) (qR (ad 7)) 0 0 nA := by
  refine Met.ofW (cc := cX2_tableToFill) (maxL := 2) (ret := (some (.object "TableSplice$Table"))) (by decide) rfl ?_
  intro p e s m args below meth c s₁ B hml hv
  obtain ⟨rfl, hP, hG⟩ := hv
  have hx := B.exec
  have hb := B.bytes
  have hr := B.returns
  have hts := atoms_spec (ws := wsX2_tableToFill) B.pre
  have hown : s.vm.findClass RX2 = some m.cls := findClass_of_methodNamed B.named
  have hlocks := B.notSynchronized
  have hS : va_S nA s.heap s.heap [] := va_S.rf
  have hl := lv_entry ([.ref (ad 0), .int p1]) (n := 2) (Nat.le_of_ble_eq_true rfl)
  rw [lg_entry_eq]
  generalize (lg_sl ([.ref (ad 0), .int p1]) ++ List.replicate (2 - (lg_sl ([.ref (ad 0), .int p1])).length) Slot.unset).toArray = ls at hl ⊢
  have hl : lv_has ls 2 [(0, .ref (ad 0)), (1, .int p1)] := hl
  have hP : va_P D vwCl (wZ cyI cyZ ad zb zo zt zm zu zr zl zf) s.heap := hP
  refine lv_iload_n hx hb dX2_tableToFill_0 rfl (lv_at hl 1 rfl) ?_
  refine lv_iconst (v := 3) hx hb dX2_tableToFill_1 (by decide) ?_
  refine lv_icmp_ne (tgt := 15) hx hb dX2_tableToFill_2 (by decide) (fun c_2 => ?_) (fun c_2 => ?_)
  · refine lv_aload_n hx hb dX2_tableToFill_15 rfl (lv_at hl 0 rfl) ?_
    refine lv_iload_n hx hb dX2_tableToFill_16 rfl (lv_at hl 1 rfl) ?_
    refine pr_r (va_runV (As := [.int p1]) (rest := []) ⟨hx, hb, hml, hown, hts⟩ (k_X2_tableToRead_2 l D cyI cyZ ad zb zo zt zm zu zr zl zf p1 h0) (cwV 1 hts gX2_tableToFill_X2_tableToRead rfl rfl rfl (by decide +kernel) ⟨Nat.le_of_ble_eq_true rfl, Nat.le_of_ble_eq_true rfl⟩) (prV hG hP (ci := 2) rfl rfl rfl) rfl rfl hl.1 rfl (lv_room (Nat.le_of_ble_eq_true rfl)) dX2_tableToFill_17 ⟨Nat.zero_le _, Nat.zero_le _⟩) hS hP (fun H locs hP hS => ?_)
    exact W.aret (v := .ref (ad 7)) hx hb hr (Or.inl ⟨_, rfl⟩) (Or.inr ⟨_, rfl⟩) (fun t ht hW => ⟨⟨(), (ad 7), rfl, trivial, rfl⟩, hS.F ht⟩) hS.2.2 dX2_tableToFill_20
  · exact absurd c_2 (by rw [h0] <;> decide)
def f_X2_tableToFill_x (p1 : Int32) : Nat := if p1 = 3 then 1 else (if p1 = 0 then 0 else (if p1 = 1 then 0 else (if p1 = 2 then 0 else 1)))
theorem xin_X2_tableToFill_IO : ∀ w ∈ (vx_atS RX2 224 "java/lang/IndexOutOfBoundsException" ["java/lang/RuntimeException", "java/lang/Exception"]).filter goodWord, w ∈ wsX2_tableToFill := fun _ h => List.mem_cons_of_mem _ (List.mem_append_right _ h)
set_option maxHeartbeats 4000000 in
set_option maxRecDepth 100000 in
theorem t_X2_tableToFill (l : Launch) (hlt : l.stackTraces = false) (D : va_G) (cyI cyZ : ClassId) (ad : Nat → Nat) (zb : Tr) (zo : Tr) (zt : Tr) (zm : Tr) (zu : Nat → Int32) (zr : Nat → Int32) (zl : Lr) (zf : Int32) (p1 : Int32) (hx9 : ¬ f_X2_tableToFill_x p1 = 0) : vx_Met l yX2_tableToFill wsX2_tableToFill ({ frames := 7, cells := 1, slots := 6, locals := 121 } : Room) (pcT D cyI cyZ [.ref (ad 0), .int p1] (wZ cyI cyZ ad zb zo zt zm zu zr zl zf)) qFr (xX (f_X2_tableToFill_x p1)) 1 6 nA := by
  refine vx_ofW (cc := cX2_tableToFill) (maxL := 2) (ret := (some (.object "TableSplice$Table"))) (by decide) rfl ?_
  intro p e s m args below meth c s₁ B hml hnt hv
  obtain ⟨rfl, hP, hG, hz⟩ := hv
  have hx := B.exec
  have hb := B.bytes
  have hr := B.returns
  have hts := atoms_spec (ws := wsX2_tableToFill) B.pre
  have hown : s.vm.findClass RX2 = some m.cls := findClass_of_methodNamed B.named
  have hlocks := B.notSynchronized
  have hS : va_S nA s.heap s.heap [] := va_S.rf
  have hl := lv_entry ([.ref (ad 0), .int p1]) (n := 2) (Nat.le_of_ble_eq_true rfl)
  rw [lg_entry_eq]
  generalize (lg_sl ([.ref (ad 0), .int p1]) ++ List.replicate (2 - (lg_sl ([.ref (ad 0), .int p1])).length) Slot.unset).toArray = ls at hl ⊢
  have hl : lv_has ls 2 [(0, .ref (ad 0)), (1, .int p1)] := hl
  have hP : va_P D vwCl (wZ cyI cyZ ad zb zo zt zm zu zr zl zf) s.heap := hP
  refine lv_iload_n hx hb dX2_tableToFill_0 rfl (lv_at hl 1 rfl) ?_
  refine lv_iconst (v := 3) hx hb dX2_tableToFill_1 (by decide) ?_
  refine lv_icmp_ne (tgt := 15) hx hb dX2_tableToFill_2 (by decide) (fun c_2 => ?_) (fun c_2 => ?_)
  · refine lv_aload_n hx hb dX2_tableToFill_15 rfl (lv_at hl 0 rfl) ?_
    refine lv_iload_n hx hb dX2_tableToFill_16 rfl (lv_at hl 1 rfl) ?_
    by_cases c_17_0 : p1 = 0
    · refine pr_r (va_runV (As := [.int p1]) (rest := []) ⟨hx, hb, hml, hown, hts⟩ (k_X2_tableToRead_0 l D cyI cyZ ad zb zo zt zm zu zr zl zf p1 c_17_0) (cwV 1 hts gX2_tableToFill_X2_tableToRead rfl rfl rfl (by decide +kernel) ⟨Nat.le_of_ble_eq_true rfl, Nat.le_of_ble_eq_true rfl⟩) (prV hG hP (ci := 2) rfl rfl rfl) rfl rfl hl.1 rfl (lv_room (Nat.le_of_ble_eq_true rfl)) dX2_tableToFill_17 ⟨Nat.zero_le _, Nat.zero_le _⟩) hS hP (fun H locs hP hS => ?_)
      exact absurd (by rw [f_X2_tableToFill_x, if_neg c_2, if_pos c_17_0]) hx9
    · by_cases c_17_1 : p1 = 1
      · refine pr_r (va_runV (As := [.int p1]) (rest := []) ⟨hx, hb, hml, hown, hts⟩ (k_X2_tableToRead_1 l D cyI cyZ ad zb zo zt zm zu zr zl zf p1 c_17_1) (cwV 1 hts gX2_tableToFill_X2_tableToRead rfl rfl rfl (by decide +kernel) ⟨Nat.le_of_ble_eq_true rfl, Nat.le_of_ble_eq_true rfl⟩) (prV hG hP (ci := 2) rfl rfl rfl) rfl rfl hl.1 rfl (lv_room (Nat.le_of_ble_eq_true rfl)) dX2_tableToFill_17 ⟨Nat.zero_le _, Nat.zero_le _⟩) hS hP (fun H locs hP hS => ?_)
        exact absurd (by rw [f_X2_tableToFill_x, if_neg c_2, if_neg c_17_0, if_pos c_17_1]) hx9
      · by_cases c_17_2 : p1 = 2
        · refine pr_r (va_runV (As := [.int p1]) (rest := []) ⟨hx, hb, hml, hown, hts⟩ (k_X2_tableToRead_2 l D cyI cyZ ad zb zo zt zm zu zr zl zf p1 c_17_2) (cwV 1 hts gX2_tableToFill_X2_tableToRead rfl rfl rfl (by decide +kernel) ⟨Nat.le_of_ble_eq_true rfl, Nat.le_of_ble_eq_true rfl⟩) (prV hG hP (ci := 2) rfl rfl rfl) rfl rfl hl.1 rfl (lv_room (Nat.le_of_ble_eq_true rfl)) dX2_tableToFill_17 ⟨Nat.zero_le _, Nat.zero_le _⟩) hS hP (fun H locs hP hS => ?_)
          exact absurd (by rw [f_X2_tableToFill_x, if_neg c_2, if_neg c_17_0, if_neg c_17_1, if_pos c_17_2]) hx9
        · have ef : f_X2_tableToFill_x p1 = f_X2_tableToRead_x p1 := (by rw [f_X2_tableToFill_x, if_neg c_2, if_neg c_17_0, if_neg c_17_1, if_neg c_17_2] : f_X2_tableToFill_x p1 = 1).trans (tr_x c_17_0 c_17_1 c_17_2 c_2).symm
          exact vx_callr (vx_runV (As := [.int p1]) (rest := []) ⟨hx, hb, hml, hown, hts⟩ (t_X2_tableToRead l hlt D cyI cyZ ad zb zo zt zm zu zr zl zf p1 (by rw [tr_x c_17_0 c_17_1 c_17_2 c_2]; decide)) (cwV 1 hts gX2_tableToFill_X2_tableToRead rfl rfl rfl (by decide +kernel) ⟨Nat.le_of_ble_eq_true rfl, Nat.le_of_ble_eq_true rfl⟩) (ptV hG (hz.kept hS) hP (ci := 2) rfl rfl rfl) rfl rfl hl.1 rfl (lv_room (Nat.le_of_ble_eq_true rfl)) dX2_tableToFill_17 ⟨Nat.le_of_ble_eq_true rfl, Nat.le_of_ble_eq_true rfl⟩) hS (fun _ _ h => h.elim) (fun _ h => h.elim) (fun _ _ h => h.elim) (fun E ce q9 u t H1 locs1 ht _ _ hE _ _ hS1 hce hcv hcl => vx_out (fun x h => (hnt x h).elim) hlocks hce hcv hcl (fun t9 h9 _ => ⟨(), trivial, hE.trans (congrArg xn ef.symm), hS1.F h9⟩) hS1.2.2 (Nat.le_refl _) (Nat.le_refl _)) (fun u ra t H1 locs1 ht hvm h hb9 hz1 hk1 hS1 => h.elim)
  · have ef : f_X2_tableToFill_x p1 = 1 := by rw [f_X2_tableToFill_x, if_pos c_2]
    obtain ⟨sa, hsa⟩ := hz.2.2.1 (225, "the merged table is filled by merging alone") (List.mem_of_getElem? (i := 0) rfl)
    exact vx_throwS (own := RX2) (cls := "java/lang/IndexOutOfBoundsException") (text := "the merged table is filled by merging alone") (names := xnm) (ik := 220) (is := 225) (ic := 224) (A := nA) hx hb hlt hown (by decide) (by decide) (hts (.classLink RX2 220 "java/lang/IndexOutOfBoundsException") (List.mem_of_getElem? (i := 1) rfl)) (hts (.initialized "java/lang/IndexOutOfBoundsException") (List.mem_of_getElem? (i := 2) rfl)) hsa (vx_hat (fun w h => hts w (xin_X2_tableToFill_IO w h)) xb_IO (hz.xb (X := "java/lang/IndexOutOfBoundsException") (by decide))) (xg_IO) hz.1 hz.2.1 hS (hl.1.trans hml.symm) dX2_tableToFill_5 dX2_tableToFill_8 dX2_tableToFill_9 dX2_tableToFill_11 dX2_tableToFill_14 (fun x h => (hnt x h).elim) (Nat.le_of_ble_eq_true rfl) (Nat.le_of_ble_eq_true rfl) (Nat.le_of_ble_eq_true rfl) (Nat.le_of_ble_eq_true rfl) hlocks (fun t _ hz1 hk1 => ⟨(), trivial, by rw [ef]; rfl, ⟨Nat.le_trans hS.1 hz1, fun q h1 h2 => (hk1 q (Nat.lt_of_lt_of_le h1 hS.1)).trans (hS.2.1 q h1 h2)⟩⟩) hS.2.2 (Nat.le_refl _) (Nat.le_refl _)
theorem tf_x {p1 : Int32} (h0 : ¬ p1 = 0) (h1 : ¬ p1 = 1) (h2 : ¬ p1 = 2) : f_X2_tableToFill_x p1 = 1 := by
  rw [f_X2_tableToFill_x]
  by_cases h3 : p1 = 3
  · rw [if_pos h3]
  · rw [if_neg h3, if_neg h0, if_neg h1, if_neg h2]
theorem uin_X2_sideTable_X2 : ∀ w ∈ wsX20, w ∈ wsX2_sideTable := fun _ h => List.mem_cons_of_mem _ (List.mem_append_left _ (List.mem_append_right _ h))
set_option maxHeartbeats 4000000 in
set_option maxRecDepth 100000 in
theorem k_X2_sideTable_1 (l : Launch) (D : va_G) (cyI cyZ : ClassId) (ad : Nat → Nat) (zb : Tr) (zo : Tr) (zt : Tr) (zm : Tr) (zu : Nat → Int32) (zr : Nat → Int32) (zl : Lr) (zf : Int32) (p1 : Int32) (h0 : p1 = 1) : Met l yX2_sideTable wsX2_sideTable ({ frames := 0, cells := 0, slots := 0, locals := 0 } : Room) (pcP D cyI cyZ [.ref (ad 0), .int p1] (wZ cyI cyZ ad zb zo zt zm zu zr zl zf)) (qR (ad 4)) 0 0 nA := by
  refine Met.ofW (cc := cX2_sideTable) (maxL := 2) (ret := (some (.object "TableSplice$Table"))) (by decide) rfl ?_
  intro p e s m args below meth c s₁ B hml hv
  obtain ⟨rfl, hP, hG⟩ := hv
  have hx := B.exec
  have hb := B.bytes
  have hr := B.returns
  have hts := atoms_spec (ws := wsX2_sideTable) B.pre
  have hown : s.vm.findClass RX2 = some m.cls := findClass_of_methodNamed B.named
  have hlocks := B.notSynchronized
  have hS : va_S nA s.heap s.heap [] := va_S.rf
  have hl := lv_entry ([.ref (ad 0), .int p1]) (n := 2) (Nat.le_of_ble_eq_true rfl)
  rw [lg_entry_eq]
  generalize (lg_sl ([.ref (ad 0), .int p1]) ++ List.replicate (2 - (lg_sl ([.ref (ad 0), .int p1])).length) Slot.unset).toArray = ls at hl ⊢
  have hl : lv_has ls 2 [(0, .ref (ad 0)), (1, .int p1)] := hl
  have hP : va_P D vwCl (wZ cyI cyZ ad zb zo zt zm zu zr zl zf) s.heap := hP
  refine lv_iload_n hx hb dX2_sideTable_0 rfl (lv_at hl 1 rfl) ?_
  refine lv_iconst (v := 1) hx hb dX2_sideTable_1 (by decide) ?_
  refine lv_icmp_eq (tgt := 20) hx hb dX2_sideTable_2 (by decide) (fun c_2 => ?_) (fun c_2 => ?_)
  · refine lv_iload_n hx hb dX2_sideTable_20 rfl (lv_at hl 1 rfl) ?_
    refine lv_iconst (v := 1) hx hb dX2_sideTable_21 (by decide) ?_
    refine lv_icmp_ne (tgt := 32) hx hb dX2_sideTable_22 (by decide) (fun c_22 => ?_) (fun c_22 => ?_)
    · exact absurd (by rw [h0] <;> decide) c_22
    · refine lv_aload_n hx hb dX2_sideTable_25 rfl (lv_at hl 0 rfl) ?_
      refine va_get (D := D) (ci := 2) (v := .ref (ad 4)) (C := RX2) (T := TX2) (N := 8) hx hb hts uin_X2_sideTable_X2 hown hG.1 hP 0 rfl rfl 1 (by decide) (hts (.fieldLink RX2 16 "TableSplice" "ours" "LTableSplice$Table;") (List.mem_of_getElem? (i := 3) rfl)) (fun _ h9 => h9) rfl dX2_sideTable_26 ?_
      refine lv_goto (tgt := 36) hx hb dX2_sideTable_29 (by decide) ?_
      exact W.aret (v := .ref (ad 4)) hx hb hr (Or.inl ⟨_, rfl⟩) (Or.inr ⟨_, rfl⟩) (fun t ht hW => ⟨⟨(), (ad 4), rfl, trivial, rfl⟩, hS.F ht⟩) hS.2.2 dX2_sideTable_36
  · exact absurd (by rw [h0] <;> decide) c_2

set_option maxHeartbeats 4000000 in
set_option maxRecDepth 100000 in
theorem k_X2_sideTable_2 (l : Launch) (D : va_G) (cyI cyZ : ClassId) (ad : Nat → Nat) (zb : Tr) (zo : Tr) (zt : Tr) (zm : Tr) (zu : Nat → Int32) (zr : Nat → Int32) (zl : Lr) (zf : Int32) (p1 : Int32) (h0 : p1 = 2) : Met l yX2_sideTable wsX2_sideTable ({ frames := 0, cells := 0, slots := 0, locals := 0 } : Room) (pcP D cyI cyZ [.ref (ad 0), .int p1] (wZ cyI cyZ ad zb zo zt zm zu zr zl zf)) (qR (ad 7)) 0 0 nA := by
  refine Met.ofW (cc := cX2_sideTable) (maxL := 2) (ret := (some (.object "TableSplice$Table"))) (by decide) rfl ?_
  intro p e s m args below meth c s₁ B hml hv
  obtain ⟨rfl, hP, hG⟩ := hv
  have hx := B.exec
  have hb := B.bytes
  have hr := B.returns
  have hts := atoms_spec (ws := wsX2_sideTable) B.pre
  have hown : s.vm.findClass RX2 = some m.cls := findClass_of_methodNamed B.named
  have hlocks := B.notSynchronized
  have hS : va_S nA s.heap s.heap [] := va_S.rf
  have hl := lv_entry ([.ref (ad 0), .int p1]) (n := 2) (Nat.le_of_ble_eq_true rfl)
  rw [lg_entry_eq]
  generalize (lg_sl ([.ref (ad 0), .int p1]) ++ List.replicate (2 - (lg_sl ([.ref (ad 0), .int p1])).length) Slot.unset).toArray = ls at hl ⊢
  have hl : lv_has ls 2 [(0, .ref (ad 0)), (1, .int p1)] := hl
  have hP : va_P D vwCl (wZ cyI cyZ ad zb zo zt zm zu zr zl zf) s.heap := hP
  refine lv_iload_n hx hb dX2_sideTable_0 rfl (lv_at hl 1 rfl) ?_
  refine lv_iconst (v := 1) hx hb dX2_sideTable_1 (by decide) ?_
  refine lv_icmp_eq (tgt := 20) hx hb dX2_sideTable_2 (by decide) (fun c_2 => ?_) (fun c_2 => ?_)
  · exact absurd c_2 (by rw [h0] <;> decide)
  · refine lv_iload_n hx hb dX2_sideTable_5 rfl (lv_at hl 1 rfl) ?_
    refine lv_iconst (v := 2) hx hb dX2_sideTable_6 (by decide) ?_
    refine lv_icmp_eq (tgt := 20) hx hb dX2_sideTable_7 (by decide) (fun c_7 => ?_) (fun c_7 => ?_)
    · refine lv_iload_n hx hb dX2_sideTable_20 rfl (lv_at hl 1 rfl) ?_
      refine lv_iconst (v := 1) hx hb dX2_sideTable_21 (by decide) ?_
      refine lv_icmp_ne (tgt := 32) hx hb dX2_sideTable_22 (by decide) (fun c_22 => ?_) (fun c_22 => ?_)
      · refine lv_aload_n hx hb dX2_sideTable_32 rfl (lv_at hl 0 rfl) ?_
        refine va_get (D := D) (ci := 2) (v := .ref (ad 7)) (C := RX2) (T := TX2) (N := 8) hx hb hts uin_X2_sideTable_X2 hown hG.1 hP 0 rfl rfl 2 (by decide) (hts (.fieldLink RX2 19 "TableSplice" "theirs" "LTableSplice$Table;") (List.mem_of_getElem? (i := 4) rfl)) (fun _ h9 => h9) rfl dX2_sideTable_33 ?_
        exact W.aret (v := .ref (ad 7)) hx hb hr (Or.inl ⟨_, rfl⟩) (Or.inr ⟨_, rfl⟩) (fun t ht hW => ⟨⟨(), (ad 7), rfl, trivial, rfl⟩, hS.F ht⟩) hS.2.2 dX2_sideTable_36
      · exact absurd c_22 (by rw [h0] <;> decide)
    · exact absurd (by rw [h0] <;> decide) c_7
def f_X2_sideTable_x (p1 : Int32) : Nat := if p1 = 1 then 0 else (if p1 = 2 then 0 else 1)
theorem xin_X2_sideTable_IO : ∀ w ∈ (vx_atS RX2 224 "java/lang/IndexOutOfBoundsException" ["java/lang/RuntimeException", "java/lang/Exception"]).filter goodWord, w ∈ wsX2_sideTable := fun _ h => List.mem_cons_of_mem _ (List.mem_append_right _ h)
set_option maxHeartbeats 4000000 in
set_option maxRecDepth 100000 in
theorem t_X2_sideTable (l : Launch) (hlt : l.stackTraces = false) (D : va_G) (cyI cyZ : ClassId) (ad : Nat → Nat) (zb : Tr) (zo : Tr) (zt : Tr) (zm : Tr) (zu : Nat → Int32) (zr : Nat → Int32) (zl : Lr) (zf : Int32) (p1 : Int32) (hx9 : ¬ f_X2_sideTable_x p1 = 0) : vx_Met l yX2_sideTable wsX2_sideTable ({ frames := 6, cells := 1, slots := 6, locals := 100 } : Room) (pcT D cyI cyZ [.ref (ad 0), .int p1] (wZ cyI cyZ ad zb zo zt zm zu zr zl zf)) qFr (xX (f_X2_sideTable_x p1)) 1 6 nA := by
  refine vx_ofW (cc := cX2_sideTable) (maxL := 2) (ret := (some (.object "TableSplice$Table"))) (by decide) rfl ?_
  intro p e s m args below meth c s₁ B hml hnt hv
  obtain ⟨rfl, hP, hG, hz⟩ := hv
  have hx := B.exec
  have hb := B.bytes
  have hr := B.returns
  have hts := atoms_spec (ws := wsX2_sideTable) B.pre
  have hown : s.vm.findClass RX2 = some m.cls := findClass_of_methodNamed B.named
  have hlocks := B.notSynchronized
  have hS : va_S nA s.heap s.heap [] := va_S.rf
  have hl := lv_entry ([.ref (ad 0), .int p1]) (n := 2) (Nat.le_of_ble_eq_true rfl)
  rw [lg_entry_eq]
  generalize (lg_sl ([.ref (ad 0), .int p1]) ++ List.replicate (2 - (lg_sl ([.ref (ad 0), .int p1])).length) Slot.unset).toArray = ls at hl ⊢
  have hl : lv_has ls 2 [(0, .ref (ad 0)), (1, .int p1)] := hl
  have hP : va_P D vwCl (wZ cyI cyZ ad zb zo zt zm zu zr zl zf) s.heap := hP
  refine lv_iload_n hx hb dX2_sideTable_0 rfl (lv_at hl 1 rfl) ?_
  refine lv_iconst (v := 1) hx hb dX2_sideTable_1 (by decide) ?_
  refine lv_icmp_eq (tgt := 20) hx hb dX2_sideTable_2 (by decide) (fun c_2 => ?_) (fun c_2 => ?_)
  · refine lv_iload_n hx hb dX2_sideTable_20 rfl (lv_at hl 1 rfl) ?_
    refine lv_iconst (v := 1) hx hb dX2_sideTable_21 (by decide) ?_
    refine lv_icmp_ne (tgt := 32) hx hb dX2_sideTable_22 (by decide) (fun c_22 => ?_) (fun c_22 => ?_)
    · exact absurd c_2 c_22
    · refine lv_aload_n hx hb dX2_sideTable_25 rfl (lv_at hl 0 rfl) ?_
      refine va_get (D := D) (ci := 2) (v := .ref (ad 4)) (C := RX2) (T := TX2) (N := 8) hx hb hts uin_X2_sideTable_X2 hown hG.1 hP 0 rfl rfl 1 (by decide) (hts (.fieldLink RX2 16 "TableSplice" "ours" "LTableSplice$Table;") (List.mem_of_getElem? (i := 3) rfl)) (fun _ h9 => h9) rfl dX2_sideTable_26 ?_
      refine lv_goto (tgt := 36) hx hb dX2_sideTable_29 (by decide) ?_
      exact absurd (by rw [f_X2_sideTable_x, if_pos c_2]) hx9
  · refine lv_iload_n hx hb dX2_sideTable_5 rfl (lv_at hl 1 rfl) ?_
    refine lv_iconst (v := 2) hx hb dX2_sideTable_6 (by decide) ?_
    refine lv_icmp_eq (tgt := 20) hx hb dX2_sideTable_7 (by decide) (fun c_7 => ?_) (fun c_7 => ?_)
    · refine lv_iload_n hx hb dX2_sideTable_20 rfl (lv_at hl 1 rfl) ?_
      refine lv_iconst (v := 1) hx hb dX2_sideTable_21 (by decide) ?_
      refine lv_icmp_ne (tgt := 32) hx hb dX2_sideTable_22 (by decide) (fun c_22 => ?_) (fun c_22 => ?_)
      · refine lv_aload_n hx hb dX2_sideTable_32 rfl (lv_at hl 0 rfl) ?_
        refine va_get (D := D) (ci := 2) (v := .ref (ad 7)) (C := RX2) (T := TX2) (N := 8) hx hb hts uin_X2_sideTable_X2 hown hG.1 hP 0 rfl rfl 2 (by decide) (hts (.fieldLink RX2 19 "TableSplice" "theirs" "LTableSplice$Table;") (List.mem_of_getElem? (i := 4) rfl)) (fun _ h9 => h9) rfl dX2_sideTable_33 ?_
        exact absurd (by rw [f_X2_sideTable_x, if_neg c_2, if_pos c_7]) hx9
      · exact absurd c_22 c_2
    · have ef : f_X2_sideTable_x p1 = 1 := by rw [f_X2_sideTable_x, if_neg c_2, if_neg c_7]
      obtain ⟨sa, hsa⟩ := hz.2.2.1 (227, "no such side") (List.mem_of_getElem? (i := 11) rfl)
      exact vx_throwS (own := RX2) (cls := "java/lang/IndexOutOfBoundsException") (text := "no such side") (names := xnm) (ik := 220) (is := 227) (ic := 224) (A := nA) hx hb hlt hown (by decide) (by decide) (hts (.classLink RX2 220 "java/lang/IndexOutOfBoundsException") (List.mem_of_getElem? (i := 1) rfl)) (hts (.initialized "java/lang/IndexOutOfBoundsException") (List.mem_of_getElem? (i := 2) rfl)) hsa (vx_hat (fun w h => hts w (xin_X2_sideTable_IO w h)) xb_IO (hz.xb (X := "java/lang/IndexOutOfBoundsException") (by decide))) (xg_IO) hz.1 hz.2.1 hS (hl.1.trans hml.symm) dX2_sideTable_10 dX2_sideTable_13 dX2_sideTable_14 dX2_sideTable_16 dX2_sideTable_19 (fun x h => (hnt x h).elim) (Nat.le_of_ble_eq_true rfl) (Nat.le_of_ble_eq_true rfl) (Nat.le_of_ble_eq_true rfl) (Nat.le_of_ble_eq_true rfl) hlocks (fun t _ hz1 hk1 => ⟨(), trivial, by rw [ef]; rfl, ⟨Nat.le_trans hS.1 hz1, fun q h1 h2 => (hk1 q (Nat.lt_of_lt_of_le h1 hS.1)).trans (hS.2.1 q h1 h2)⟩⟩) hS.2.2 (Nat.le_refl _) (Nat.le_refl _)
theorem st_x {p1 : Int32} (h1 : ¬ p1 = 1) (h2 : ¬ p1 = 2) : f_X2_sideTable_x p1 = 1 := by
  rw [f_X2_sideTable_x, if_neg h1, if_neg h2]
