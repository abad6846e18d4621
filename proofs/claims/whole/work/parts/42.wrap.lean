/-! ===== the law's wrappers: the world of the class and the row that takes an answer ===== -/
abbrev wO (cyI cyZ cyJ : ClassId) (a : Nat → Nat) (zb zo zt zm : Tr) (zu zr : Nat → Int32) (zl : Lr) (zf : Int32) (oo : Nat) (go : Nat → Int64) : va_W := wZ cyI cyZ a zb zo zt zm zu zr zl zf ++ [(oo, .inl (cyJ, 1, .inr (.inl go)))]
def gL (D : va_G) (cyI cyZ cyJ : ClassId) (U : State) : Prop := gP D cyI cyZ U ∧ va_K D vwCl [(cyJ, .long)] U
theorem gL.same {D : va_G} {cyI cyZ cyJ : ClassId} {u U : State} (h : u.vm = U.vm) (q : gL D cyI cyZ cyJ u) : gL D cyI cyZ cyJ U := ⟨gP.same h q.1, va_K.moved (by rw [h]; exact Vm.Alike.refl _) q.2⟩
theorem gL.warm {D : va_G} {cyI cyZ cyJ : ClassId} {s U : State} (hW : s.WarmedH U.vm) (q : gL D cyI cyZ cyJ s) : gL D cyI cyZ cyJ U := ⟨gP.warm hW q.1, va_K.moved hW.alike q.2⟩
/-- which of the three is no other -/
def zn (U : State) : Prop := va_Nc "java/lang/IllegalArgumentException" "java/lang/IndexOutOfBoundsException" U ∧ va_Nc "java/lang/IllegalStateException" "java/lang/IndexOutOfBoundsException" U ∧ va_Nc "java/lang/IllegalStateException" "java/lang/IllegalArgumentException" U
theorem zn.moved {u U : State} (h : u.vm.Alike U.vm) (q : zn u) : zn U := ⟨va_Nc.moved h q.1, va_Nc.moved h q.2.1, va_Nc.moved h q.2.2⟩
def pcO (D : va_G) (cyI cyZ cyJ : ClassId) (sz : Nat) (av : List Value) (ws : va_W) : Array Value → State → Prop := va_Pc av (fun U => U.heap.size = sz ∧ va_P D vwCl ws U.heap ∧ gL D cyI cyZ cyJ U ∧ (zq U ∧ zn U) ∧ va_D (fun _ => True) ws)
theorem pcO_blind {D : va_G} {cyI cyZ cyJ : ClassId} {sz : Nat} {av : List Value} {ws : va_W} : FrameBlind (pcO D cyI cyZ cyJ sz av ws) := fun _ U g mk q => ⟨q.1, q.2.1, q.2.2.1, gL.same (u := U) (U := U.calling g mk _) rfl q.2.2.2.1, ⟨zq.same (u := U) (U := U.calling g mk _) rfl rfl q.2.2.2.2.1.1, zn.moved (u := U) (U := U.calling g mk _) (Vm.Alike.refl U.vm) q.2.2.2.2.1.2⟩, q.2.2.2.2.2⟩
theorem poS {s : State} {H : Heap} {D : va_G} {cyI cyZ cyJ : ClassId} {wc : va_W} {As : List Value} {A : Nat → Prop} (hG : gL D cyI cyZ cyJ s) (hz : zqH s H) (hn : zn s) (hP : va_P D vwCl wc H) (hD : va_D A wc) : PreS s H (pcO D cyI cyZ cyJ H.size As wc) As := ⟨pcO_blind, fun U hU hW => ⟨rfl, by rw [hU], by rw [hU]; exact hP, hG.warm hW, ⟨hz.warm hW hU, hn.moved hW.alike⟩, hD.weaken (fun _ _ _ _ => trivial)⟩⟩
theorem ps_nil {P : ExceptionTableEntry → Prop} : ∀ z ∈ ([] : List ExceptionTableEntry), P z := fun _ h => absurd h List.not_mem_nil
theorem ps_cons {P : ExceptionTableEntry → Prop} {x : ExceptionTableEntry} {L : List ExceptionTableEntry} (h : P x) (t : ∀ z ∈ L, P z) : ∀ z ∈ x :: L, P z := fun z hz => (List.mem_cons.mp hz).elim (fun e => by rw [e]; exact h) (t z)
/-! what a call can throw -/
theorem x_rcn (x : Int32) : f_X2_requireColumnNumber_x x = 0 ∨ f_X2_requireColumnNumber_x x = 1 := by rw [f_X2_requireColumnNumber_x]; split; exact Or.inr rfl; exact Or.inl rfl
theorem x_rk (x : Int32) : f_X2_requireKey_x x = 0 ∨ f_X2_requireKey_x x = 1 := by rw [f_X2_requireKey_x]; split; exact Or.inr rfl; exact Or.inl rfl
theorem x_rco (t : Tr) (x : Int32) : f_X2_requireColumnOf_x t x = 0 ∨ f_X2_requireColumnOf_x t x = 1 := by rw [f_X2_requireColumnOf_x]; split; exact Or.inr rfl; exact Or.inl rfl
theorem x_rro (t : Tr) (x : Int32) : f_X2_requireRowOf_x t x = 0 ∨ f_X2_requireRowOf_x t x = 1 := by rw [f_X2_requireRowOf_x]; split; exact Or.inr rfl; exact Or.inl rfl
theorem x_rcf (z : Lr) (x : Int32) : f_X2_requireConflict_x z x = 0 ∨ f_X2_requireConflict_x z x = 1 := by rw [f_X2_requireConflict_x]; split; exact Or.inr rfl; exact Or.inl rfl
theorem x_rn (x : Int32) : f_X2_requireName_x x = 0 ∨ f_X2_requireName_x x = 2 := by
  rw [f_X2_requireName_x]; split
  · exact Or.inr rfl
  · split
    · exact Or.inl rfl
    · exact Or.inr rfl
theorem x_addColumn {zb : Tr} {zo : Tr} {zt : Tr} {p1 : Int32} {p2 : Int32} {p3 : Int32} : f_X2_addColumn_x zb zo zt p1 p2 p3 = 0 ∨ f_X2_addColumn_x zb zo zt p1 p2 p3 = 1 ∨ f_X2_addColumn_x zb zo zt p1 p2 p3 = 2 ∨ f_X2_addColumn_x zb zo zt p1 p2 p3 = 3 := by
  rw [f_X2_addColumn_x]
  repeat' split
  all_goals first | exact Or.inl (rfl) | exact Or.inr (Or.inl (rfl)) | exact Or.inr (Or.inr (Or.inl (rfl))) | exact Or.inr (Or.inr (Or.inr (rfl))) | exact (x_rcn _).elim (fun h => Or.inl (h)) (fun h => Or.inr (Or.inl (h))) | exact (x_rk _).elim (fun h => Or.inl (h)) (fun h => Or.inr (Or.inl (h))) | exact (x_rco _ _).elim (fun h => Or.inl (h)) (fun h => Or.inr (Or.inl (h))) | exact (x_rro _ _).elim (fun h => Or.inl (h)) (fun h => Or.inr (Or.inl (h))) | exact (x_rcf _ _).elim (fun h => Or.inl (h)) (fun h => Or.inr (Or.inl (h))) | exact (x_rn _).elim (fun h => Or.inl (h)) (fun h => Or.inr (Or.inr (Or.inl (h))))
set_option maxHeartbeats 4000000 in
set_option maxRecDepth 100000 in
theorem k_L_addColumn (l : Launch) (D : va_G) (cyI cyZ cyJ : ClassId) (ad : Nat → Nat) (oo : Nat) (zb : Tr) (zo : Tr) (zt : Tr) (zm : Tr) (zu : Nat → Int32) (zr : Nat → Int32) (zl : Lr) (zf : Int32) (go : Nat → Int64) (p1 : Int32) (p2 : Int32) (p3 : Int32) (A : Nat → Prop) (sz : Nat) (hAe : A = va_A (wO cyI cyZ cyJ ad zb zo zt zm zu zr zl zf oo go) sz) (hx9 : f_X2_addColumn_x zb zo zt p1 p2 p3 = 0) : Met l yL_addColumn wsL_addColumn ({ frames := 3, cells := 0, slots := 0, locals := 66 } : Room) (pcO D cyI cyZ cyJ sz [.ref (ad 0), .int p1, .int p2, .int p3, .ref oo] (wO cyI cyZ cyJ ad zb zo zt zm zu zr zl zf oo go)) (mI D A (wO cyI cyZ cyJ ad (f_X2_addColumn zb zo zt zf p1 p2 p3).2.1 (f_X2_addColumn zb zo zt zf p1 p2 p3).2.2.1 (f_X2_addColumn zb zo zt zf p1 p2 p3).2.2.2.1 zm zu zr zl (f_X2_addColumn zb zo zt zf p1 p2 p3).2.2.2.2 oo (vp_updL go (0 : Int32).toNatClampNeg ((f_X2_addColumn zb zo zt zf p1 p2 p3).1).toInt64)) 0) 0 0 A := by
  refine va_MetW (cc := cL_addColumn) (maxL := 6) (ret := some .int) (hh := [(0, 12, 15, 13), (0, 12, 19, 15), (0, 12, 23, 17)]) (by decide) rfl ?_
  intro p e s m args below meth c s₁ B hml hv
  obtain ⟨rfl, hsz, hP, hG, ⟨hz, hn⟩, hD0⟩ := hv
  have hx := B.exec
  have hb := B.bytes
  have hr := B.returns
  have hts := atoms_spec (ws := wsL_addColumn) B.pre
  have hown : s.vm.findClass RL = some m.cls := findClass_of_methodNamed B.named
  subst hsz
  have hD : va_D A (wO cyI cyZ cyJ ad zb zo zt zm zu zr zl zf oo go) := by rw [hAe]; exact hD0.self
  have hA : ∀ q : Nat, s.heap.size ≤ q → A q := fun q h => by rw [hAe]; exact Or.inr h
  clear hAe hD0
  have hS : va_S A s.heap s.heap [] := va_S.rf
  have hl := lv_entry ([.ref (ad 0), .int p1, .int p2, .int p3, .ref oo]) (n := 6) (Nat.le_of_ble_eq_true rfl)
  rw [lg_entry_eq]
  generalize (lg_sl ([.ref (ad 0), .int p1, .int p2, .int p3, .ref oo]) ++ List.replicate (6 - (lg_sl ([.ref (ad 0), .int p1, .int p2, .int p3, .ref oo])).length) Slot.unset).toArray = ls at hl ⊢
  have hl : lv_has ls 6 [(0, .ref (ad 0)), (1, .int p1), (2, .int p2), (3, .int p3), (4, .ref oo)] := hl
  have hP : va_P D vwCl (wO cyI cyZ cyJ ad zb zo zt zm zu zr zl zf oo go) s.heap := hP
  refine lv_aload hx hb dL_addColumn_0 (lv_at hl 4 rfl) ?_
  refine lv_iconst (v := 0) hx hb dL_addColumn_2 (by decide) ?_
  refine lv_aload_n hx hb dL_addColumn_3 rfl (lv_at hl 0 rfl) ?_
  refine lv_iload_n hx hb dL_addColumn_4 rfl (lv_at hl 1 rfl) ?_
  refine lv_iload_n hx hb dL_addColumn_5 rfl (lv_at hl 2 rfl) ?_
  refine lv_iload_n hx hb dL_addColumn_6 rfl (lv_at hl 3 rfl) ?_
  refine mr_i (va_runV (As := [.int p1, .int p2, .int p3]) (rest := [.int 0, .ref oo]) ⟨hx, hb, hml, hown, hts⟩ (k_X2_addColumn l D cyI cyZ ad zb zo zt zm zu zr zl zf p1 p2 p3 _ _ rfl hx9) (cwV 3 hts gL_addColumn_X2_addColumn rfl rfl rfl (by decide +kernel) ⟨Nat.le_of_ble_eq_true rfl, Nat.le_of_ble_eq_true rfl⟩) (pmV hG.1 (hP.sub (ws' := wZ cyI cyZ ad zb zo zt zm zu zr zl zf) [0, 1, 2, 3, 4, 5, 6, 7, 8, 9, 10, 11, 12, 13, 14, 15, 16, 17, 18, 19] rfl) (hD.sub (ws' := wZ cyI cyZ ad zb zo zt zm zu zr zl zf) [0, 1, 2, 3, 4, 5, 6, 7, 8, 9, 10, 11, 12, 13, 14, 15, 16, 17, 18, 19] (by decide) rfl) (ci := 2) rfl rfl rfl) rfl rfl hl.1 rfl (lv_room (Nat.le_of_ble_eq_true rfl)) dL_addColumn_7 ⟨Nat.zero_le _, Nat.zero_le _⟩) hP hD hS hA [0, 1, 2, 3, 4, 5, 6, 7, 8, 9, 10, 11, 12, 13, 14, 15, 16, 17, 18, 19] [20] [1, 2, 3, 4, 5, 6, 7, 8, 9, 10, 11, 12, 13, 14, 15, 16, 17, 18, 19, 20, 0] rfl rfl (by decide) (by decide) (by decide) (w2 := wO cyI cyZ cyJ ad (f_X2_addColumn zb zo zt zf p1 p2 p3).2.1 (f_X2_addColumn zb zo zt zf p1 p2 p3).2.2.1 (f_X2_addColumn zb zo zt zf p1 p2 p3).2.2.2.1 zm zu zr zl (f_X2_addColumn zb zo zt zf p1 p2 p3).2.2.2.2 oo go) rfl (fun H locs hP hD hS => ?_)
  have hP : va_P D vwCl (wO cyI cyZ cyJ ad (f_X2_addColumn zb zo zt zf p1 p2 p3).2.1 (f_X2_addColumn zb zo zt zf p1 p2 p3).2.2.1 (f_X2_addColumn zb zo zt zf p1 p2 p3).2.2.2.1 zm zu zr zl (f_X2_addColumn zb zo zt zf p1 p2 p3).2.2.2.2 oo go) H := hP
  have hD : va_D A (wO cyI cyZ cyJ ad (f_X2_addColumn zb zo zt zf p1 p2 p3).2.1 (f_X2_addColumn zb zo zt zf p1 p2 p3).2.2.1 (f_X2_addColumn zb zo zt zf p1 p2 p3).2.2.2.1 zm zu zr zl (f_X2_addColumn zb zo zt zf p1 p2 p3).2.2.2.2 oo go) := hD
  refine lv_i2l (v := ((f_X2_addColumn zb zo zt zf p1 p2 p3).1).toInt64) hx hb dL_addColumn_10 rfl ?_
  refine va_last hx hb hG.2 hP hD hS 20 0 rfl rfl (vp_in_nI (n := 0) (by decide) (by decide)) dL_addColumn_11 (fun H locs hP hD hS => ?_)
  refine lv_goto (tgt := 27) hx hb dL_addColumn_12 (by decide) ?_
  refine lv_iconst (v := 0) hx hb dL_addColumn_27 (by decide) ?_
  have hP : va_P D vwCl (wO cyI cyZ cyJ ad (f_X2_addColumn zb zo zt zf p1 p2 p3).2.1 (f_X2_addColumn zb zo zt zf p1 p2 p3).2.2.1 (f_X2_addColumn zb zo zt zf p1 p2 p3).2.2.2.1 zm zu zr zl (f_X2_addColumn zb zo zt zf p1 p2 p3).2.2.2.2 oo (vp_updL go (0 : Int32).toNatClampNeg ((f_X2_addColumn zb zo zt zf p1 p2 p3).1).toInt64)) H := hP
  have hD : va_D A (wO cyI cyZ cyJ ad (f_X2_addColumn zb zo zt zf p1 p2 p3).2.1 (f_X2_addColumn zb zo zt zf p1 p2 p3).2.2.1 (f_X2_addColumn zb zo zt zf p1 p2 p3).2.2.2.1 zm zu zr zl (f_X2_addColumn zb zo zt zf p1 p2 p3).2.2.2.2 oo (vp_updL go (0 : Int32).toNatClampNeg ((f_X2_addColumn zb zo zt zf p1 p2 p3).1).toInt64)) := hD
  exact W.iret (v := 0) hx hb hr (fun t ht hW => ⟨⟨0, (), rfl, rfl, by rw [ht]; exact hP, hD⟩, hS.F ht⟩) hS.2.2 dL_addColumn_28
set_option maxHeartbeats 4000000 in
set_option maxRecDepth 100000 in
theorem t_L_addColumn_1 (l : Launch) (hlt : l.stackTraces = false) (D : va_G) (cyI cyZ cyJ : ClassId) (ad : Nat → Nat) (oo : Nat) (zb : Tr) (zo : Tr) (zt : Tr) (zm : Tr) (zu : Nat → Int32) (zr : Nat → Int32) (zl : Lr) (zf : Int32) (go : Nat → Int64) (p1 : Int32) (p2 : Int32) (p3 : Int32) (A : Nat → Prop) (sz : Nat) (hAe : A = va_A (wO cyI cyZ cyJ ad zb zo zt zm zu zr zl zf oo go) sz) (hx9 : f_X2_addColumn_x zb zo zt p1 p2 p3 = 1) : Met l yL_addColumn wsL_addColumn ({ frames := 9, cells := 1, slots := 6, locals := 166 } : Room) (pcO D cyI cyZ cyJ sz [.ref (ad 0), .int p1, .int p2, .int p3, .ref oo] (wO cyI cyZ cyJ ad zb zo zt zm zu zr zl zf oo go)) (mI D A (wO cyI cyZ cyJ ad zb zo zt zm zu zr zl zf oo go) 1) 1 6 A := by
  refine va_MetW (cc := cL_addColumn) (maxL := 6) (ret := some .int) (hh := [(0, 12, 15, 13), (0, 12, 19, 15), (0, 12, 23, 17)]) (by decide) rfl ?_
  intro p e s m args below meth c s₁ B hml hv
  obtain ⟨rfl, hsz, hP, hG, ⟨hz, hn⟩, hD0⟩ := hv
  have hx := B.exec
  have hb := B.bytes
  have hr := B.returns
  have hts := atoms_spec (ws := wsL_addColumn) B.pre
  have hown : s.vm.findClass RL = some m.cls := findClass_of_methodNamed B.named
  subst hsz
  have hD : va_D A (wO cyI cyZ cyJ ad zb zo zt zm zu zr zl zf oo go) := by rw [hAe]; exact hD0.self
  have hA : ∀ q : Nat, s.heap.size ≤ q → A q := fun q h => by rw [hAe]; exact Or.inr h
  clear hAe hD0
  have hS : va_S A s.heap s.heap [] := va_S.rf
  have hl := lv_entry ([.ref (ad 0), .int p1, .int p2, .int p3, .ref oo]) (n := 6) (Nat.le_of_ble_eq_true rfl)
  rw [lg_entry_eq]
  generalize (lg_sl ([.ref (ad 0), .int p1, .int p2, .int p3, .ref oo]) ++ List.replicate (6 - (lg_sl ([.ref (ad 0), .int p1, .int p2, .int p3, .ref oo])).length) Slot.unset).toArray = ls at hl ⊢
  have hl : lv_has ls 6 [(0, .ref (ad 0)), (1, .int p1), (2, .int p2), (3, .int p3), (4, .ref oo)] := hl
  have hP : va_P D vwCl (wO cyI cyZ cyJ ad zb zo zt zm zu zr zl zf oo go) s.heap := hP
  refine lv_aload hx hb dL_addColumn_0 (lv_at hl 4 rfl) ?_
  refine lv_iconst (v := 0) hx hb dL_addColumn_2 (by decide) ?_
  refine lv_aload_n hx hb dL_addColumn_3 rfl (lv_at hl 0 rfl) ?_
  refine lv_iload_n hx hb dL_addColumn_4 rfl (lv_at hl 1 rfl) ?_
  refine lv_iload_n hx hb dL_addColumn_5 rfl (lv_at hl 2 rfl) ?_
  refine lv_iload_n hx hb dL_addColumn_6 rfl (lv_at hl 3 rfl) ?_
  refine vx_calli (vx_runV (As := [.int p1, .int p2, .int p3]) (rest := [.int 0, .ref oo]) ⟨hx, hb, hml, hown, hts⟩ (t_X2_addColumn l hlt D cyI cyZ ad zb zo zt zm zu zr zl zf p1 p2 p3 (by rw [hx9]; decide)) (cwV 3 hts gL_addColumn_X2_addColumn rfl rfl rfl (by decide +kernel) ⟨Nat.le_of_ble_eq_true rfl, Nat.le_of_ble_eq_true rfl⟩) (ptV hG.1 (hz.kept va_S.rf) (hP.sub (ws' := wZ cyI cyZ ad zb zo zt zm zu zr zl zf) [0, 1, 2, 3, 4, 5, 6, 7, 8, 9, 10, 11, 12, 13, 14, 15, 16, 17, 18, 19] rfl) (ci := 2) rfl rfl rfl) rfl rfl hl.1 rfl (lv_room (Nat.le_of_ble_eq_true rfl)) dL_addColumn_7 ⟨Nat.le_of_ble_eq_true rfl, Nat.le_of_ble_eq_true rfl⟩) hS (fun _ _ h => h.elim) (fun _ h => h.elim) (fun _ _ h => h.elim) (fun E ce q9 u t H1 locs1 ht _ _ hE _ hk1 hS1 hce hcv hcl => ?_) (fun r u t H1 locs1 ht hvm h hb9 hz1 hk1 hS1 => h.elim)
  obtain rfl : E = "java/lang/IndexOutOfBoundsException" := hE.trans (by rw [hx9]; rfl)
  have hP1 : va_P D vwCl (wO cyI cyZ cyJ ad zb zo zt zm zu zr zl zf oo go) H1 := hP.kept (fun k q hq => hk1 q.1 (hP k q hq).lt id)
  refine vx_catch (own := RL) (name := "java/lang/IndexOutOfBoundsException") hown [] (⟨0, 12, 15, 13⟩ : ExceptionTableEntry) [(⟨0, 12, 19, 15⟩ : ExceptionTableEntry), (⟨0, 12, 23, 17⟩ : ExceptionTableEntry)] ((vx_table (x := yL_addColumn) B (hts _ List.mem_cons_self)).trans rfl) ps_nil (by decide) (by decide) (hts (.classLink RL 13 "java/lang/IndexOutOfBoundsException") (List.mem_of_getElem? (i := 1) rfl)) (va_Nw.use rfl (hz.2.2.2.1 "java/lang/IndexOutOfBoundsException" (by decide))) hce hcv hcl ?_
  refine lv_astore (lv' := [(5, .ref q9), (0, .ref (ad 0))]) hx hb dL_addColumn_15 (lv_sub hl [0] rfl) (by decide) rfl (fun ls hl => ?_)
  refine lv_iconst (v := 1) hx hb dL_addColumn_17 (by decide) ?_
  exact W.iret (v := 1) hx hb hr (fun t ht hW => ⟨⟨1, (), rfl, rfl, by rw [ht]; exact hP1, hD⟩, hS1.F ht⟩) hS1.2.2 dL_addColumn_18
set_option maxHeartbeats 4000000 in
set_option maxRecDepth 100000 in
theorem t_L_addColumn_2 (l : Launch) (hlt : l.stackTraces = false) (D : va_G) (cyI cyZ cyJ : ClassId) (ad : Nat → Nat) (oo : Nat) (zb : Tr) (zo : Tr) (zt : Tr) (zm : Tr) (zu : Nat → Int32) (zr : Nat → Int32) (zl : Lr) (zf : Int32) (go : Nat → Int64) (p1 : Int32) (p2 : Int32) (p3 : Int32) (A : Nat → Prop) (sz : Nat) (hAe : A = va_A (wO cyI cyZ cyJ ad zb zo zt zm zu zr zl zf oo go) sz) (hx9 : f_X2_addColumn_x zb zo zt p1 p2 p3 = 2) : Met l yL_addColumn wsL_addColumn ({ frames := 9, cells := 1, slots := 6, locals := 166 } : Room) (pcO D cyI cyZ cyJ sz [.ref (ad 0), .int p1, .int p2, .int p3, .ref oo] (wO cyI cyZ cyJ ad zb zo zt zm zu zr zl zf oo go)) (mI D A (wO cyI cyZ cyJ ad zb zo zt zm zu zr zl zf oo go) 2) 1 6 A := by
  refine va_MetW (cc := cL_addColumn) (maxL := 6) (ret := some .int) (hh := [(0, 12, 15, 13), (0, 12, 19, 15), (0, 12, 23, 17)]) (by decide) rfl ?_
  intro p e s m args below meth c s₁ B hml hv
  obtain ⟨rfl, hsz, hP, hG, ⟨hz, hn⟩, hD0⟩ := hv
  have hx := B.exec
  have hb := B.bytes
  have hr := B.returns
  have hts := atoms_spec (ws := wsL_addColumn) B.pre
  have hown : s.vm.findClass RL = some m.cls := findClass_of_methodNamed B.named
  subst hsz
  have hD : va_D A (wO cyI cyZ cyJ ad zb zo zt zm zu zr zl zf oo go) := by rw [hAe]; exact hD0.self
  have hA : ∀ q : Nat, s.heap.size ≤ q → A q := fun q h => by rw [hAe]; exact Or.inr h
  clear hAe hD0
  have hS : va_S A s.heap s.heap [] := va_S.rf
  have hl := lv_entry ([.ref (ad 0), .int p1, .int p2, .int p3, .ref oo]) (n := 6) (Nat.le_of_ble_eq_true rfl)
  rw [lg_entry_eq]
  generalize (lg_sl ([.ref (ad 0), .int p1, .int p2, .int p3, .ref oo]) ++ List.replicate (6 - (lg_sl ([.ref (ad 0), .int p1, .int p2, .int p3, .ref oo])).length) Slot.unset).toArray = ls at hl ⊢
  have hl : lv_has ls 6 [(0, .ref (ad 0)), (1, .int p1), (2, .int p2), (3, .int p3), (4, .ref oo)] := hl
  have hP : va_P D vwCl (wO cyI cyZ cyJ ad zb zo zt zm zu zr zl zf oo go) s.heap := hP
  refine lv_aload hx hb dL_addColumn_0 (lv_at hl 4 rfl) ?_
  refine lv_iconst (v := 0) hx hb dL_addColumn_2 (by decide) ?_
  refine lv_aload_n hx hb dL_addColumn_3 rfl (lv_at hl 0 rfl) ?_
  refine lv_iload_n hx hb dL_addColumn_4 rfl (lv_at hl 1 rfl) ?_
  refine lv_iload_n hx hb dL_addColumn_5 rfl (lv_at hl 2 rfl) ?_
  refine lv_iload_n hx hb dL_addColumn_6 rfl (lv_at hl 3 rfl) ?_
  refine vx_calli (vx_runV (As := [.int p1, .int p2, .int p3]) (rest := [.int 0, .ref oo]) ⟨hx, hb, hml, hown, hts⟩ (t_X2_addColumn l hlt D cyI cyZ ad zb zo zt zm zu zr zl zf p1 p2 p3 (by rw [hx9]; decide)) (cwV 3 hts gL_addColumn_X2_addColumn rfl rfl rfl (by decide +kernel) ⟨Nat.le_of_ble_eq_true rfl, Nat.le_of_ble_eq_true rfl⟩) (ptV hG.1 (hz.kept va_S.rf) (hP.sub (ws' := wZ cyI cyZ ad zb zo zt zm zu zr zl zf) [0, 1, 2, 3, 4, 5, 6, 7, 8, 9, 10, 11, 12, 13, 14, 15, 16, 17, 18, 19] rfl) (ci := 2) rfl rfl rfl) rfl rfl hl.1 rfl (lv_room (Nat.le_of_ble_eq_true rfl)) dL_addColumn_7 ⟨Nat.le_of_ble_eq_true rfl, Nat.le_of_ble_eq_true rfl⟩) hS (fun _ _ h => h.elim) (fun _ h => h.elim) (fun _ _ h => h.elim) (fun E ce q9 u t H1 locs1 ht _ _ hE _ hk1 hS1 hce hcv hcl => ?_) (fun r u t H1 locs1 ht hvm h hb9 hz1 hk1 hS1 => h.elim)
  obtain rfl : E = "java/lang/IllegalArgumentException" := hE.trans (by rw [hx9]; rfl)
  have hP1 : va_P D vwCl (wO cyI cyZ cyJ ad zb zo zt zm zu zr zl zf oo go) H1 := hP.kept (fun k q hq => hk1 q.1 (hP k q hq).lt id)
  refine vx_catch (own := RL) (name := "java/lang/IllegalArgumentException") hown [(⟨0, 12, 15, 13⟩ : ExceptionTableEntry)] (⟨0, 12, 19, 15⟩ : ExceptionTableEntry) [(⟨0, 12, 23, 17⟩ : ExceptionTableEntry)] ((vx_table (x := yL_addColumn) B (hts _ List.mem_cons_self)).trans rfl) (ps_cons (Or.inr ⟨by decide, "java/lang/IndexOutOfBoundsException", (hts (.classLink RL 13 "java/lang/IndexOutOfBoundsException") (List.mem_of_getElem? (i := 1) rfl)), hn.1⟩) ps_nil) (by decide) (by decide) (hts (.classLink RL 15 "java/lang/IllegalArgumentException") (List.mem_of_getElem? (i := 2) rfl)) (va_Nw.use rfl (hz.2.2.2.1 "java/lang/IllegalArgumentException" (by decide))) hce hcv hcl ?_
  refine lv_astore (lv' := [(5, .ref q9), (0, .ref (ad 0))]) hx hb dL_addColumn_19 (lv_sub hl [0] rfl) (by decide) rfl (fun ls hl => ?_)
  refine lv_iconst (v := 2) hx hb dL_addColumn_21 (by decide) ?_
  exact W.iret (v := 2) hx hb hr (fun t ht hW => ⟨⟨2, (), rfl, rfl, by rw [ht]; exact hP1, hD⟩, hS1.F ht⟩) hS1.2.2 dL_addColumn_22
set_option maxHeartbeats 4000000 in
set_option maxRecDepth 100000 in
theorem t_L_addColumn_3 (l : Launch) (hlt : l.stackTraces = false) (D : va_G) (cyI cyZ cyJ : ClassId) (ad : Nat → Nat) (oo : Nat) (zb : Tr) (zo : Tr) (zt : Tr) (zm : Tr) (zu : Nat → Int32) (zr : Nat → Int32) (zl : Lr) (zf : Int32) (go : Nat → Int64) (p1 : Int32) (p2 : Int32) (p3 : Int32) (A : Nat → Prop) (sz : Nat) (hAe : A = va_A (wO cyI cyZ cyJ ad zb zo zt zm zu zr zl zf oo go) sz) (hx9 : f_X2_addColumn_x zb zo zt p1 p2 p3 = 3) : Met l yL_addColumn wsL_addColumn ({ frames := 9, cells := 1, slots := 6, locals := 166 } : Room) (pcO D cyI cyZ cyJ sz [.ref (ad 0), .int p1, .int p2, .int p3, .ref oo] (wO cyI cyZ cyJ ad zb zo zt zm zu zr zl zf oo go)) (mI D A (wO cyI cyZ cyJ ad zb zo zt zm zu zr zl zf oo go) 3) 1 6 A := by
  refine va_MetW (cc := cL_addColumn) (maxL := 6) (ret := some .int) (hh := [(0, 12, 15, 13), (0, 12, 19, 15), (0, 12, 23, 17)]) (by decide) rfl ?_
  intro p e s m args below meth c s₁ B hml hv
  obtain ⟨rfl, hsz, hP, hG, ⟨hz, hn⟩, hD0⟩ := hv
  have hx := B.exec
  have hb := B.bytes
  have hr := B.returns
  have hts := atoms_spec (ws := wsL_addColumn) B.pre
  have hown : s.vm.findClass RL = some m.cls := findClass_of_methodNamed B.named
  subst hsz
  have hD : va_D A (wO cyI cyZ cyJ ad zb zo zt zm zu zr zl zf oo go) := by rw [hAe]; exact hD0.self
  have hA : ∀ q : Nat, s.heap.size ≤ q → A q := fun q h => by rw [hAe]; exact Or.inr h
  clear hAe hD0
  have hS : va_S A s.heap s.heap [] := va_S.rf
  have hl := lv_entry ([.ref (ad 0), .int p1, .int p2, .int p3, .ref oo]) (n := 6) (Nat.le_of_ble_eq_true rfl)
  rw [lg_entry_eq]
  generalize (lg_sl ([.ref (ad 0), .int p1, .int p2, .int p3, .ref oo]) ++ List.replicate (6 - (lg_sl ([.ref (ad 0), .int p1, .int p2, .int p3, .ref oo])).length) Slot.unset).toArray = ls at hl ⊢
  have hl : lv_has ls 6 [(0, .ref (ad 0)), (1, .int p1), (2, .int p2), (3, .int p3), (4, .ref oo)] := hl
  have hP : va_P D vwCl (wO cyI cyZ cyJ ad zb zo zt zm zu zr zl zf oo go) s.heap := hP
  refine lv_aload hx hb dL_addColumn_0 (lv_at hl 4 rfl) ?_
  refine lv_iconst (v := 0) hx hb dL_addColumn_2 (by decide) ?_
  refine lv_aload_n hx hb dL_addColumn_3 rfl (lv_at hl 0 rfl) ?_
  refine lv_iload_n hx hb dL_addColumn_4 rfl (lv_at hl 1 rfl) ?_
  refine lv_iload_n hx hb dL_addColumn_5 rfl (lv_at hl 2 rfl) ?_
  refine lv_iload_n hx hb dL_addColumn_6 rfl (lv_at hl 3 rfl) ?_
  refine vx_calli (vx_runV (As := [.int p1, .int p2, .int p3]) (rest := [.int 0, .ref oo]) ⟨hx, hb, hml, hown, hts⟩ (t_X2_addColumn l hlt D cyI cyZ ad zb zo zt zm zu zr zl zf p1 p2 p3 (by rw [hx9]; decide)) (cwV 3 hts gL_addColumn_X2_addColumn rfl rfl rfl (by decide +kernel) ⟨Nat.le_of_ble_eq_true rfl, Nat.le_of_ble_eq_true rfl⟩) (ptV hG.1 (hz.kept va_S.rf) (hP.sub (ws' := wZ cyI cyZ ad zb zo zt zm zu zr zl zf) [0, 1, 2, 3, 4, 5, 6, 7, 8, 9, 10, 11, 12, 13, 14, 15, 16, 17, 18, 19] rfl) (ci := 2) rfl rfl rfl) rfl rfl hl.1 rfl (lv_room (Nat.le_of_ble_eq_true rfl)) dL_addColumn_7 ⟨Nat.le_of_ble_eq_true rfl, Nat.le_of_ble_eq_true rfl⟩) hS (fun _ _ h => h.elim) (fun _ h => h.elim) (fun _ _ h => h.elim) (fun E ce q9 u t H1 locs1 ht _ _ hE _ hk1 hS1 hce hcv hcl => ?_) (fun r u t H1 locs1 ht hvm h hb9 hz1 hk1 hS1 => h.elim)
  obtain rfl : E = "java/lang/IllegalStateException" := hE.trans (by rw [hx9]; rfl)
  have hP1 : va_P D vwCl (wO cyI cyZ cyJ ad zb zo zt zm zu zr zl zf oo go) H1 := hP.kept (fun k q hq => hk1 q.1 (hP k q hq).lt id)
  refine vx_catch (own := RL) (name := "java/lang/IllegalStateException") hown [(⟨0, 12, 15, 13⟩ : ExceptionTableEntry), (⟨0, 12, 19, 15⟩ : ExceptionTableEntry)] (⟨0, 12, 23, 17⟩ : ExceptionTableEntry) [] ((vx_table (x := yL_addColumn) B (hts _ List.mem_cons_self)).trans rfl) (ps_cons (Or.inr ⟨by decide, "java/lang/IndexOutOfBoundsException", (hts (.classLink RL 13 "java/lang/IndexOutOfBoundsException") (List.mem_of_getElem? (i := 1) rfl)), hn.2.1⟩) (ps_cons (Or.inr ⟨by decide, "java/lang/IllegalArgumentException", (hts (.classLink RL 15 "java/lang/IllegalArgumentException") (List.mem_of_getElem? (i := 2) rfl)), hn.2.2⟩) ps_nil)) (by decide) (by decide) (hts (.classLink RL 17 "java/lang/IllegalStateException") (List.mem_of_getElem? (i := 3) rfl)) (va_Nw.use rfl (hz.2.2.2.1 "java/lang/IllegalStateException" (by decide))) hce hcv hcl ?_
  refine lv_astore (lv' := [(5, .ref q9), (0, .ref (ad 0))]) hx hb dL_addColumn_23 (lv_sub hl [0] rfl) (by decide) rfl (fun ls hl => ?_)
  refine lv_iconst (v := 3) hx hb dL_addColumn_25 (by decide) ?_
  exact W.iret (v := 3) hx hb hr (fun t ht hW => ⟨⟨3, (), rfl, rfl, by rw [ht]; exact hP1, hD⟩, hS1.F ht⟩) hS1.2.2 dL_addColumn_26
theorem x_dropColumn {zb : Tr} {zo : Tr} {zt : Tr} {p1 : Int32} {p2 : Int32} : f_X2_dropColumn_x zb zo zt p1 p2 = 0 ∨ f_X2_dropColumn_x zb zo zt p1 p2 = 1 := by
  rw [f_X2_dropColumn_x]
  repeat' split
  all_goals first | exact x_rcn _ | exact x_rk _ | exact x_rco _ _ | exact x_rro _ _ | exact x_rcf _ _ | exact Or.inl rfl | exact Or.inr rfl
set_option maxHeartbeats 4000000 in
set_option maxRecDepth 100000 in
theorem k_L_dropColumn (l : Launch) (D : va_G) (cyI cyZ cyJ : ClassId) (ad : Nat → Nat) (oo : Nat) (zb : Tr) (zo : Tr) (zt : Tr) (zm : Tr) (zu : Nat → Int32) (zr : Nat → Int32) (zl : Lr) (zf : Int32) (go : Nat → Int64) (p1 : Int32) (p2 : Int32) (A : Nat → Prop) (sz : Nat) (hAe : A = va_A (wO cyI cyZ cyJ ad zb zo zt zm zu zr zl zf oo go) sz) (hx9 : f_X2_dropColumn_x zb zo zt p1 p2 = 0) : Met l yL_dropColumn wsL_dropColumn ({ frames := 5, cells := 0, slots := 0, locals := 112 } : Room) (pcO D cyI cyZ cyJ sz [.ref (ad 0), .int p1, .int p2, .ref oo] (wO cyI cyZ cyJ ad zb zo zt zm zu zr zl zf oo go)) (mI D A (wO cyI cyZ cyJ ad (f_X2_dropColumn zb zo zt zf p1 p2).2.1 (f_X2_dropColumn zb zo zt zf p1 p2).2.2.1 (f_X2_dropColumn zb zo zt zf p1 p2).2.2.2.1 zm zu zr zl (f_X2_dropColumn zb zo zt zf p1 p2).2.2.2.2 oo (vp_updL go (0 : Int32).toNatClampNeg ((f_X2_dropColumn zb zo zt zf p1 p2).1).toInt64)) 0) 0 0 A := by
  refine va_MetW (cc := cL_dropColumn) (maxL := 5) (ret := some .int) (hh := [(0, 10, 13, 13)]) (by decide) rfl ?_
  intro p e s m args below meth c s₁ B hml hv
  obtain ⟨rfl, hsz, hP, hG, ⟨hz, hn⟩, hD0⟩ := hv
  have hx := B.exec
  have hb := B.bytes
  have hr := B.returns
  have hts := atoms_spec (ws := wsL_dropColumn) B.pre
  have hown : s.vm.findClass RL = some m.cls := findClass_of_methodNamed B.named
  subst hsz
  have hD : va_D A (wO cyI cyZ cyJ ad zb zo zt zm zu zr zl zf oo go) := by rw [hAe]; exact hD0.self
  have hA : ∀ q : Nat, s.heap.size ≤ q → A q := fun q h => by rw [hAe]; exact Or.inr h
  clear hAe hD0
  have hS : va_S A s.heap s.heap [] := va_S.rf
  have hl := lv_entry ([.ref (ad 0), .int p1, .int p2, .ref oo]) (n := 5) (Nat.le_of_ble_eq_true rfl)
  rw [lg_entry_eq]
  generalize (lg_sl ([.ref (ad 0), .int p1, .int p2, .ref oo]) ++ List.replicate (5 - (lg_sl ([.ref (ad 0), .int p1, .int p2, .ref oo])).length) Slot.unset).toArray = ls at hl ⊢
  have hl : lv_has ls 5 [(0, .ref (ad 0)), (1, .int p1), (2, .int p2), (3, .ref oo)] := hl
  have hP : va_P D vwCl (wO cyI cyZ cyJ ad zb zo zt zm zu zr zl zf oo go) s.heap := hP
  refine lv_aload_n hx hb dL_dropColumn_0 rfl (lv_at hl 3 rfl) ?_
  refine lv_iconst (v := 0) hx hb dL_dropColumn_1 (by decide) ?_
  refine lv_aload_n hx hb dL_dropColumn_2 rfl (lv_at hl 0 rfl) ?_
  refine lv_iload_n hx hb dL_dropColumn_3 rfl (lv_at hl 1 rfl) ?_
  refine lv_iload_n hx hb dL_dropColumn_4 rfl (lv_at hl 2 rfl) ?_
  refine mr_i (va_runV (As := [.int p1, .int p2]) (rest := [.int 0, .ref oo]) ⟨hx, hb, hml, hown, hts⟩ (k_X2_dropColumn l D cyI cyZ ad zb zo zt zm zu zr zl zf p1 p2 _ _ rfl hx9) (cwV 2 hts gL_dropColumn_X2_dropColumn rfl rfl rfl (by decide +kernel) ⟨Nat.le_of_ble_eq_true rfl, Nat.le_of_ble_eq_true rfl⟩) (pmV hG.1 (hP.sub (ws' := wZ cyI cyZ ad zb zo zt zm zu zr zl zf) [0, 1, 2, 3, 4, 5, 6, 7, 8, 9, 10, 11, 12, 13, 14, 15, 16, 17, 18, 19] rfl) (hD.sub (ws' := wZ cyI cyZ ad zb zo zt zm zu zr zl zf) [0, 1, 2, 3, 4, 5, 6, 7, 8, 9, 10, 11, 12, 13, 14, 15, 16, 17, 18, 19] (by decide) rfl) (ci := 2) rfl rfl rfl) rfl rfl hl.1 rfl (lv_room (Nat.le_of_ble_eq_true rfl)) dL_dropColumn_5 ⟨Nat.zero_le _, Nat.zero_le _⟩) hP hD hS hA [0, 1, 2, 3, 4, 5, 6, 7, 8, 9, 10, 11, 12, 13, 14, 15, 16, 17, 18, 19] [20] [1, 2, 3, 4, 5, 6, 7, 8, 9, 10, 11, 12, 13, 14, 15, 16, 17, 18, 19, 20, 0] rfl rfl (by decide) (by decide) (by decide) (w2 := wO cyI cyZ cyJ ad (f_X2_dropColumn zb zo zt zf p1 p2).2.1 (f_X2_dropColumn zb zo zt zf p1 p2).2.2.1 (f_X2_dropColumn zb zo zt zf p1 p2).2.2.2.1 zm zu zr zl (f_X2_dropColumn zb zo zt zf p1 p2).2.2.2.2 oo go) rfl (fun H locs hP hD hS => ?_)
  have hP : va_P D vwCl (wO cyI cyZ cyJ ad (f_X2_dropColumn zb zo zt zf p1 p2).2.1 (f_X2_dropColumn zb zo zt zf p1 p2).2.2.1 (f_X2_dropColumn zb zo zt zf p1 p2).2.2.2.1 zm zu zr zl (f_X2_dropColumn zb zo zt zf p1 p2).2.2.2.2 oo go) H := hP
  have hD : va_D A (wO cyI cyZ cyJ ad (f_X2_dropColumn zb zo zt zf p1 p2).2.1 (f_X2_dropColumn zb zo zt zf p1 p2).2.2.1 (f_X2_dropColumn zb zo zt zf p1 p2).2.2.2.1 zm zu zr zl (f_X2_dropColumn zb zo zt zf p1 p2).2.2.2.2 oo go) := hD
  refine lv_i2l (v := ((f_X2_dropColumn zb zo zt zf p1 p2).1).toInt64) hx hb dL_dropColumn_8 rfl ?_
  refine va_last hx hb hG.2 hP hD hS 20 0 rfl rfl (vp_in_nI (n := 0) (by decide) (by decide)) dL_dropColumn_9 (fun H locs hP hD hS => ?_)
  refine lv_goto (tgt := 17) hx hb dL_dropColumn_10 (by decide) ?_
  refine lv_iconst (v := 0) hx hb dL_dropColumn_17 (by decide) ?_
  have hP : va_P D vwCl (wO cyI cyZ cyJ ad (f_X2_dropColumn zb zo zt zf p1 p2).2.1 (f_X2_dropColumn zb zo zt zf p1 p2).2.2.1 (f_X2_dropColumn zb zo zt zf p1 p2).2.2.2.1 zm zu zr zl (f_X2_dropColumn zb zo zt zf p1 p2).2.2.2.2 oo (vp_updL go (0 : Int32).toNatClampNeg ((f_X2_dropColumn zb zo zt zf p1 p2).1).toInt64)) H := hP
  have hD : va_D A (wO cyI cyZ cyJ ad (f_X2_dropColumn zb zo zt zf p1 p2).2.1 (f_X2_dropColumn zb zo zt zf p1 p2).2.2.1 (f_X2_dropColumn zb zo zt zf p1 p2).2.2.2.1 zm zu zr zl (f_X2_dropColumn zb zo zt zf p1 p2).2.2.2.2 oo (vp_updL go (0 : Int32).toNatClampNeg ((f_X2_dropColumn zb zo zt zf p1 p2).1).toInt64)) := hD
  exact W.iret (v := 0) hx hb hr (fun t ht hW => ⟨⟨0, (), rfl, rfl, by rw [ht]; exact hP, hD⟩, hS.F ht⟩) hS.2.2 dL_dropColumn_18
set_option maxHeartbeats 4000000 in
set_option maxRecDepth 100000 in
theorem t_L_dropColumn_1 (l : Launch) (hlt : l.stackTraces = false) (D : va_G) (cyI cyZ cyJ : ClassId) (ad : Nat → Nat) (oo : Nat) (zb : Tr) (zo : Tr) (zt : Tr) (zm : Tr) (zu : Nat → Int32) (zr : Nat → Int32) (zl : Lr) (zf : Int32) (go : Nat → Int64) (p1 : Int32) (p2 : Int32) (A : Nat → Prop) (sz : Nat) (hAe : A = va_A (wO cyI cyZ cyJ ad zb zo zt zm zu zr zl zf oo go) sz) (hx9 : f_X2_dropColumn_x zb zo zt p1 p2 = 1) : Met l yL_dropColumn wsL_dropColumn ({ frames := 9, cells := 1, slots := 6, locals := 166 } : Room) (pcO D cyI cyZ cyJ sz [.ref (ad 0), .int p1, .int p2, .ref oo] (wO cyI cyZ cyJ ad zb zo zt zm zu zr zl zf oo go)) (mI D A (wO cyI cyZ cyJ ad zb zo zt zm zu zr zl zf oo go) 1) 1 6 A := by
  refine va_MetW (cc := cL_dropColumn) (maxL := 5) (ret := some .int) (hh := [(0, 10, 13, 13)]) (by decide) rfl ?_
  intro p e s m args below meth c s₁ B hml hv
  obtain ⟨rfl, hsz, hP, hG, ⟨hz, hn⟩, hD0⟩ := hv
  have hx := B.exec
  have hb := B.bytes
  have hr := B.returns
  have hts := atoms_spec (ws := wsL_dropColumn) B.pre
  have hown : s.vm.findClass RL = some m.cls := findClass_of_methodNamed B.named
  subst hsz
  have hD : va_D A (wO cyI cyZ cyJ ad zb zo zt zm zu zr zl zf oo go) := by rw [hAe]; exact hD0.self
  have hA : ∀ q : Nat, s.heap.size ≤ q → A q := fun q h => by rw [hAe]; exact Or.inr h
  clear hAe hD0
  have hS : va_S A s.heap s.heap [] := va_S.rf
  have hl := lv_entry ([.ref (ad 0), .int p1, .int p2, .ref oo]) (n := 5) (Nat.le_of_ble_eq_true rfl)
  rw [lg_entry_eq]
  generalize (lg_sl ([.ref (ad 0), .int p1, .int p2, .ref oo]) ++ List.replicate (5 - (lg_sl ([.ref (ad 0), .int p1, .int p2, .ref oo])).length) Slot.unset).toArray = ls at hl ⊢
  have hl : lv_has ls 5 [(0, .ref (ad 0)), (1, .int p1), (2, .int p2), (3, .ref oo)] := hl
  have hP : va_P D vwCl (wO cyI cyZ cyJ ad zb zo zt zm zu zr zl zf oo go) s.heap := hP
  refine lv_aload_n hx hb dL_dropColumn_0 rfl (lv_at hl 3 rfl) ?_
  refine lv_iconst (v := 0) hx hb dL_dropColumn_1 (by decide) ?_
  refine lv_aload_n hx hb dL_dropColumn_2 rfl (lv_at hl 0 rfl) ?_
  refine lv_iload_n hx hb dL_dropColumn_3 rfl (lv_at hl 1 rfl) ?_
  refine lv_iload_n hx hb dL_dropColumn_4 rfl (lv_at hl 2 rfl) ?_
  refine vx_calli (vx_runV (As := [.int p1, .int p2]) (rest := [.int 0, .ref oo]) ⟨hx, hb, hml, hown, hts⟩ (t_X2_dropColumn l hlt D cyI cyZ ad zb zo zt zm zu zr zl zf p1 p2 (by rw [hx9]; decide)) (cwV 2 hts gL_dropColumn_X2_dropColumn rfl rfl rfl (by decide +kernel) ⟨Nat.le_of_ble_eq_true rfl, Nat.le_of_ble_eq_true rfl⟩) (ptV hG.1 (hz.kept va_S.rf) (hP.sub (ws' := wZ cyI cyZ ad zb zo zt zm zu zr zl zf) [0, 1, 2, 3, 4, 5, 6, 7, 8, 9, 10, 11, 12, 13, 14, 15, 16, 17, 18, 19] rfl) (ci := 2) rfl rfl rfl) rfl rfl hl.1 rfl (lv_room (Nat.le_of_ble_eq_true rfl)) dL_dropColumn_5 ⟨Nat.le_of_ble_eq_true rfl, Nat.le_of_ble_eq_true rfl⟩) hS (fun _ _ h => h.elim) (fun _ h => h.elim) (fun _ _ h => h.elim) (fun E ce q9 u t H1 locs1 ht _ _ hE _ hk1 hS1 hce hcv hcl => ?_) (fun r u t H1 locs1 ht hvm h hb9 hz1 hk1 hS1 => h.elim)
  obtain rfl : E = "java/lang/IndexOutOfBoundsException" := hE.trans (by rw [hx9]; rfl)
  have hP1 : va_P D vwCl (wO cyI cyZ cyJ ad zb zo zt zm zu zr zl zf oo go) H1 := hP.kept (fun k q hq => hk1 q.1 (hP k q hq).lt id)
  refine vx_catch (own := RL) (name := "java/lang/IndexOutOfBoundsException") hown [] (⟨0, 10, 13, 13⟩ : ExceptionTableEntry) [] ((vx_table (x := yL_dropColumn) B (hts _ List.mem_cons_self)).trans rfl) ps_nil (by decide) (by decide) (hts (.classLink RL 13 "java/lang/IndexOutOfBoundsException") (List.mem_of_getElem? (i := 1) rfl)) (va_Nw.use rfl (hz.2.2.2.1 "java/lang/IndexOutOfBoundsException" (by decide))) hce hcv hcl ?_
  refine lv_astore (lv' := [(4, .ref q9), (0, .ref (ad 0))]) hx hb dL_dropColumn_13 (lv_sub hl [0] rfl) (by decide) rfl (fun ls hl => ?_)
  refine lv_iconst (v := 1) hx hb dL_dropColumn_15 (by decide) ?_
  exact W.iret (v := 1) hx hb hr (fun t ht hW => ⟨⟨1, (), rfl, rfl, by rw [ht]; exact hP1, hD⟩, hS1.F ht⟩) hS1.2.2 dL_dropColumn_16
theorem x_rename {zb : Tr} {zo : Tr} {zt : Tr} {p1 : Int32} {p2 : Int32} {p3 : Int32} : f_X2_rename_x zb zo zt p1 p2 p3 = 0 ∨ f_X2_rename_x zb zo zt p1 p2 p3 = 1 ∨ f_X2_rename_x zb zo zt p1 p2 p3 = 2 := by
  rw [f_X2_rename_x]
  repeat' split
  all_goals first | exact Or.inl (rfl) | exact Or.inr (Or.inl (rfl)) | exact Or.inr (Or.inr (rfl)) | exact (x_rcn _).elim (fun h => Or.inl (h)) (fun h => Or.inr (Or.inl (h))) | exact (x_rk _).elim (fun h => Or.inl (h)) (fun h => Or.inr (Or.inl (h))) | exact (x_rco _ _).elim (fun h => Or.inl (h)) (fun h => Or.inr (Or.inl (h))) | exact (x_rro _ _).elim (fun h => Or.inl (h)) (fun h => Or.inr (Or.inl (h))) | exact (x_rcf _ _).elim (fun h => Or.inl (h)) (fun h => Or.inr (Or.inl (h))) | exact (x_rn _).elim (fun h => Or.inl (h)) (fun h => Or.inr (Or.inr (h)))
set_option maxHeartbeats 4000000 in
set_option maxRecDepth 100000 in
theorem k_L_rename (l : Launch) (D : va_G) (cyI cyZ cyJ : ClassId) (ad : Nat → Nat) (oo : Nat) (zb : Tr) (zo : Tr) (zt : Tr) (zm : Tr) (zu : Nat → Int32) (zr : Nat → Int32) (zl : Lr) (zf : Int32) (go : Nat → Int64) (p1 : Int32) (p2 : Int32) (p3 : Int32) (A : Nat → Prop) (sz : Nat) (hAe : A = va_A (wO cyI cyZ cyJ ad zb zo zt zm zu zr zl zf oo go) sz) (hx9 : f_X2_rename_x zb zo zt p1 p2 p3 = 0) : Met l yL_rename wsL_rename ({ frames := 3, cells := 0, slots := 0, locals := 68 } : Room) (pcO D cyI cyZ cyJ sz [.ref (ad 0), .int p1, .int p2, .int p3, .ref oo] (wO cyI cyZ cyJ ad zb zo zt zm zu zr zl zf oo go)) (mI D A (wO cyI cyZ cyJ ad (f_X2_rename zb zo zt zf p1 p2 p3).2.1 (f_X2_rename zb zo zt zf p1 p2 p3).2.2.1 (f_X2_rename zb zo zt zf p1 p2 p3).2.2.2.1 zm zu zr zl (f_X2_rename zb zo zt zf p1 p2 p3).2.2.2.2 oo (vp_updL go (0 : Int32).toNatClampNeg ((f_X2_rename zb zo zt zf p1 p2 p3).1).toInt64)) 0) 0 0 A := by
  refine va_MetW (cc := cL_rename) (maxL := 6) (ret := some .int) (hh := [(0, 12, 15, 13), (0, 12, 19, 15)]) (by decide) rfl ?_
  intro p e s m args below meth c s₁ B hml hv
  obtain ⟨rfl, hsz, hP, hG, ⟨hz, hn⟩, hD0⟩ := hv
  have hx := B.exec
  have hb := B.bytes
  have hr := B.returns
  have hts := atoms_spec (ws := wsL_rename) B.pre
  have hown : s.vm.findClass RL = some m.cls := findClass_of_methodNamed B.named
  subst hsz
  have hD : va_D A (wO cyI cyZ cyJ ad zb zo zt zm zu zr zl zf oo go) := by rw [hAe]; exact hD0.self
  have hA : ∀ q : Nat, s.heap.size ≤ q → A q := fun q h => by rw [hAe]; exact Or.inr h
  clear hAe hD0
  have hS : va_S A s.heap s.heap [] := va_S.rf
  have hl := lv_entry ([.ref (ad 0), .int p1, .int p2, .int p3, .ref oo]) (n := 6) (Nat.le_of_ble_eq_true rfl)
  rw [lg_entry_eq]
  generalize (lg_sl ([.ref (ad 0), .int p1, .int p2, .int p3, .ref oo]) ++ List.replicate (6 - (lg_sl ([.ref (ad 0), .int p1, .int p2, .int p3, .ref oo])).length) Slot.unset).toArray = ls at hl ⊢
  have hl : lv_has ls 6 [(0, .ref (ad 0)), (1, .int p1), (2, .int p2), (3, .int p3), (4, .ref oo)] := hl
  have hP : va_P D vwCl (wO cyI cyZ cyJ ad zb zo zt zm zu zr zl zf oo go) s.heap := hP
  refine lv_aload hx hb dL_rename_0 (lv_at hl 4 rfl) ?_
  refine lv_iconst (v := 0) hx hb dL_rename_2 (by decide) ?_
  refine lv_aload_n hx hb dL_rename_3 rfl (lv_at hl 0 rfl) ?_
  refine lv_iload_n hx hb dL_rename_4 rfl (lv_at hl 1 rfl) ?_
  refine lv_iload_n hx hb dL_rename_5 rfl (lv_at hl 2 rfl) ?_
  refine lv_iload_n hx hb dL_rename_6 rfl (lv_at hl 3 rfl) ?_
  refine mr_i (va_runV (As := [.int p1, .int p2, .int p3]) (rest := [.int 0, .ref oo]) ⟨hx, hb, hml, hown, hts⟩ (k_X2_rename l D cyI cyZ ad zb zo zt zm zu zr zl zf p1 p2 p3 _ _ rfl hx9) (cwV 3 hts gL_rename_X2_rename rfl rfl rfl (by decide +kernel) ⟨Nat.le_of_ble_eq_true rfl, Nat.le_of_ble_eq_true rfl⟩) (pmV hG.1 (hP.sub (ws' := wZ cyI cyZ ad zb zo zt zm zu zr zl zf) [0, 1, 2, 3, 4, 5, 6, 7, 8, 9, 10, 11, 12, 13, 14, 15, 16, 17, 18, 19] rfl) (hD.sub (ws' := wZ cyI cyZ ad zb zo zt zm zu zr zl zf) [0, 1, 2, 3, 4, 5, 6, 7, 8, 9, 10, 11, 12, 13, 14, 15, 16, 17, 18, 19] (by decide) rfl) (ci := 2) rfl rfl rfl) rfl rfl hl.1 rfl (lv_room (Nat.le_of_ble_eq_true rfl)) dL_rename_7 ⟨Nat.zero_le _, Nat.zero_le _⟩) hP hD hS hA [0, 1, 2, 3, 4, 5, 6, 7, 8, 9, 10, 11, 12, 13, 14, 15, 16, 17, 18, 19] [20] [1, 2, 3, 4, 5, 6, 7, 8, 9, 10, 11, 12, 13, 14, 15, 16, 17, 18, 19, 20, 0] rfl rfl (by decide) (by decide) (by decide) (w2 := wO cyI cyZ cyJ ad (f_X2_rename zb zo zt zf p1 p2 p3).2.1 (f_X2_rename zb zo zt zf p1 p2 p3).2.2.1 (f_X2_rename zb zo zt zf p1 p2 p3).2.2.2.1 zm zu zr zl (f_X2_rename zb zo zt zf p1 p2 p3).2.2.2.2 oo go) rfl (fun H locs hP hD hS => ?_)
  have hP : va_P D vwCl (wO cyI cyZ cyJ ad (f_X2_rename zb zo zt zf p1 p2 p3).2.1 (f_X2_rename zb zo zt zf p1 p2 p3).2.2.1 (f_X2_rename zb zo zt zf p1 p2 p3).2.2.2.1 zm zu zr zl (f_X2_rename zb zo zt zf p1 p2 p3).2.2.2.2 oo go) H := hP
  have hD : va_D A (wO cyI cyZ cyJ ad (f_X2_rename zb zo zt zf p1 p2 p3).2.1 (f_X2_rename zb zo zt zf p1 p2 p3).2.2.1 (f_X2_rename zb zo zt zf p1 p2 p3).2.2.2.1 zm zu zr zl (f_X2_rename zb zo zt zf p1 p2 p3).2.2.2.2 oo go) := hD
  refine lv_i2l (v := ((f_X2_rename zb zo zt zf p1 p2 p3).1).toInt64) hx hb dL_rename_10 rfl ?_
  refine va_last hx hb hG.2 hP hD hS 20 0 rfl rfl (vp_in_nI (n := 0) (by decide) (by decide)) dL_rename_11 (fun H locs hP hD hS => ?_)
  refine lv_goto (tgt := 23) hx hb dL_rename_12 (by decide) ?_
  refine lv_iconst (v := 0) hx hb dL_rename_23 (by decide) ?_
  have hP : va_P D vwCl (wO cyI cyZ cyJ ad (f_X2_rename zb zo zt zf p1 p2 p3).2.1 (f_X2_rename zb zo zt zf p1 p2 p3).2.2.1 (f_X2_rename zb zo zt zf p1 p2 p3).2.2.2.1 zm zu zr zl (f_X2_rename zb zo zt zf p1 p2 p3).2.2.2.2 oo (vp_updL go (0 : Int32).toNatClampNeg ((f_X2_rename zb zo zt zf p1 p2 p3).1).toInt64)) H := hP
  have hD : va_D A (wO cyI cyZ cyJ ad (f_X2_rename zb zo zt zf p1 p2 p3).2.1 (f_X2_rename zb zo zt zf p1 p2 p3).2.2.1 (f_X2_rename zb zo zt zf p1 p2 p3).2.2.2.1 zm zu zr zl (f_X2_rename zb zo zt zf p1 p2 p3).2.2.2.2 oo (vp_updL go (0 : Int32).toNatClampNeg ((f_X2_rename zb zo zt zf p1 p2 p3).1).toInt64)) := hD
  exact W.iret (v := 0) hx hb hr (fun t ht hW => ⟨⟨0, (), rfl, rfl, by rw [ht]; exact hP, hD⟩, hS.F ht⟩) hS.2.2 dL_rename_24
set_option maxHeartbeats 4000000 in
set_option maxRecDepth 100000 in
theorem t_L_rename_1 (l : Launch) (hlt : l.stackTraces = false) (D : va_G) (cyI cyZ cyJ : ClassId) (ad : Nat → Nat) (oo : Nat) (zb : Tr) (zo : Tr) (zt : Tr) (zm : Tr) (zu : Nat → Int32) (zr : Nat → Int32) (zl : Lr) (zf : Int32) (go : Nat → Int64) (p1 : Int32) (p2 : Int32) (p3 : Int32) (A : Nat → Prop) (sz : Nat) (hAe : A = va_A (wO cyI cyZ cyJ ad zb zo zt zm zu zr zl zf oo go) sz) (hx9 : f_X2_rename_x zb zo zt p1 p2 p3 = 1) : Met l yL_rename wsL_rename ({ frames := 9, cells := 1, slots := 6, locals := 167 } : Room) (pcO D cyI cyZ cyJ sz [.ref (ad 0), .int p1, .int p2, .int p3, .ref oo] (wO cyI cyZ cyJ ad zb zo zt zm zu zr zl zf oo go)) (mI D A (wO cyI cyZ cyJ ad zb zo zt zm zu zr zl zf oo go) 1) 1 6 A := by
  refine va_MetW (cc := cL_rename) (maxL := 6) (ret := some .int) (hh := [(0, 12, 15, 13), (0, 12, 19, 15)]) (by decide) rfl ?_
  intro p e s m args below meth c s₁ B hml hv
  obtain ⟨rfl, hsz, hP, hG, ⟨hz, hn⟩, hD0⟩ := hv
  have hx := B.exec
  have hb := B.bytes
  have hr := B.returns
  have hts := atoms_spec (ws := wsL_rename) B.pre
  have hown : s.vm.findClass RL = some m.cls := findClass_of_methodNamed B.named
  subst hsz
  have hD : va_D A (wO cyI cyZ cyJ ad zb zo zt zm zu zr zl zf oo go) := by rw [hAe]; exact hD0.self
  have hA : ∀ q : Nat, s.heap.size ≤ q → A q := fun q h => by rw [hAe]; exact Or.inr h
  clear hAe hD0
  have hS : va_S A s.heap s.heap [] := va_S.rf
  have hl := lv_entry ([.ref (ad 0), .int p1, .int p2, .int p3, .ref oo]) (n := 6) (Nat.le_of_ble_eq_true rfl)
  rw [lg_entry_eq]
  generalize (lg_sl ([.ref (ad 0), .int p1, .int p2, .int p3, .ref oo]) ++ List.replicate (6 - (lg_sl ([.ref (ad 0), .int p1, .int p2, .int p3, .ref oo])).length) Slot.unset).toArray = ls at hl ⊢
  have hl : lv_has ls 6 [(0, .ref (ad 0)), (1, .int p1), (2, .int p2), (3, .int p3), (4, .ref oo)] := hl
  have hP : va_P D vwCl (wO cyI cyZ cyJ ad zb zo zt zm zu zr zl zf oo go) s.heap := hP
  refine lv_aload hx hb dL_rename_0 (lv_at hl 4 rfl) ?_
  refine lv_iconst (v := 0) hx hb dL_rename_2 (by decide) ?_
  refine lv_aload_n hx hb dL_rename_3 rfl (lv_at hl 0 rfl) ?_
  refine lv_iload_n hx hb dL_rename_4 rfl (lv_at hl 1 rfl) ?_
  refine lv_iload_n hx hb dL_rename_5 rfl (lv_at hl 2 rfl) ?_
  refine lv_iload_n hx hb dL_rename_6 rfl (lv_at hl 3 rfl) ?_
  refine vx_calli (vx_runV (As := [.int p1, .int p2, .int p3]) (rest := [.int 0, .ref oo]) ⟨hx, hb, hml, hown, hts⟩ (t_X2_rename l hlt D cyI cyZ ad zb zo zt zm zu zr zl zf p1 p2 p3 (by rw [hx9]; decide)) (cwV 3 hts gL_rename_X2_rename rfl rfl rfl (by decide +kernel) ⟨Nat.le_of_ble_eq_true rfl, Nat.le_of_ble_eq_true rfl⟩) (ptV hG.1 (hz.kept va_S.rf) (hP.sub (ws' := wZ cyI cyZ ad zb zo zt zm zu zr zl zf) [0, 1, 2, 3, 4, 5, 6, 7, 8, 9, 10, 11, 12, 13, 14, 15, 16, 17, 18, 19] rfl) (ci := 2) rfl rfl rfl) rfl rfl hl.1 rfl (lv_room (Nat.le_of_ble_eq_true rfl)) dL_rename_7 ⟨Nat.le_of_ble_eq_true rfl, Nat.le_of_ble_eq_true rfl⟩) hS (fun _ _ h => h.elim) (fun _ h => h.elim) (fun _ _ h => h.elim) (fun E ce q9 u t H1 locs1 ht _ _ hE _ hk1 hS1 hce hcv hcl => ?_) (fun r u t H1 locs1 ht hvm h hb9 hz1 hk1 hS1 => h.elim)
  obtain rfl : E = "java/lang/IndexOutOfBoundsException" := hE.trans (by rw [hx9]; rfl)
  have hP1 : va_P D vwCl (wO cyI cyZ cyJ ad zb zo zt zm zu zr zl zf oo go) H1 := hP.kept (fun k q hq => hk1 q.1 (hP k q hq).lt id)
  refine vx_catch (own := RL) (name := "java/lang/IndexOutOfBoundsException") hown [] (⟨0, 12, 15, 13⟩ : ExceptionTableEntry) [(⟨0, 12, 19, 15⟩ : ExceptionTableEntry)] ((vx_table (x := yL_rename) B (hts _ List.mem_cons_self)).trans rfl) ps_nil (by decide) (by decide) (hts (.classLink RL 13 "java/lang/IndexOutOfBoundsException") (List.mem_of_getElem? (i := 1) rfl)) (va_Nw.use rfl (hz.2.2.2.1 "java/lang/IndexOutOfBoundsException" (by decide))) hce hcv hcl ?_
  refine lv_astore (lv' := [(5, .ref q9), (0, .ref (ad 0))]) hx hb dL_rename_15 (lv_sub hl [0] rfl) (by decide) rfl (fun ls hl => ?_)
  refine lv_iconst (v := 1) hx hb dL_rename_17 (by decide) ?_
  exact W.iret (v := 1) hx hb hr (fun t ht hW => ⟨⟨1, (), rfl, rfl, by rw [ht]; exact hP1, hD⟩, hS1.F ht⟩) hS1.2.2 dL_rename_18
set_option maxHeartbeats 4000000 in
set_option maxRecDepth 100000 in
theorem t_L_rename_2 (l : Launch) (hlt : l.stackTraces = false) (D : va_G) (cyI cyZ cyJ : ClassId) (ad : Nat → Nat) (oo : Nat) (zb : Tr) (zo : Tr) (zt : Tr) (zm : Tr) (zu : Nat → Int32) (zr : Nat → Int32) (zl : Lr) (zf : Int32) (go : Nat → Int64) (p1 : Int32) (p2 : Int32) (p3 : Int32) (A : Nat → Prop) (sz : Nat) (hAe : A = va_A (wO cyI cyZ cyJ ad zb zo zt zm zu zr zl zf oo go) sz) (hx9 : f_X2_rename_x zb zo zt p1 p2 p3 = 2) : Met l yL_rename wsL_rename ({ frames := 9, cells := 1, slots := 6, locals := 167 } : Room) (pcO D cyI cyZ cyJ sz [.ref (ad 0), .int p1, .int p2, .int p3, .ref oo] (wO cyI cyZ cyJ ad zb zo zt zm zu zr zl zf oo go)) (mI D A (wO cyI cyZ cyJ ad zb zo zt zm zu zr zl zf oo go) 2) 1 6 A := by
  refine va_MetW (cc := cL_rename) (maxL := 6) (ret := some .int) (hh := [(0, 12, 15, 13), (0, 12, 19, 15)]) (by decide) rfl ?_
  intro p e s m args below meth c s₁ B hml hv
  obtain ⟨rfl, hsz, hP, hG, ⟨hz, hn⟩, hD0⟩ := hv
  have hx := B.exec
  have hb := B.bytes
  have hr := B.returns
  have hts := atoms_spec (ws := wsL_rename) B.pre
  have hown : s.vm.findClass RL = some m.cls := findClass_of_methodNamed B.named
  subst hsz
  have hD : va_D A (wO cyI cyZ cyJ ad zb zo zt zm zu zr zl zf oo go) := by rw [hAe]; exact hD0.self
  have hA : ∀ q : Nat, s.heap.size ≤ q → A q := fun q h => by rw [hAe]; exact Or.inr h
  clear hAe hD0
  have hS : va_S A s.heap s.heap [] := va_S.rf
  have hl := lv_entry ([.ref (ad 0), .int p1, .int p2, .int p3, .ref oo]) (n := 6) (Nat.le_of_ble_eq_true rfl)
  rw [lg_entry_eq]
  generalize (lg_sl ([.ref (ad 0), .int p1, .int p2, .int p3, .ref oo]) ++ List.replicate (6 - (lg_sl ([.ref (ad 0), .int p1, .int p2, .int p3, .ref oo])).length) Slot.unset).toArray = ls at hl ⊢
  have hl : lv_has ls 6 [(0, .ref (ad 0)), (1, .int p1), (2, .int p2), (3, .int p3), (4, .ref oo)] := hl
  have hP : va_P D vwCl (wO cyI cyZ cyJ ad zb zo zt zm zu zr zl zf oo go) s.heap := hP
  refine lv_aload hx hb dL_rename_0 (lv_at hl 4 rfl) ?_
  refine lv_iconst (v := 0) hx hb dL_rename_2 (by decide) ?_
  refine lv_aload_n hx hb dL_rename_3 rfl (lv_at hl 0 rfl) ?_
  refine lv_iload_n hx hb dL_rename_4 rfl (lv_at hl 1 rfl) ?_
  refine lv_iload_n hx hb dL_rename_5 rfl (lv_at hl 2 rfl) ?_
  refine lv_iload_n hx hb dL_rename_6 rfl (lv_at hl 3 rfl) ?_
  refine vx_calli (vx_runV (As := [.int p1, .int p2, .int p3]) (rest := [.int 0, .ref oo]) ⟨hx, hb, hml, hown, hts⟩ (t_X2_rename l hlt D cyI cyZ ad zb zo zt zm zu zr zl zf p1 p2 p3 (by rw [hx9]; decide)) (cwV 3 hts gL_rename_X2_rename rfl rfl rfl (by decide +kernel) ⟨Nat.le_of_ble_eq_true rfl, Nat.le_of_ble_eq_true rfl⟩) (ptV hG.1 (hz.kept va_S.rf) (hP.sub (ws' := wZ cyI cyZ ad zb zo zt zm zu zr zl zf) [0, 1, 2, 3, 4, 5, 6, 7, 8, 9, 10, 11, 12, 13, 14, 15, 16, 17, 18, 19] rfl) (ci := 2) rfl rfl rfl) rfl rfl hl.1 rfl (lv_room (Nat.le_of_ble_eq_true rfl)) dL_rename_7 ⟨Nat.le_of_ble_eq_true rfl, Nat.le_of_ble_eq_true rfl⟩) hS (fun _ _ h => h.elim) (fun _ h => h.elim) (fun _ _ h => h.elim) (fun E ce q9 u t H1 locs1 ht _ _ hE _ hk1 hS1 hce hcv hcl => ?_) (fun r u t H1 locs1 ht hvm h hb9 hz1 hk1 hS1 => h.elim)
  obtain rfl : E = "java/lang/IllegalArgumentException" := hE.trans (by rw [hx9]; rfl)
  have hP1 : va_P D vwCl (wO cyI cyZ cyJ ad zb zo zt zm zu zr zl zf oo go) H1 := hP.kept (fun k q hq => hk1 q.1 (hP k q hq).lt id)
  refine vx_catch (own := RL) (name := "java/lang/IllegalArgumentException") hown [(⟨0, 12, 15, 13⟩ : ExceptionTableEntry)] (⟨0, 12, 19, 15⟩ : ExceptionTableEntry) [] ((vx_table (x := yL_rename) B (hts _ List.mem_cons_self)).trans rfl) (ps_cons (Or.inr ⟨by decide, "java/lang/IndexOutOfBoundsException", (hts (.classLink RL 13 "java/lang/IndexOutOfBoundsException") (List.mem_of_getElem? (i := 1) rfl)), hn.1⟩) ps_nil) (by decide) (by decide) (hts (.classLink RL 15 "java/lang/IllegalArgumentException") (List.mem_of_getElem? (i := 2) rfl)) (va_Nw.use rfl (hz.2.2.2.1 "java/lang/IllegalArgumentException" (by decide))) hce hcv hcl ?_
  refine lv_astore (lv' := [(5, .ref q9), (0, .ref (ad 0))]) hx hb dL_rename_19 (lv_sub hl [0] rfl) (by decide) rfl (fun ls hl => ?_)
  refine lv_iconst (v := 2) hx hb dL_rename_21 (by decide) ?_
  exact W.iret (v := 2) hx hb hr (fun t ht hW => ⟨⟨2, (), rfl, rfl, by rw [ht]; exact hP1, hD⟩, hS1.F ht⟩) hS1.2.2 dL_rename_22
theorem x_addRow {zb : Tr} {zo : Tr} {zt : Tr} {p1 : Int32} {p2 : Int32} : f_X2_addRow_x zb zo zt p1 p2 = 0 ∨ f_X2_addRow_x zb zo zt p1 p2 = 1 ∨ f_X2_addRow_x zb zo zt p1 p2 = 3 := by
  rw [f_X2_addRow_x]
  repeat' split
  all_goals first | exact Or.inl (rfl) | exact Or.inr (Or.inl (rfl)) | exact Or.inr (Or.inr (rfl)) | exact (x_rcn _).elim (fun h => Or.inl (h)) (fun h => Or.inr (Or.inl (h))) | exact (x_rk _).elim (fun h => Or.inl (h)) (fun h => Or.inr (Or.inl (h))) | exact (x_rco _ _).elim (fun h => Or.inl (h)) (fun h => Or.inr (Or.inl (h))) | exact (x_rro _ _).elim (fun h => Or.inl (h)) (fun h => Or.inr (Or.inl (h))) | exact (x_rcf _ _).elim (fun h => Or.inl (h)) (fun h => Or.inr (Or.inl (h)))
set_option maxHeartbeats 4000000 in
set_option maxRecDepth 100000 in
theorem k_L_addRow (l : Launch) (D : va_G) (cyI cyZ cyJ : ClassId) (ad : Nat → Nat) (oo : Nat) (zb : Tr) (zo : Tr) (zt : Tr) (zm : Tr) (zu : Nat → Int32) (zr : Nat → Int32) (zl : Lr) (zf : Int32) (go : Nat → Int64) (p1 : Int32) (p2 : Int32) (A : Nat → Prop) (sz : Nat) (hAe : A = va_A (wO cyI cyZ cyJ ad zb zo zt zm zu zr zl zf oo go) sz) (hx9 : f_X2_addRow_x zb zo zt p1 p2 = 0) : Met l yL_addRow wsL_addRow ({ frames := 3, cells := 0, slots := 0, locals := 65 } : Room) (pcO D cyI cyZ cyJ sz [.ref (ad 0), .int p1, .int p2, .ref oo] (wO cyI cyZ cyJ ad zb zo zt zm zu zr zl zf oo go)) (mI D A (wO cyI cyZ cyJ ad (f_X2_addRow zb zo zt zf p1 p2).2.1 (f_X2_addRow zb zo zt zf p1 p2).2.2.1 (f_X2_addRow zb zo zt zf p1 p2).2.2.2.1 zm zu zr zl (f_X2_addRow zb zo zt zf p1 p2).2.2.2.2 oo (vp_updL go (0 : Int32).toNatClampNeg ((f_X2_addRow zb zo zt zf p1 p2).1).toInt64)) 0) 0 0 A := by
  refine va_MetW (cc := cL_addRow) (maxL := 5) (ret := some .int) (hh := [(0, 10, 13, 13), (0, 10, 17, 17)]) (by decide) rfl ?_
  intro p e s m args below meth c s₁ B hml hv
  obtain ⟨rfl, hsz, hP, hG, ⟨hz, hn⟩, hD0⟩ := hv
  have hx := B.exec
  have hb := B.bytes
  have hr := B.returns
  have hts := atoms_spec (ws := wsL_addRow) B.pre
  have hown : s.vm.findClass RL = some m.cls := findClass_of_methodNamed B.named
  subst hsz
  have hD : va_D A (wO cyI cyZ cyJ ad zb zo zt zm zu zr zl zf oo go) := by rw [hAe]; exact hD0.self
  have hA : ∀ q : Nat, s.heap.size ≤ q → A q := fun q h => by rw [hAe]; exact Or.inr h
  clear hAe hD0
  have hS : va_S A s.heap s.heap [] := va_S.rf
  have hl := lv_entry ([.ref (ad 0), .int p1, .int p2, .ref oo]) (n := 5) (Nat.le_of_ble_eq_true rfl)
  rw [lg_entry_eq]
  generalize (lg_sl ([.ref (ad 0), .int p1, .int p2, .ref oo]) ++ List.replicate (5 - (lg_sl ([.ref (ad 0), .int p1, .int p2, .ref oo])).length) Slot.unset).toArray = ls at hl ⊢
  have hl : lv_has ls 5 [(0, .ref (ad 0)), (1, .int p1), (2, .int p2), (3, .ref oo)] := hl
  have hP : va_P D vwCl (wO cyI cyZ cyJ ad zb zo zt zm zu zr zl zf oo go) s.heap := hP
  refine lv_aload_n hx hb dL_addRow_0 rfl (lv_at hl 3 rfl) ?_
  refine lv_iconst (v := 0) hx hb dL_addRow_1 (by decide) ?_
  refine lv_aload_n hx hb dL_addRow_2 rfl (lv_at hl 0 rfl) ?_
  refine lv_iload_n hx hb dL_addRow_3 rfl (lv_at hl 1 rfl) ?_
  refine lv_iload_n hx hb dL_addRow_4 rfl (lv_at hl 2 rfl) ?_
  refine mr_i (va_runV (As := [.int p1, .int p2]) (rest := [.int 0, .ref oo]) ⟨hx, hb, hml, hown, hts⟩ (k_X2_addRow l D cyI cyZ ad zb zo zt zm zu zr zl zf p1 p2 _ _ rfl hx9) (cwV 2 hts gL_addRow_X2_addRow rfl rfl rfl (by decide +kernel) ⟨Nat.le_of_ble_eq_true rfl, Nat.le_of_ble_eq_true rfl⟩) (pmV hG.1 (hP.sub (ws' := wZ cyI cyZ ad zb zo zt zm zu zr zl zf) [0, 1, 2, 3, 4, 5, 6, 7, 8, 9, 10, 11, 12, 13, 14, 15, 16, 17, 18, 19] rfl) (hD.sub (ws' := wZ cyI cyZ ad zb zo zt zm zu zr zl zf) [0, 1, 2, 3, 4, 5, 6, 7, 8, 9, 10, 11, 12, 13, 14, 15, 16, 17, 18, 19] (by decide) rfl) (ci := 2) rfl rfl rfl) rfl rfl hl.1 rfl (lv_room (Nat.le_of_ble_eq_true rfl)) dL_addRow_5 ⟨Nat.zero_le _, Nat.zero_le _⟩) hP hD hS hA [0, 1, 2, 3, 4, 5, 6, 7, 8, 9, 10, 11, 12, 13, 14, 15, 16, 17, 18, 19] [20] [1, 2, 3, 4, 5, 6, 7, 8, 9, 10, 11, 12, 13, 14, 15, 16, 17, 18, 19, 20, 0] rfl rfl (by decide) (by decide) (by decide) (w2 := wO cyI cyZ cyJ ad (f_X2_addRow zb zo zt zf p1 p2).2.1 (f_X2_addRow zb zo zt zf p1 p2).2.2.1 (f_X2_addRow zb zo zt zf p1 p2).2.2.2.1 zm zu zr zl (f_X2_addRow zb zo zt zf p1 p2).2.2.2.2 oo go) rfl (fun H locs hP hD hS => ?_)
  have hP : va_P D vwCl (wO cyI cyZ cyJ ad (f_X2_addRow zb zo zt zf p1 p2).2.1 (f_X2_addRow zb zo zt zf p1 p2).2.2.1 (f_X2_addRow zb zo zt zf p1 p2).2.2.2.1 zm zu zr zl (f_X2_addRow zb zo zt zf p1 p2).2.2.2.2 oo go) H := hP
  have hD : va_D A (wO cyI cyZ cyJ ad (f_X2_addRow zb zo zt zf p1 p2).2.1 (f_X2_addRow zb zo zt zf p1 p2).2.2.1 (f_X2_addRow zb zo zt zf p1 p2).2.2.2.1 zm zu zr zl (f_X2_addRow zb zo zt zf p1 p2).2.2.2.2 oo go) := hD
  refine lv_i2l (v := ((f_X2_addRow zb zo zt zf p1 p2).1).toInt64) hx hb dL_addRow_8 rfl ?_
  refine va_last hx hb hG.2 hP hD hS 20 0 rfl rfl (vp_in_nI (n := 0) (by decide) (by decide)) dL_addRow_9 (fun H locs hP hD hS => ?_)
  refine lv_goto (tgt := 21) hx hb dL_addRow_10 (by decide) ?_
  refine lv_iconst (v := 0) hx hb dL_addRow_21 (by decide) ?_
  have hP : va_P D vwCl (wO cyI cyZ cyJ ad (f_X2_addRow zb zo zt zf p1 p2).2.1 (f_X2_addRow zb zo zt zf p1 p2).2.2.1 (f_X2_addRow zb zo zt zf p1 p2).2.2.2.1 zm zu zr zl (f_X2_addRow zb zo zt zf p1 p2).2.2.2.2 oo (vp_updL go (0 : Int32).toNatClampNeg ((f_X2_addRow zb zo zt zf p1 p2).1).toInt64)) H := hP
  have hD : va_D A (wO cyI cyZ cyJ ad (f_X2_addRow zb zo zt zf p1 p2).2.1 (f_X2_addRow zb zo zt zf p1 p2).2.2.1 (f_X2_addRow zb zo zt zf p1 p2).2.2.2.1 zm zu zr zl (f_X2_addRow zb zo zt zf p1 p2).2.2.2.2 oo (vp_updL go (0 : Int32).toNatClampNeg ((f_X2_addRow zb zo zt zf p1 p2).1).toInt64)) := hD
  exact W.iret (v := 0) hx hb hr (fun t ht hW => ⟨⟨0, (), rfl, rfl, by rw [ht]; exact hP, hD⟩, hS.F ht⟩) hS.2.2 dL_addRow_22
set_option maxHeartbeats 4000000 in
set_option maxRecDepth 100000 in
theorem t_L_addRow_1 (l : Launch) (hlt : l.stackTraces = false) (D : va_G) (cyI cyZ cyJ : ClassId) (ad : Nat → Nat) (oo : Nat) (zb : Tr) (zo : Tr) (zt : Tr) (zm : Tr) (zu : Nat → Int32) (zr : Nat → Int32) (zl : Lr) (zf : Int32) (go : Nat → Int64) (p1 : Int32) (p2 : Int32) (A : Nat → Prop) (sz : Nat) (hAe : A = va_A (wO cyI cyZ cyJ ad zb zo zt zm zu zr zl zf oo go) sz) (hx9 : f_X2_addRow_x zb zo zt p1 p2 = 1) : Met l yL_addRow wsL_addRow ({ frames := 9, cells := 1, slots := 6, locals := 165 } : Room) (pcO D cyI cyZ cyJ sz [.ref (ad 0), .int p1, .int p2, .ref oo] (wO cyI cyZ cyJ ad zb zo zt zm zu zr zl zf oo go)) (mI D A (wO cyI cyZ cyJ ad zb zo zt zm zu zr zl zf oo go) 1) 1 6 A := by
  refine va_MetW (cc := cL_addRow) (maxL := 5) (ret := some .int) (hh := [(0, 10, 13, 13), (0, 10, 17, 17)]) (by decide) rfl ?_
  intro p e s m args below meth c s₁ B hml hv
  obtain ⟨rfl, hsz, hP, hG, ⟨hz, hn⟩, hD0⟩ := hv
  have hx := B.exec
  have hb := B.bytes
  have hr := B.returns
  have hts := atoms_spec (ws := wsL_addRow) B.pre
  have hown : s.vm.findClass RL = some m.cls := findClass_of_methodNamed B.named
  subst hsz
  have hD : va_D A (wO cyI cyZ cyJ ad zb zo zt zm zu zr zl zf oo go) := by rw [hAe]; exact hD0.self
  have hA : ∀ q : Nat, s.heap.size ≤ q → A q := fun q h => by rw [hAe]; exact Or.inr h
  clear hAe hD0
  have hS : va_S A s.heap s.heap [] := va_S.rf
  have hl := lv_entry ([.ref (ad 0), .int p1, .int p2, .ref oo]) (n := 5) (Nat.le_of_ble_eq_true rfl)
  rw [lg_entry_eq]
  generalize (lg_sl ([.ref (ad 0), .int p1, .int p2, .ref oo]) ++ List.replicate (5 - (lg_sl ([.ref (ad 0), .int p1, .int p2, .ref oo])).length) Slot.unset).toArray = ls at hl ⊢
  have hl : lv_has ls 5 [(0, .ref (ad 0)), (1, .int p1), (2, .int p2), (3, .ref oo)] := hl
  have hP : va_P D vwCl (wO cyI cyZ cyJ ad zb zo zt zm zu zr zl zf oo go) s.heap := hP
  refine lv_aload_n hx hb dL_addRow_0 rfl (lv_at hl 3 rfl) ?_
  refine lv_iconst (v := 0) hx hb dL_addRow_1 (by decide) ?_
  refine lv_aload_n hx hb dL_addRow_2 rfl (lv_at hl 0 rfl) ?_
  refine lv_iload_n hx hb dL_addRow_3 rfl (lv_at hl 1 rfl) ?_
  refine lv_iload_n hx hb dL_addRow_4 rfl (lv_at hl 2 rfl) ?_
  refine vx_calli (vx_runV (As := [.int p1, .int p2]) (rest := [.int 0, .ref oo]) ⟨hx, hb, hml, hown, hts⟩ (t_X2_addRow l hlt D cyI cyZ ad zb zo zt zm zu zr zl zf p1 p2 (by rw [hx9]; decide)) (cwV 2 hts gL_addRow_X2_addRow rfl rfl rfl (by decide +kernel) ⟨Nat.le_of_ble_eq_true rfl, Nat.le_of_ble_eq_true rfl⟩) (ptV hG.1 (hz.kept va_S.rf) (hP.sub (ws' := wZ cyI cyZ ad zb zo zt zm zu zr zl zf) [0, 1, 2, 3, 4, 5, 6, 7, 8, 9, 10, 11, 12, 13, 14, 15, 16, 17, 18, 19] rfl) (ci := 2) rfl rfl rfl) rfl rfl hl.1 rfl (lv_room (Nat.le_of_ble_eq_true rfl)) dL_addRow_5 ⟨Nat.le_of_ble_eq_true rfl, Nat.le_of_ble_eq_true rfl⟩) hS (fun _ _ h => h.elim) (fun _ h => h.elim) (fun _ _ h => h.elim) (fun E ce q9 u t H1 locs1 ht _ _ hE _ hk1 hS1 hce hcv hcl => ?_) (fun r u t H1 locs1 ht hvm h hb9 hz1 hk1 hS1 => h.elim)
  obtain rfl : E = "java/lang/IndexOutOfBoundsException" := hE.trans (by rw [hx9]; rfl)
  have hP1 : va_P D vwCl (wO cyI cyZ cyJ ad zb zo zt zm zu zr zl zf oo go) H1 := hP.kept (fun k q hq => hk1 q.1 (hP k q hq).lt id)
  refine vx_catch (own := RL) (name := "java/lang/IndexOutOfBoundsException") hown [] (⟨0, 10, 13, 13⟩ : ExceptionTableEntry) [(⟨0, 10, 17, 17⟩ : ExceptionTableEntry)] ((vx_table (x := yL_addRow) B (hts _ List.mem_cons_self)).trans rfl) ps_nil (by decide) (by decide) (hts (.classLink RL 13 "java/lang/IndexOutOfBoundsException") (List.mem_of_getElem? (i := 1) rfl)) (va_Nw.use rfl (hz.2.2.2.1 "java/lang/IndexOutOfBoundsException" (by decide))) hce hcv hcl ?_
  refine lv_astore (lv' := [(4, .ref q9), (0, .ref (ad 0))]) hx hb dL_addRow_13 (lv_sub hl [0] rfl) (by decide) rfl (fun ls hl => ?_)
  refine lv_iconst (v := 1) hx hb dL_addRow_15 (by decide) ?_
  exact W.iret (v := 1) hx hb hr (fun t ht hW => ⟨⟨1, (), rfl, rfl, by rw [ht]; exact hP1, hD⟩, hS1.F ht⟩) hS1.2.2 dL_addRow_16
set_option maxHeartbeats 4000000 in
set_option maxRecDepth 100000 in
theorem t_L_addRow_3 (l : Launch) (hlt : l.stackTraces = false) (D : va_G) (cyI cyZ cyJ : ClassId) (ad : Nat → Nat) (oo : Nat) (zb : Tr) (zo : Tr) (zt : Tr) (zm : Tr) (zu : Nat → Int32) (zr : Nat → Int32) (zl : Lr) (zf : Int32) (go : Nat → Int64) (p1 : Int32) (p2 : Int32) (A : Nat → Prop) (sz : Nat) (hAe : A = va_A (wO cyI cyZ cyJ ad zb zo zt zm zu zr zl zf oo go) sz) (hx9 : f_X2_addRow_x zb zo zt p1 p2 = 3) : Met l yL_addRow wsL_addRow ({ frames := 9, cells := 1, slots := 6, locals := 165 } : Room) (pcO D cyI cyZ cyJ sz [.ref (ad 0), .int p1, .int p2, .ref oo] (wO cyI cyZ cyJ ad zb zo zt zm zu zr zl zf oo go)) (mI D A (wO cyI cyZ cyJ ad zb zo zt zm zu zr zl zf oo go) 2) 1 6 A := by
  refine va_MetW (cc := cL_addRow) (maxL := 5) (ret := some .int) (hh := [(0, 10, 13, 13), (0, 10, 17, 17)]) (by decide) rfl ?_
  intro p e s m args below meth c s₁ B hml hv
  obtain ⟨rfl, hsz, hP, hG, ⟨hz, hn⟩, hD0⟩ := hv
  have hx := B.exec
  have hb := B.bytes
  have hr := B.returns
  have hts := atoms_spec (ws := wsL_addRow) B.pre
  have hown : s.vm.findClass RL = some m.cls := findClass_of_methodNamed B.named
  subst hsz
  have hD : va_D A (wO cyI cyZ cyJ ad zb zo zt zm zu zr zl zf oo go) := by rw [hAe]; exact hD0.self
  have hA : ∀ q : Nat, s.heap.size ≤ q → A q := fun q h => by rw [hAe]; exact Or.inr h
  clear hAe hD0
  have hS : va_S A s.heap s.heap [] := va_S.rf
  have hl := lv_entry ([.ref (ad 0), .int p1, .int p2, .ref oo]) (n := 5) (Nat.le_of_ble_eq_true rfl)
  rw [lg_entry_eq]
  generalize (lg_sl ([.ref (ad 0), .int p1, .int p2, .ref oo]) ++ List.replicate (5 - (lg_sl ([.ref (ad 0), .int p1, .int p2, .ref oo])).length) Slot.unset).toArray = ls at hl ⊢
  have hl : lv_has ls 5 [(0, .ref (ad 0)), (1, .int p1), (2, .int p2), (3, .ref oo)] := hl
  have hP : va_P D vwCl (wO cyI cyZ cyJ ad zb zo zt zm zu zr zl zf oo go) s.heap := hP
  refine lv_aload_n hx hb dL_addRow_0 rfl (lv_at hl 3 rfl) ?_
  refine lv_iconst (v := 0) hx hb dL_addRow_1 (by decide) ?_
  refine lv_aload_n hx hb dL_addRow_2 rfl (lv_at hl 0 rfl) ?_
  refine lv_iload_n hx hb dL_addRow_3 rfl (lv_at hl 1 rfl) ?_
  refine lv_iload_n hx hb dL_addRow_4 rfl (lv_at hl 2 rfl) ?_
  refine vx_calli (vx_runV (As := [.int p1, .int p2]) (rest := [.int 0, .ref oo]) ⟨hx, hb, hml, hown, hts⟩ (t_X2_addRow l hlt D cyI cyZ ad zb zo zt zm zu zr zl zf p1 p2 (by rw [hx9]; decide)) (cwV 2 hts gL_addRow_X2_addRow rfl rfl rfl (by decide +kernel) ⟨Nat.le_of_ble_eq_true rfl, Nat.le_of_ble_eq_true rfl⟩) (ptV hG.1 (hz.kept va_S.rf) (hP.sub (ws' := wZ cyI cyZ ad zb zo zt zm zu zr zl zf) [0, 1, 2, 3, 4, 5, 6, 7, 8, 9, 10, 11, 12, 13, 14, 15, 16, 17, 18, 19] rfl) (ci := 2) rfl rfl rfl) rfl rfl hl.1 rfl (lv_room (Nat.le_of_ble_eq_true rfl)) dL_addRow_5 ⟨Nat.le_of_ble_eq_true rfl, Nat.le_of_ble_eq_true rfl⟩) hS (fun _ _ h => h.elim) (fun _ h => h.elim) (fun _ _ h => h.elim) (fun E ce q9 u t H1 locs1 ht _ _ hE _ hk1 hS1 hce hcv hcl => ?_) (fun r u t H1 locs1 ht hvm h hb9 hz1 hk1 hS1 => h.elim)
  obtain rfl : E = "java/lang/IllegalStateException" := hE.trans (by rw [hx9]; rfl)
  have hP1 : va_P D vwCl (wO cyI cyZ cyJ ad zb zo zt zm zu zr zl zf oo go) H1 := hP.kept (fun k q hq => hk1 q.1 (hP k q hq).lt id)
  refine vx_catch (own := RL) (name := "java/lang/IllegalStateException") hown [(⟨0, 10, 13, 13⟩ : ExceptionTableEntry)] (⟨0, 10, 17, 17⟩ : ExceptionTableEntry) [] ((vx_table (x := yL_addRow) B (hts _ List.mem_cons_self)).trans rfl) (ps_cons (Or.inr ⟨by decide, "java/lang/IndexOutOfBoundsException", (hts (.classLink RL 13 "java/lang/IndexOutOfBoundsException") (List.mem_of_getElem? (i := 1) rfl)), hn.2.1⟩) ps_nil) (by decide) (by decide) (hts (.classLink RL 17 "java/lang/IllegalStateException") (List.mem_of_getElem? (i := 2) rfl)) (va_Nw.use rfl (hz.2.2.2.1 "java/lang/IllegalStateException" (by decide))) hce hcv hcl ?_
  refine lv_astore (lv' := [(4, .ref q9), (0, .ref (ad 0))]) hx hb dL_addRow_17 (lv_sub hl [0] rfl) (by decide) rfl (fun ls hl => ?_)
  refine lv_iconst (v := 2) hx hb dL_addRow_19 (by decide) ?_
  exact W.iret (v := 2) hx hb hr (fun t ht hW => ⟨⟨2, (), rfl, rfl, by rw [ht]; exact hP1, hD⟩, hS1.F ht⟩) hS1.2.2 dL_addRow_20
theorem x_removeRow {zb : Tr} {zo : Tr} {zt : Tr} {p1 : Int32} {p2 : Int32} : f_X2_removeRow_x zb zo zt p1 p2 = 0 ∨ f_X2_removeRow_x zb zo zt p1 p2 = 1 := by
  rw [f_X2_removeRow_x]
  repeat' split
  all_goals first | exact x_rcn _ | exact x_rk _ | exact x_rco _ _ | exact x_rro _ _ | exact x_rcf _ _ | exact Or.inl rfl | exact Or.inr rfl
set_option maxHeartbeats 4000000 in
set_option maxRecDepth 100000 in
theorem k_L_removeRow (l : Launch) (D : va_G) (cyI cyZ cyJ : ClassId) (ad : Nat → Nat) (oo : Nat) (zb : Tr) (zo : Tr) (zt : Tr) (zm : Tr) (zu : Nat → Int32) (zr : Nat → Int32) (zl : Lr) (zf : Int32) (go : Nat → Int64) (p1 : Int32) (p2 : Int32) (A : Nat → Prop) (sz : Nat) (hAe : A = va_A (wO cyI cyZ cyJ ad zb zo zt zm zu zr zl zf oo go) sz) (hx9 : f_X2_removeRow_x zb zo zt p1 p2 = 0) : Met l yL_removeRow wsL_removeRow ({ frames := 5, cells := 0, slots := 0, locals := 111 } : Room) (pcO D cyI cyZ cyJ sz [.ref (ad 0), .int p1, .int p2, .ref oo] (wO cyI cyZ cyJ ad zb zo zt zm zu zr zl zf oo go)) (mI D A (wO cyI cyZ cyJ ad (f_X2_removeRow zb zo zt zf p1 p2).2.1 (f_X2_removeRow zb zo zt zf p1 p2).2.2.1 (f_X2_removeRow zb zo zt zf p1 p2).2.2.2.1 zm zu zr zl (f_X2_removeRow zb zo zt zf p1 p2).2.2.2.2 oo (vp_updL go (0 : Int32).toNatClampNeg ((f_X2_removeRow zb zo zt zf p1 p2).1).toInt64)) 0) 0 0 A := by
  refine va_MetW (cc := cL_removeRow) (maxL := 5) (ret := some .int) (hh := [(0, 10, 13, 13)]) (by decide) rfl ?_
  intro p e s m args below meth c s₁ B hml hv
  obtain ⟨rfl, hsz, hP, hG, ⟨hz, hn⟩, hD0⟩ := hv
  have hx := B.exec
  have hb := B.bytes
  have hr := B.returns
  have hts := atoms_spec (ws := wsL_removeRow) B.pre
  have hown : s.vm.findClass RL = some m.cls := findClass_of_methodNamed B.named
  subst hsz
  have hD : va_D A (wO cyI cyZ cyJ ad zb zo zt zm zu zr zl zf oo go) := by rw [hAe]; exact hD0.self
  have hA : ∀ q : Nat, s.heap.size ≤ q → A q := fun q h => by rw [hAe]; exact Or.inr h
  clear hAe hD0
  have hS : va_S A s.heap s.heap [] := va_S.rf
  have hl := lv_entry ([.ref (ad 0), .int p1, .int p2, .ref oo]) (n := 5) (Nat.le_of_ble_eq_true rfl)
  rw [lg_entry_eq]
  generalize (lg_sl ([.ref (ad 0), .int p1, .int p2, .ref oo]) ++ List.replicate (5 - (lg_sl ([.ref (ad 0), .int p1, .int p2, .ref oo])).length) Slot.unset).toArray = ls at hl ⊢
  have hl : lv_has ls 5 [(0, .ref (ad 0)), (1, .int p1), (2, .int p2), (3, .ref oo)] := hl
  have hP : va_P D vwCl (wO cyI cyZ cyJ ad zb zo zt zm zu zr zl zf oo go) s.heap := hP
  refine lv_aload_n hx hb dL_removeRow_0 rfl (lv_at hl 3 rfl) ?_
  refine lv_iconst (v := 0) hx hb dL_removeRow_1 (by decide) ?_
  refine lv_aload_n hx hb dL_removeRow_2 rfl (lv_at hl 0 rfl) ?_
  refine lv_iload_n hx hb dL_removeRow_3 rfl (lv_at hl 1 rfl) ?_
  refine lv_iload_n hx hb dL_removeRow_4 rfl (lv_at hl 2 rfl) ?_
  refine mr_i (va_runV (As := [.int p1, .int p2]) (rest := [.int 0, .ref oo]) ⟨hx, hb, hml, hown, hts⟩ (k_X2_removeRow l D cyI cyZ ad zb zo zt zm zu zr zl zf p1 p2 _ _ rfl hx9) (cwV 2 hts gL_removeRow_X2_removeRow rfl rfl rfl (by decide +kernel) ⟨Nat.le_of_ble_eq_true rfl, Nat.le_of_ble_eq_true rfl⟩) (pmV hG.1 (hP.sub (ws' := wZ cyI cyZ ad zb zo zt zm zu zr zl zf) [0, 1, 2, 3, 4, 5, 6, 7, 8, 9, 10, 11, 12, 13, 14, 15, 16, 17, 18, 19] rfl) (hD.sub (ws' := wZ cyI cyZ ad zb zo zt zm zu zr zl zf) [0, 1, 2, 3, 4, 5, 6, 7, 8, 9, 10, 11, 12, 13, 14, 15, 16, 17, 18, 19] (by decide) rfl) (ci := 2) rfl rfl rfl) rfl rfl hl.1 rfl (lv_room (Nat.le_of_ble_eq_true rfl)) dL_removeRow_5 ⟨Nat.zero_le _, Nat.zero_le _⟩) hP hD hS hA [0, 1, 2, 3, 4, 5, 6, 7, 8, 9, 10, 11, 12, 13, 14, 15, 16, 17, 18, 19] [20] [1, 2, 3, 4, 5, 6, 7, 8, 9, 10, 11, 12, 13, 14, 15, 16, 17, 18, 19, 20, 0] rfl rfl (by decide) (by decide) (by decide) (w2 := wO cyI cyZ cyJ ad (f_X2_removeRow zb zo zt zf p1 p2).2.1 (f_X2_removeRow zb zo zt zf p1 p2).2.2.1 (f_X2_removeRow zb zo zt zf p1 p2).2.2.2.1 zm zu zr zl (f_X2_removeRow zb zo zt zf p1 p2).2.2.2.2 oo go) rfl (fun H locs hP hD hS => ?_)
  have hP : va_P D vwCl (wO cyI cyZ cyJ ad (f_X2_removeRow zb zo zt zf p1 p2).2.1 (f_X2_removeRow zb zo zt zf p1 p2).2.2.1 (f_X2_removeRow zb zo zt zf p1 p2).2.2.2.1 zm zu zr zl (f_X2_removeRow zb zo zt zf p1 p2).2.2.2.2 oo go) H := hP
  have hD : va_D A (wO cyI cyZ cyJ ad (f_X2_removeRow zb zo zt zf p1 p2).2.1 (f_X2_removeRow zb zo zt zf p1 p2).2.2.1 (f_X2_removeRow zb zo zt zf p1 p2).2.2.2.1 zm zu zr zl (f_X2_removeRow zb zo zt zf p1 p2).2.2.2.2 oo go) := hD
  refine lv_i2l (v := ((f_X2_removeRow zb zo zt zf p1 p2).1).toInt64) hx hb dL_removeRow_8 rfl ?_
  refine va_last hx hb hG.2 hP hD hS 20 0 rfl rfl (vp_in_nI (n := 0) (by decide) (by decide)) dL_removeRow_9 (fun H locs hP hD hS => ?_)
  refine lv_goto (tgt := 17) hx hb dL_removeRow_10 (by decide) ?_
  refine lv_iconst (v := 0) hx hb dL_removeRow_17 (by decide) ?_
  have hP : va_P D vwCl (wO cyI cyZ cyJ ad (f_X2_removeRow zb zo zt zf p1 p2).2.1 (f_X2_removeRow zb zo zt zf p1 p2).2.2.1 (f_X2_removeRow zb zo zt zf p1 p2).2.2.2.1 zm zu zr zl (f_X2_removeRow zb zo zt zf p1 p2).2.2.2.2 oo (vp_updL go (0 : Int32).toNatClampNeg ((f_X2_removeRow zb zo zt zf p1 p2).1).toInt64)) H := hP
  have hD : va_D A (wO cyI cyZ cyJ ad (f_X2_removeRow zb zo zt zf p1 p2).2.1 (f_X2_removeRow zb zo zt zf p1 p2).2.2.1 (f_X2_removeRow zb zo zt zf p1 p2).2.2.2.1 zm zu zr zl (f_X2_removeRow zb zo zt zf p1 p2).2.2.2.2 oo (vp_updL go (0 : Int32).toNatClampNeg ((f_X2_removeRow zb zo zt zf p1 p2).1).toInt64)) := hD
  exact W.iret (v := 0) hx hb hr (fun t ht hW => ⟨⟨0, (), rfl, rfl, by rw [ht]; exact hP, hD⟩, hS.F ht⟩) hS.2.2 dL_removeRow_18
set_option maxHeartbeats 4000000 in
set_option maxRecDepth 100000 in
theorem t_L_removeRow_1 (l : Launch) (hlt : l.stackTraces = false) (D : va_G) (cyI cyZ cyJ : ClassId) (ad : Nat → Nat) (oo : Nat) (zb : Tr) (zo : Tr) (zt : Tr) (zm : Tr) (zu : Nat → Int32) (zr : Nat → Int32) (zl : Lr) (zf : Int32) (go : Nat → Int64) (p1 : Int32) (p2 : Int32) (A : Nat → Prop) (sz : Nat) (hAe : A = va_A (wO cyI cyZ cyJ ad zb zo zt zm zu zr zl zf oo go) sz) (hx9 : f_X2_removeRow_x zb zo zt p1 p2 = 1) : Met l yL_removeRow wsL_removeRow ({ frames := 9, cells := 1, slots := 6, locals := 165 } : Room) (pcO D cyI cyZ cyJ sz [.ref (ad 0), .int p1, .int p2, .ref oo] (wO cyI cyZ cyJ ad zb zo zt zm zu zr zl zf oo go)) (mI D A (wO cyI cyZ cyJ ad zb zo zt zm zu zr zl zf oo go) 1) 1 6 A := by
  refine va_MetW (cc := cL_removeRow) (maxL := 5) (ret := some .int) (hh := [(0, 10, 13, 13)]) (by decide) rfl ?_
  intro p e s m args below meth c s₁ B hml hv
  obtain ⟨rfl, hsz, hP, hG, ⟨hz, hn⟩, hD0⟩ := hv
  have hx := B.exec
  have hb := B.bytes
  have hr := B.returns
  have hts := atoms_spec (ws := wsL_removeRow) B.pre
  have hown : s.vm.findClass RL = some m.cls := findClass_of_methodNamed B.named
  subst hsz
  have hD : va_D A (wO cyI cyZ cyJ ad zb zo zt zm zu zr zl zf oo go) := by rw [hAe]; exact hD0.self
  have hA : ∀ q : Nat, s.heap.size ≤ q → A q := fun q h => by rw [hAe]; exact Or.inr h
  clear hAe hD0
  have hS : va_S A s.heap s.heap [] := va_S.rf
  have hl := lv_entry ([.ref (ad 0), .int p1, .int p2, .ref oo]) (n := 5) (Nat.le_of_ble_eq_true rfl)
  rw [lg_entry_eq]
  generalize (lg_sl ([.ref (ad 0), .int p1, .int p2, .ref oo]) ++ List.replicate (5 - (lg_sl ([.ref (ad 0), .int p1, .int p2, .ref oo])).length) Slot.unset).toArray = ls at hl ⊢
  have hl : lv_has ls 5 [(0, .ref (ad 0)), (1, .int p1), (2, .int p2), (3, .ref oo)] := hl
  have hP : va_P D vwCl (wO cyI cyZ cyJ ad zb zo zt zm zu zr zl zf oo go) s.heap := hP
  refine lv_aload_n hx hb dL_removeRow_0 rfl (lv_at hl 3 rfl) ?_
  refine lv_iconst (v := 0) hx hb dL_removeRow_1 (by decide) ?_
  refine lv_aload_n hx hb dL_removeRow_2 rfl (lv_at hl 0 rfl) ?_
  refine lv_iload_n hx hb dL_removeRow_3 rfl (lv_at hl 1 rfl) ?_
  refine lv_iload_n hx hb dL_removeRow_4 rfl (lv_at hl 2 rfl) ?_
  refine vx_calli (vx_runV (As := [.int p1, .int p2]) (rest := [.int 0, .ref oo]) ⟨hx, hb, hml, hown, hts⟩ (t_X2_removeRow l hlt D cyI cyZ ad zb zo zt zm zu zr zl zf p1 p2 (by rw [hx9]; decide)) (cwV 2 hts gL_removeRow_X2_removeRow rfl rfl rfl (by decide +kernel) ⟨Nat.le_of_ble_eq_true rfl, Nat.le_of_ble_eq_true rfl⟩) (ptV hG.1 (hz.kept va_S.rf) (hP.sub (ws' := wZ cyI cyZ ad zb zo zt zm zu zr zl zf) [0, 1, 2, 3, 4, 5, 6, 7, 8, 9, 10, 11, 12, 13, 14, 15, 16, 17, 18, 19] rfl) (ci := 2) rfl rfl rfl) rfl rfl hl.1 rfl (lv_room (Nat.le_of_ble_eq_true rfl)) dL_removeRow_5 ⟨Nat.le_of_ble_eq_true rfl, Nat.le_of_ble_eq_true rfl⟩) hS (fun _ _ h => h.elim) (fun _ h => h.elim) (fun _ _ h => h.elim) (fun E ce q9 u t H1 locs1 ht _ _ hE _ hk1 hS1 hce hcv hcl => ?_) (fun r u t H1 locs1 ht hvm h hb9 hz1 hk1 hS1 => h.elim)
  obtain rfl : E = "java/lang/IndexOutOfBoundsException" := hE.trans (by rw [hx9]; rfl)
  have hP1 : va_P D vwCl (wO cyI cyZ cyJ ad zb zo zt zm zu zr zl zf oo go) H1 := hP.kept (fun k q hq => hk1 q.1 (hP k q hq).lt id)
  refine vx_catch (own := RL) (name := "java/lang/IndexOutOfBoundsException") hown [] (⟨0, 10, 13, 13⟩ : ExceptionTableEntry) [] ((vx_table (x := yL_removeRow) B (hts _ List.mem_cons_self)).trans rfl) ps_nil (by decide) (by decide) (hts (.classLink RL 13 "java/lang/IndexOutOfBoundsException") (List.mem_of_getElem? (i := 1) rfl)) (va_Nw.use rfl (hz.2.2.2.1 "java/lang/IndexOutOfBoundsException" (by decide))) hce hcv hcl ?_
  refine lv_astore (lv' := [(4, .ref q9), (0, .ref (ad 0))]) hx hb dL_removeRow_13 (lv_sub hl [0] rfl) (by decide) rfl (fun ls hl => ?_)
  refine lv_iconst (v := 1) hx hb dL_removeRow_15 (by decide) ?_
  exact W.iret (v := 1) hx hb hr (fun t ht hW => ⟨⟨1, (), rfl, rfl, by rw [ht]; exact hP1, hD⟩, hS1.F ht⟩) hS1.2.2 dL_removeRow_16
theorem x_set {zb : Tr} {zo : Tr} {zt : Tr} {p1 : Int32} {p2 : Int32} {p3 : Int32} {p4 : Int32} : f_X2_set_x zb zo zt p1 p2 p3 p4 = 0 ∨ f_X2_set_x zb zo zt p1 p2 p3 p4 = 1 ∨ f_X2_set_x zb zo zt p1 p2 p3 p4 = 2 := by
  rw [f_X2_set_x]
  repeat' split
  all_goals first | exact Or.inl (rfl) | exact Or.inr (Or.inl (rfl)) | exact Or.inr (Or.inr (rfl)) | exact (x_rcn _).elim (fun h => Or.inl (h)) (fun h => Or.inr (Or.inl (h))) | exact (x_rk _).elim (fun h => Or.inl (h)) (fun h => Or.inr (Or.inl (h))) | exact (x_rco _ _).elim (fun h => Or.inl (h)) (fun h => Or.inr (Or.inl (h))) | exact (x_rro _ _).elim (fun h => Or.inl (h)) (fun h => Or.inr (Or.inl (h))) | exact (x_rcf _ _).elim (fun h => Or.inl (h)) (fun h => Or.inr (Or.inl (h))) | exact (x_rn _).elim (fun h => Or.inl (h)) (fun h => Or.inr (Or.inr (h)))
set_option maxHeartbeats 4000000 in
set_option maxRecDepth 100000 in
theorem k_L_set (l : Launch) (D : va_G) (cyI cyZ cyJ : ClassId) (ad : Nat → Nat) (oo : Nat) (zb : Tr) (zo : Tr) (zt : Tr) (zm : Tr) (zu : Nat → Int32) (zr : Nat → Int32) (zl : Lr) (zf : Int32) (go : Nat → Int64) (p1 : Int32) (p2 : Int32) (p3 : Int32) (p4 : Int32) (A : Nat → Prop) (sz : Nat) (hAe : A = va_A (wO cyI cyZ cyJ ad zb zo zt zm zu zr zl zf oo go) sz) (hx9 : f_X2_set_x zb zo zt p1 p2 p3 p4 = 0) : Met l yL_set wsL_set ({ frames := 4, cells := 0, slots := 0, locals := 92 } : Room) (pcO D cyI cyZ cyJ sz [.ref (ad 0), .int p1, .int p2, .int p3, .int p4, .ref oo] (wO cyI cyZ cyJ ad zb zo zt zm zu zr zl zf oo go)) (mI D A (wO cyI cyZ cyJ ad (f_X2_set zb zo zt zf p1 p2 p3 p4).2.1 (f_X2_set zb zo zt zf p1 p2 p3 p4).2.2.1 (f_X2_set zb zo zt zf p1 p2 p3 p4).2.2.2.1 zm zu zr zl (f_X2_set zb zo zt zf p1 p2 p3 p4).2.2.2.2 oo (vp_updL go (0 : Int32).toNatClampNeg ((f_X2_set zb zo zt zf p1 p2 p3 p4).1).toInt64)) 0) 0 0 A := by
  refine va_MetW (cc := cL_set) (maxL := 7) (ret := some .int) (hh := [(0, 14, 17, 13), (0, 14, 21, 15)]) (by decide) rfl ?_
  intro p e s m args below meth c s₁ B hml hv
  obtain ⟨rfl, hsz, hP, hG, ⟨hz, hn⟩, hD0⟩ := hv
  have hx := B.exec
  have hb := B.bytes
  have hr := B.returns
  have hts := atoms_spec (ws := wsL_set) B.pre
  have hown : s.vm.findClass RL = some m.cls := findClass_of_methodNamed B.named
  subst hsz
  have hD : va_D A (wO cyI cyZ cyJ ad zb zo zt zm zu zr zl zf oo go) := by rw [hAe]; exact hD0.self
  have hA : ∀ q : Nat, s.heap.size ≤ q → A q := fun q h => by rw [hAe]; exact Or.inr h
  clear hAe hD0
  have hS : va_S A s.heap s.heap [] := va_S.rf
  have hl := lv_entry ([.ref (ad 0), .int p1, .int p2, .int p3, .int p4, .ref oo]) (n := 7) (Nat.le_of_ble_eq_true rfl)
  rw [lg_entry_eq]
  generalize (lg_sl ([.ref (ad 0), .int p1, .int p2, .int p3, .int p4, .ref oo]) ++ List.replicate (7 - (lg_sl ([.ref (ad 0), .int p1, .int p2, .int p3, .int p4, .ref oo])).length) Slot.unset).toArray = ls at hl ⊢
  have hl : lv_has ls 7 [(0, .ref (ad 0)), (1, .int p1), (2, .int p2), (3, .int p3), (4, .int p4), (5, .ref oo)] := hl
  have hP : va_P D vwCl (wO cyI cyZ cyJ ad zb zo zt zm zu zr zl zf oo go) s.heap := hP
  refine lv_aload hx hb dL_set_0 (lv_at hl 5 rfl) ?_
  refine lv_iconst (v := 0) hx hb dL_set_2 (by decide) ?_
  refine lv_aload_n hx hb dL_set_3 rfl (lv_at hl 0 rfl) ?_
  refine lv_iload_n hx hb dL_set_4 rfl (lv_at hl 1 rfl) ?_
  refine lv_iload_n hx hb dL_set_5 rfl (lv_at hl 2 rfl) ?_
  refine lv_iload_n hx hb dL_set_6 rfl (lv_at hl 3 rfl) ?_
  refine lv_iload hx hb dL_set_7 (lv_at hl 4 rfl) ?_
  refine mr_i (va_runV (As := [.int p1, .int p2, .int p3, .int p4]) (rest := [.int 0, .ref oo]) ⟨hx, hb, hml, hown, hts⟩ (k_X2_set l D cyI cyZ ad zb zo zt zm zu zr zl zf p1 p2 p3 p4 _ _ rfl hx9) (cwV 4 hts gL_set_X2_set rfl rfl rfl (by decide +kernel) ⟨Nat.le_of_ble_eq_true rfl, Nat.le_of_ble_eq_true rfl⟩) (pmV hG.1 (hP.sub (ws' := wZ cyI cyZ ad zb zo zt zm zu zr zl zf) [0, 1, 2, 3, 4, 5, 6, 7, 8, 9, 10, 11, 12, 13, 14, 15, 16, 17, 18, 19] rfl) (hD.sub (ws' := wZ cyI cyZ ad zb zo zt zm zu zr zl zf) [0, 1, 2, 3, 4, 5, 6, 7, 8, 9, 10, 11, 12, 13, 14, 15, 16, 17, 18, 19] (by decide) rfl) (ci := 2) rfl rfl rfl) rfl rfl hl.1 rfl (lv_room (Nat.le_of_ble_eq_true rfl)) dL_set_9 ⟨Nat.zero_le _, Nat.zero_le _⟩) hP hD hS hA [0, 1, 2, 3, 4, 5, 6, 7, 8, 9, 10, 11, 12, 13, 14, 15, 16, 17, 18, 19] [20] [1, 2, 3, 4, 5, 6, 7, 8, 9, 10, 11, 12, 13, 14, 15, 16, 17, 18, 19, 20, 0] rfl rfl (by decide) (by decide) (by decide) (w2 := wO cyI cyZ cyJ ad (f_X2_set zb zo zt zf p1 p2 p3 p4).2.1 (f_X2_set zb zo zt zf p1 p2 p3 p4).2.2.1 (f_X2_set zb zo zt zf p1 p2 p3 p4).2.2.2.1 zm zu zr zl (f_X2_set zb zo zt zf p1 p2 p3 p4).2.2.2.2 oo go) rfl (fun H locs hP hD hS => ?_)
  have hP : va_P D vwCl (wO cyI cyZ cyJ ad (f_X2_set zb zo zt zf p1 p2 p3 p4).2.1 (f_X2_set zb zo zt zf p1 p2 p3 p4).2.2.1 (f_X2_set zb zo zt zf p1 p2 p3 p4).2.2.2.1 zm zu zr zl (f_X2_set zb zo zt zf p1 p2 p3 p4).2.2.2.2 oo go) H := hP
  have hD : va_D A (wO cyI cyZ cyJ ad (f_X2_set zb zo zt zf p1 p2 p3 p4).2.1 (f_X2_set zb zo zt zf p1 p2 p3 p4).2.2.1 (f_X2_set zb zo zt zf p1 p2 p3 p4).2.2.2.1 zm zu zr zl (f_X2_set zb zo zt zf p1 p2 p3 p4).2.2.2.2 oo go) := hD
  refine lv_i2l (v := ((f_X2_set zb zo zt zf p1 p2 p3 p4).1).toInt64) hx hb dL_set_12 rfl ?_
  refine va_last hx hb hG.2 hP hD hS 20 0 rfl rfl (vp_in_nI (n := 0) (by decide) (by decide)) dL_set_13 (fun H locs hP hD hS => ?_)
  refine lv_goto (tgt := 25) hx hb dL_set_14 (by decide) ?_
  refine lv_iconst (v := 0) hx hb dL_set_25 (by decide) ?_
  have hP : va_P D vwCl (wO cyI cyZ cyJ ad (f_X2_set zb zo zt zf p1 p2 p3 p4).2.1 (f_X2_set zb zo zt zf p1 p2 p3 p4).2.2.1 (f_X2_set zb zo zt zf p1 p2 p3 p4).2.2.2.1 zm zu zr zl (f_X2_set zb zo zt zf p1 p2 p3 p4).2.2.2.2 oo (vp_updL go (0 : Int32).toNatClampNeg ((f_X2_set zb zo zt zf p1 p2 p3 p4).1).toInt64)) H := hP
  have hD : va_D A (wO cyI cyZ cyJ ad (f_X2_set zb zo zt zf p1 p2 p3 p4).2.1 (f_X2_set zb zo zt zf p1 p2 p3 p4).2.2.1 (f_X2_set zb zo zt zf p1 p2 p3 p4).2.2.2.1 zm zu zr zl (f_X2_set zb zo zt zf p1 p2 p3 p4).2.2.2.2 oo (vp_updL go (0 : Int32).toNatClampNeg ((f_X2_set zb zo zt zf p1 p2 p3 p4).1).toInt64)) := hD
  exact W.iret (v := 0) hx hb hr (fun t ht hW => ⟨⟨0, (), rfl, rfl, by rw [ht]; exact hP, hD⟩, hS.F ht⟩) hS.2.2 dL_set_26
set_option maxHeartbeats 4000000 in
set_option maxRecDepth 100000 in
theorem t_L_set_1 (l : Launch) (hlt : l.stackTraces = false) (D : va_G) (cyI cyZ cyJ : ClassId) (ad : Nat → Nat) (oo : Nat) (zb : Tr) (zo : Tr) (zt : Tr) (zm : Tr) (zu : Nat → Int32) (zr : Nat → Int32) (zl : Lr) (zf : Int32) (go : Nat → Int64) (p1 : Int32) (p2 : Int32) (p3 : Int32) (p4 : Int32) (A : Nat → Prop) (sz : Nat) (hAe : A = va_A (wO cyI cyZ cyJ ad zb zo zt zm zu zr zl zf oo go) sz) (hx9 : f_X2_set_x zb zo zt p1 p2 p3 p4 = 1) : Met l yL_set wsL_set ({ frames := 9, cells := 1, slots := 6, locals := 168 } : Room) (pcO D cyI cyZ cyJ sz [.ref (ad 0), .int p1, .int p2, .int p3, .int p4, .ref oo] (wO cyI cyZ cyJ ad zb zo zt zm zu zr zl zf oo go)) (mI D A (wO cyI cyZ cyJ ad zb zo zt zm zu zr zl zf oo go) 1) 1 6 A := by
  refine va_MetW (cc := cL_set) (maxL := 7) (ret := some .int) (hh := [(0, 14, 17, 13), (0, 14, 21, 15)]) (by decide) rfl ?_
  intro p e s m args below meth c s₁ B hml hv
  obtain ⟨rfl, hsz, hP, hG, ⟨hz, hn⟩, hD0⟩ := hv
  have hx := B.exec
  have hb := B.bytes
  have hr := B.returns
  have hts := atoms_spec (ws := wsL_set) B.pre
  have hown : s.vm.findClass RL = some m.cls := findClass_of_methodNamed B.named
  subst hsz
  have hD : va_D A (wO cyI cyZ cyJ ad zb zo zt zm zu zr zl zf oo go) := by rw [hAe]; exact hD0.self
  have hA : ∀ q : Nat, s.heap.size ≤ q → A q := fun q h => by rw [hAe]; exact Or.inr h
  clear hAe hD0
  have hS : va_S A s.heap s.heap [] := va_S.rf
  have hl := lv_entry ([.ref (ad 0), .int p1, .int p2, .int p3, .int p4, .ref oo]) (n := 7) (Nat.le_of_ble_eq_true rfl)
  rw [lg_entry_eq]
  generalize (lg_sl ([.ref (ad 0), .int p1, .int p2, .int p3, .int p4, .ref oo]) ++ List.replicate (7 - (lg_sl ([.ref (ad 0), .int p1, .int p2, .int p3, .int p4, .ref oo])).length) Slot.unset).toArray = ls at hl ⊢
  have hl : lv_has ls 7 [(0, .ref (ad 0)), (1, .int p1), (2, .int p2), (3, .int p3), (4, .int p4), (5, .ref oo)] := hl
  have hP : va_P D vwCl (wO cyI cyZ cyJ ad zb zo zt zm zu zr zl zf oo go) s.heap := hP
  refine lv_aload hx hb dL_set_0 (lv_at hl 5 rfl) ?_
  refine lv_iconst (v := 0) hx hb dL_set_2 (by decide) ?_
  refine lv_aload_n hx hb dL_set_3 rfl (lv_at hl 0 rfl) ?_
  refine lv_iload_n hx hb dL_set_4 rfl (lv_at hl 1 rfl) ?_
  refine lv_iload_n hx hb dL_set_5 rfl (lv_at hl 2 rfl) ?_
  refine lv_iload_n hx hb dL_set_6 rfl (lv_at hl 3 rfl) ?_
  refine lv_iload hx hb dL_set_7 (lv_at hl 4 rfl) ?_
  refine vx_calli (vx_runV (As := [.int p1, .int p2, .int p3, .int p4]) (rest := [.int 0, .ref oo]) ⟨hx, hb, hml, hown, hts⟩ (t_X2_set l hlt D cyI cyZ ad zb zo zt zm zu zr zl zf p1 p2 p3 p4 (by rw [hx9]; decide)) (cwV 4 hts gL_set_X2_set rfl rfl rfl (by decide +kernel) ⟨Nat.le_of_ble_eq_true rfl, Nat.le_of_ble_eq_true rfl⟩) (ptV hG.1 (hz.kept va_S.rf) (hP.sub (ws' := wZ cyI cyZ ad zb zo zt zm zu zr zl zf) [0, 1, 2, 3, 4, 5, 6, 7, 8, 9, 10, 11, 12, 13, 14, 15, 16, 17, 18, 19] rfl) (ci := 2) rfl rfl rfl) rfl rfl hl.1 rfl (lv_room (Nat.le_of_ble_eq_true rfl)) dL_set_9 ⟨Nat.le_of_ble_eq_true rfl, Nat.le_of_ble_eq_true rfl⟩) hS (fun _ _ h => h.elim) (fun _ h => h.elim) (fun _ _ h => h.elim) (fun E ce q9 u t H1 locs1 ht _ _ hE _ hk1 hS1 hce hcv hcl => ?_) (fun r u t H1 locs1 ht hvm h hb9 hz1 hk1 hS1 => h.elim)
  obtain rfl : E = "java/lang/IndexOutOfBoundsException" := hE.trans (by rw [hx9]; rfl)
  have hP1 : va_P D vwCl (wO cyI cyZ cyJ ad zb zo zt zm zu zr zl zf oo go) H1 := hP.kept (fun k q hq => hk1 q.1 (hP k q hq).lt id)
  refine vx_catch (own := RL) (name := "java/lang/IndexOutOfBoundsException") hown [] (⟨0, 14, 17, 13⟩ : ExceptionTableEntry) [(⟨0, 14, 21, 15⟩ : ExceptionTableEntry)] ((vx_table (x := yL_set) B (hts _ List.mem_cons_self)).trans rfl) ps_nil (by decide) (by decide) (hts (.classLink RL 13 "java/lang/IndexOutOfBoundsException") (List.mem_of_getElem? (i := 1) rfl)) (va_Nw.use rfl (hz.2.2.2.1 "java/lang/IndexOutOfBoundsException" (by decide))) hce hcv hcl ?_
  refine lv_astore (lv' := [(6, .ref q9), (0, .ref (ad 0))]) hx hb dL_set_17 (lv_sub hl [0] rfl) (by decide) rfl (fun ls hl => ?_)
  refine lv_iconst (v := 1) hx hb dL_set_19 (by decide) ?_
  exact W.iret (v := 1) hx hb hr (fun t ht hW => ⟨⟨1, (), rfl, rfl, by rw [ht]; exact hP1, hD⟩, hS1.F ht⟩) hS1.2.2 dL_set_20
set_option maxHeartbeats 4000000 in
set_option maxRecDepth 100000 in
theorem t_L_set_2 (l : Launch) (hlt : l.stackTraces = false) (D : va_G) (cyI cyZ cyJ : ClassId) (ad : Nat → Nat) (oo : Nat) (zb : Tr) (zo : Tr) (zt : Tr) (zm : Tr) (zu : Nat → Int32) (zr : Nat → Int32) (zl : Lr) (zf : Int32) (go : Nat → Int64) (p1 : Int32) (p2 : Int32) (p3 : Int32) (p4 : Int32) (A : Nat → Prop) (sz : Nat) (hAe : A = va_A (wO cyI cyZ cyJ ad zb zo zt zm zu zr zl zf oo go) sz) (hx9 : f_X2_set_x zb zo zt p1 p2 p3 p4 = 2) : Met l yL_set wsL_set ({ frames := 9, cells := 1, slots := 6, locals := 168 } : Room) (pcO D cyI cyZ cyJ sz [.ref (ad 0), .int p1, .int p2, .int p3, .int p4, .ref oo] (wO cyI cyZ cyJ ad zb zo zt zm zu zr zl zf oo go)) (mI D A (wO cyI cyZ cyJ ad zb zo zt zm zu zr zl zf oo go) 2) 1 6 A := by
  refine va_MetW (cc := cL_set) (maxL := 7) (ret := some .int) (hh := [(0, 14, 17, 13), (0, 14, 21, 15)]) (by decide) rfl ?_
  intro p e s m args below meth c s₁ B hml hv
  obtain ⟨rfl, hsz, hP, hG, ⟨hz, hn⟩, hD0⟩ := hv
  have hx := B.exec
  have hb := B.bytes
  have hr := B.returns
  have hts := atoms_spec (ws := wsL_set) B.pre
  have hown : s.vm.findClass RL = some m.cls := findClass_of_methodNamed B.named
  subst hsz
  have hD : va_D A (wO cyI cyZ cyJ ad zb zo zt zm zu zr zl zf oo go) := by rw [hAe]; exact hD0.self
  have hA : ∀ q : Nat, s.heap.size ≤ q → A q := fun q h => by rw [hAe]; exact Or.inr h
  clear hAe hD0
  have hS : va_S A s.heap s.heap [] := va_S.rf
  have hl := lv_entry ([.ref (ad 0), .int p1, .int p2, .int p3, .int p4, .ref oo]) (n := 7) (Nat.le_of_ble_eq_true rfl)
  rw [lg_entry_eq]
  generalize (lg_sl ([.ref (ad 0), .int p1, .int p2, .int p3, .int p4, .ref oo]) ++ List.replicate (7 - (lg_sl ([.ref (ad 0), .int p1, .int p2, .int p3, .int p4, .ref oo])).length) Slot.unset).toArray = ls at hl ⊢
  have hl : lv_has ls 7 [(0, .ref (ad 0)), (1, .int p1), (2, .int p2), (3, .int p3), (4, .int p4), (5, .ref oo)] := hl
  have hP : va_P D vwCl (wO cyI cyZ cyJ ad zb zo zt zm zu zr zl zf oo go) s.heap := hP
  refine lv_aload hx hb dL_set_0 (lv_at hl 5 rfl) ?_
  refine lv_iconst (v := 0) hx hb dL_set_2 (by decide) ?_
  refine lv_aload_n hx hb dL_set_3 rfl (lv_at hl 0 rfl) ?_
  refine lv_iload_n hx hb dL_set_4 rfl (lv_at hl 1 rfl) ?_
  refine lv_iload_n hx hb dL_set_5 rfl (lv_at hl 2 rfl) ?_
  refine lv_iload_n hx hb dL_set_6 rfl (lv_at hl 3 rfl) ?_
  refine lv_iload hx hb dL_set_7 (lv_at hl 4 rfl) ?_
  refine vx_calli (vx_runV (As := [.int p1, .int p2, .int p3, .int p4]) (rest := [.int 0, .ref oo]) ⟨hx, hb, hml, hown, hts⟩ (t_X2_set l hlt D cyI cyZ ad zb zo zt zm zu zr zl zf p1 p2 p3 p4 (by rw [hx9]; decide)) (cwV 4 hts gL_set_X2_set rfl rfl rfl (by decide +kernel) ⟨Nat.le_of_ble_eq_true rfl, Nat.le_of_ble_eq_true rfl⟩) (ptV hG.1 (hz.kept va_S.rf) (hP.sub (ws' := wZ cyI cyZ ad zb zo zt zm zu zr zl zf) [0, 1, 2, 3, 4, 5, 6, 7, 8, 9, 10, 11, 12, 13, 14, 15, 16, 17, 18, 19] rfl) (ci := 2) rfl rfl rfl) rfl rfl hl.1 rfl (lv_room (Nat.le_of_ble_eq_true rfl)) dL_set_9 ⟨Nat.le_of_ble_eq_true rfl, Nat.le_of_ble_eq_true rfl⟩) hS (fun _ _ h => h.elim) (fun _ h => h.elim) (fun _ _ h => h.elim) (fun E ce q9 u t H1 locs1 ht _ _ hE _ hk1 hS1 hce hcv hcl => ?_) (fun r u t H1 locs1 ht hvm h hb9 hz1 hk1 hS1 => h.elim)
  obtain rfl : E = "java/lang/IllegalArgumentException" := hE.trans (by rw [hx9]; rfl)
  have hP1 : va_P D vwCl (wO cyI cyZ cyJ ad zb zo zt zm zu zr zl zf oo go) H1 := hP.kept (fun k q hq => hk1 q.1 (hP k q hq).lt id)
  refine vx_catch (own := RL) (name := "java/lang/IllegalArgumentException") hown [(⟨0, 14, 17, 13⟩ : ExceptionTableEntry)] (⟨0, 14, 21, 15⟩ : ExceptionTableEntry) [] ((vx_table (x := yL_set) B (hts _ List.mem_cons_self)).trans rfl) (ps_cons (Or.inr ⟨by decide, "java/lang/IndexOutOfBoundsException", (hts (.classLink RL 13 "java/lang/IndexOutOfBoundsException") (List.mem_of_getElem? (i := 1) rfl)), hn.1⟩) ps_nil) (by decide) (by decide) (hts (.classLink RL 15 "java/lang/IllegalArgumentException") (List.mem_of_getElem? (i := 2) rfl)) (va_Nw.use rfl (hz.2.2.2.1 "java/lang/IllegalArgumentException" (by decide))) hce hcv hcl ?_
  refine lv_astore (lv' := [(6, .ref q9), (0, .ref (ad 0))]) hx hb dL_set_21 (lv_sub hl [0] rfl) (by decide) rfl (fun ls hl => ?_)
  refine lv_iconst (v := 2) hx hb dL_set_23 (by decide) ?_
  exact W.iret (v := 2) hx hb hr (fun t ht hW => ⟨⟨2, (), rfl, rfl, by rw [ht]; exact hP1, hD⟩, hS1.F ht⟩) hS1.2.2 dL_set_24
theorem x_setRule {p1 : Int32} {p2 : Int32} : f_X2_setRule_x p1 p2 = 0 ∨ f_X2_setRule_x p1 p2 = 1 ∨ f_X2_setRule_x p1 p2 = 2 := by
  rw [f_X2_setRule_x]
  repeat' split
  all_goals first | exact Or.inl (rfl) | exact Or.inr (Or.inl (rfl)) | exact Or.inr (Or.inr (rfl)) | exact (x_rcn _).elim (fun h => Or.inl (h)) (fun h => Or.inr (Or.inl (h))) | exact (x_rk _).elim (fun h => Or.inl (h)) (fun h => Or.inr (Or.inl (h))) | exact (x_rco _ _).elim (fun h => Or.inl (h)) (fun h => Or.inr (Or.inl (h))) | exact (x_rro _ _).elim (fun h => Or.inl (h)) (fun h => Or.inr (Or.inl (h))) | exact (x_rcf _ _).elim (fun h => Or.inl (h)) (fun h => Or.inr (Or.inl (h))) | exact (x_rn _).elim (fun h => Or.inl (h)) (fun h => Or.inr (Or.inr (h)))
set_option maxHeartbeats 4000000 in
set_option maxRecDepth 100000 in
theorem k_L_setRule (l : Launch) (D : va_G) (cyI cyZ cyJ : ClassId) (ad : Nat → Nat) (oo : Nat) (zb : Tr) (zo : Tr) (zt : Tr) (zm : Tr) (zu : Nat → Int32) (zr : Nat → Int32) (zl : Lr) (zf : Int32) (go : Nat → Int64) (p1 : Int32) (p2 : Int32) (A : Nat → Prop) (sz : Nat) (hAe : A = va_A (wO cyI cyZ cyJ ad zb zo zt zm zu zr zl zf oo go) sz) (hx9 : f_X2_setRule_x p1 p2 = 0) : Met l yL_setRule wsL_setRule ({ frames := 3, cells := 0, slots := 0, locals := 63 } : Room) (pcO D cyI cyZ cyJ sz [.ref (ad 0), .int p1, .int p2, .ref oo] (wO cyI cyZ cyJ ad zb zo zt zm zu zr zl zf oo go)) (mI D A (wO cyI cyZ cyJ ad zb zo zt zm (f_X2_setRule zu zf p1 p2).2.1 zr zl (f_X2_setRule zu zf p1 p2).2.2 oo (vp_updL go (0 : Int32).toNatClampNeg ((f_X2_setRule zu zf p1 p2).1).toInt64)) 0) 0 0 A := by
  refine va_MetW (cc := cL_setRule) (maxL := 5) (ret := some .int) (hh := [(0, 10, 13, 13), (0, 10, 17, 15)]) (by decide) rfl ?_
  intro p e s m args below meth c s₁ B hml hv
  obtain ⟨rfl, hsz, hP, hG, ⟨hz, hn⟩, hD0⟩ := hv
  have hx := B.exec
  have hb := B.bytes
  have hr := B.returns
  have hts := atoms_spec (ws := wsL_setRule) B.pre
  have hown : s.vm.findClass RL = some m.cls := findClass_of_methodNamed B.named
  subst hsz
  have hD : va_D A (wO cyI cyZ cyJ ad zb zo zt zm zu zr zl zf oo go) := by rw [hAe]; exact hD0.self
  have hA : ∀ q : Nat, s.heap.size ≤ q → A q := fun q h => by rw [hAe]; exact Or.inr h
  clear hAe hD0
  have hS : va_S A s.heap s.heap [] := va_S.rf
  have hl := lv_entry ([.ref (ad 0), .int p1, .int p2, .ref oo]) (n := 5) (Nat.le_of_ble_eq_true rfl)
  rw [lg_entry_eq]
  generalize (lg_sl ([.ref (ad 0), .int p1, .int p2, .ref oo]) ++ List.replicate (5 - (lg_sl ([.ref (ad 0), .int p1, .int p2, .ref oo])).length) Slot.unset).toArray = ls at hl ⊢
  have hl : lv_has ls 5 [(0, .ref (ad 0)), (1, .int p1), (2, .int p2), (3, .ref oo)] := hl
  have hP : va_P D vwCl (wO cyI cyZ cyJ ad zb zo zt zm zu zr zl zf oo go) s.heap := hP
  refine lv_aload_n hx hb dL_setRule_0 rfl (lv_at hl 3 rfl) ?_
  refine lv_iconst (v := 0) hx hb dL_setRule_1 (by decide) ?_
  refine lv_aload_n hx hb dL_setRule_2 rfl (lv_at hl 0 rfl) ?_
  refine lv_iload_n hx hb dL_setRule_3 rfl (lv_at hl 1 rfl) ?_
  refine lv_iload_n hx hb dL_setRule_4 rfl (lv_at hl 2 rfl) ?_
  refine mr_i (va_runV (As := [.int p1, .int p2]) (rest := [.int 0, .ref oo]) ⟨hx, hb, hml, hown, hts⟩ (k_X2_setRule l D cyI cyZ ad zb zo zt zm zu zr zl zf p1 p2 _ _ rfl hx9) (cwV 2 hts gL_setRule_X2_setRule rfl rfl rfl (by decide +kernel) ⟨Nat.le_of_ble_eq_true rfl, Nat.le_of_ble_eq_true rfl⟩) (pmV hG.1 (hP.sub (ws' := wZ cyI cyZ ad zb zo zt zm zu zr zl zf) [0, 1, 2, 3, 4, 5, 6, 7, 8, 9, 10, 11, 12, 13, 14, 15, 16, 17, 18, 19] rfl) (hD.sub (ws' := wZ cyI cyZ ad zb zo zt zm zu zr zl zf) [0, 1, 2, 3, 4, 5, 6, 7, 8, 9, 10, 11, 12, 13, 14, 15, 16, 17, 18, 19] (by decide) rfl) (ci := 2) rfl rfl rfl) rfl rfl hl.1 rfl (lv_room (Nat.le_of_ble_eq_true rfl)) dL_setRule_5 ⟨Nat.zero_le _, Nat.zero_le _⟩) hP hD hS hA [0, 1, 2, 3, 4, 5, 6, 7, 8, 9, 10, 11, 12, 13, 14, 15, 16, 17, 18, 19] [20] [1, 2, 3, 4, 5, 6, 7, 8, 9, 10, 11, 12, 13, 14, 15, 16, 17, 18, 19, 20, 0] rfl rfl (by decide) (by decide) (by decide) (w2 := wO cyI cyZ cyJ ad zb zo zt zm (f_X2_setRule zu zf p1 p2).2.1 zr zl (f_X2_setRule zu zf p1 p2).2.2 oo go) rfl (fun H locs hP hD hS => ?_)
  have hP : va_P D vwCl (wO cyI cyZ cyJ ad zb zo zt zm (f_X2_setRule zu zf p1 p2).2.1 zr zl (f_X2_setRule zu zf p1 p2).2.2 oo go) H := hP
  have hD : va_D A (wO cyI cyZ cyJ ad zb zo zt zm (f_X2_setRule zu zf p1 p2).2.1 zr zl (f_X2_setRule zu zf p1 p2).2.2 oo go) := hD
  refine lv_i2l (v := ((f_X2_setRule zu zf p1 p2).1).toInt64) hx hb dL_setRule_8 rfl ?_
  refine va_last hx hb hG.2 hP hD hS 20 0 rfl rfl (vp_in_nI (n := 0) (by decide) (by decide)) dL_setRule_9 (fun H locs hP hD hS => ?_)
  refine lv_goto (tgt := 21) hx hb dL_setRule_10 (by decide) ?_
  refine lv_iconst (v := 0) hx hb dL_setRule_21 (by decide) ?_
  have hP : va_P D vwCl (wO cyI cyZ cyJ ad zb zo zt zm (f_X2_setRule zu zf p1 p2).2.1 zr zl (f_X2_setRule zu zf p1 p2).2.2 oo (vp_updL go (0 : Int32).toNatClampNeg ((f_X2_setRule zu zf p1 p2).1).toInt64)) H := hP
  have hD : va_D A (wO cyI cyZ cyJ ad zb zo zt zm (f_X2_setRule zu zf p1 p2).2.1 zr zl (f_X2_setRule zu zf p1 p2).2.2 oo (vp_updL go (0 : Int32).toNatClampNeg ((f_X2_setRule zu zf p1 p2).1).toInt64)) := hD
  exact W.iret (v := 0) hx hb hr (fun t ht hW => ⟨⟨0, (), rfl, rfl, by rw [ht]; exact hP, hD⟩, hS.F ht⟩) hS.2.2 dL_setRule_22
set_option maxHeartbeats 4000000 in
set_option maxRecDepth 100000 in
theorem t_L_setRule_1 (l : Launch) (hlt : l.stackTraces = false) (D : va_G) (cyI cyZ cyJ : ClassId) (ad : Nat → Nat) (oo : Nat) (zb : Tr) (zo : Tr) (zt : Tr) (zm : Tr) (zu : Nat → Int32) (zr : Nat → Int32) (zl : Lr) (zf : Int32) (go : Nat → Int64) (p1 : Int32) (p2 : Int32) (A : Nat → Prop) (sz : Nat) (hAe : A = va_A (wO cyI cyZ cyJ ad zb zo zt zm zu zr zl zf oo go) sz) (hx9 : f_X2_setRule_x p1 p2 = 1) : Met l yL_setRule wsL_setRule ({ frames := 8, cells := 1, slots := 6, locals := 143 } : Room) (pcO D cyI cyZ cyJ sz [.ref (ad 0), .int p1, .int p2, .ref oo] (wO cyI cyZ cyJ ad zb zo zt zm zu zr zl zf oo go)) (mI D A (wO cyI cyZ cyJ ad zb zo zt zm zu zr zl zf oo go) 1) 1 6 A := by
  refine va_MetW (cc := cL_setRule) (maxL := 5) (ret := some .int) (hh := [(0, 10, 13, 13), (0, 10, 17, 15)]) (by decide) rfl ?_
  intro p e s m args below meth c s₁ B hml hv
  obtain ⟨rfl, hsz, hP, hG, ⟨hz, hn⟩, hD0⟩ := hv
  have hx := B.exec
  have hb := B.bytes
  have hr := B.returns
  have hts := atoms_spec (ws := wsL_setRule) B.pre
  have hown : s.vm.findClass RL = some m.cls := findClass_of_methodNamed B.named
  subst hsz
  have hD : va_D A (wO cyI cyZ cyJ ad zb zo zt zm zu zr zl zf oo go) := by rw [hAe]; exact hD0.self
  have hA : ∀ q : Nat, s.heap.size ≤ q → A q := fun q h => by rw [hAe]; exact Or.inr h
  clear hAe hD0
  have hS : va_S A s.heap s.heap [] := va_S.rf
  have hl := lv_entry ([.ref (ad 0), .int p1, .int p2, .ref oo]) (n := 5) (Nat.le_of_ble_eq_true rfl)
  rw [lg_entry_eq]
  generalize (lg_sl ([.ref (ad 0), .int p1, .int p2, .ref oo]) ++ List.replicate (5 - (lg_sl ([.ref (ad 0), .int p1, .int p2, .ref oo])).length) Slot.unset).toArray = ls at hl ⊢
  have hl : lv_has ls 5 [(0, .ref (ad 0)), (1, .int p1), (2, .int p2), (3, .ref oo)] := hl
  have hP : va_P D vwCl (wO cyI cyZ cyJ ad zb zo zt zm zu zr zl zf oo go) s.heap := hP
  refine lv_aload_n hx hb dL_setRule_0 rfl (lv_at hl 3 rfl) ?_
  refine lv_iconst (v := 0) hx hb dL_setRule_1 (by decide) ?_
  refine lv_aload_n hx hb dL_setRule_2 rfl (lv_at hl 0 rfl) ?_
  refine lv_iload_n hx hb dL_setRule_3 rfl (lv_at hl 1 rfl) ?_
  refine lv_iload_n hx hb dL_setRule_4 rfl (lv_at hl 2 rfl) ?_
  refine vx_calli (vx_runV (As := [.int p1, .int p2]) (rest := [.int 0, .ref oo]) ⟨hx, hb, hml, hown, hts⟩ (t_X2_setRule l hlt D cyI cyZ ad zb zo zt zm zu zr zl zf p1 p2 (by rw [hx9]; decide)) (cwV 2 hts gL_setRule_X2_setRule rfl rfl rfl (by decide +kernel) ⟨Nat.le_of_ble_eq_true rfl, Nat.le_of_ble_eq_true rfl⟩) (ptV hG.1 (hz.kept va_S.rf) (hP.sub (ws' := wZ cyI cyZ ad zb zo zt zm zu zr zl zf) [0, 1, 2, 3, 4, 5, 6, 7, 8, 9, 10, 11, 12, 13, 14, 15, 16, 17, 18, 19] rfl) (ci := 2) rfl rfl rfl) rfl rfl hl.1 rfl (lv_room (Nat.le_of_ble_eq_true rfl)) dL_setRule_5 ⟨Nat.le_of_ble_eq_true rfl, Nat.le_of_ble_eq_true rfl⟩) hS (fun _ _ h => h.elim) (fun _ h => h.elim) (fun _ _ h => h.elim) (fun E ce q9 u t H1 locs1 ht _ _ hE _ hk1 hS1 hce hcv hcl => ?_) (fun r u t H1 locs1 ht hvm h hb9 hz1 hk1 hS1 => h.elim)
  obtain rfl : E = "java/lang/IndexOutOfBoundsException" := hE.trans (by rw [hx9]; rfl)
  have hP1 : va_P D vwCl (wO cyI cyZ cyJ ad zb zo zt zm zu zr zl zf oo go) H1 := hP.kept (fun k q hq => hk1 q.1 (hP k q hq).lt id)
  refine vx_catch (own := RL) (name := "java/lang/IndexOutOfBoundsException") hown [] (⟨0, 10, 13, 13⟩ : ExceptionTableEntry) [(⟨0, 10, 17, 15⟩ : ExceptionTableEntry)] ((vx_table (x := yL_setRule) B (hts _ List.mem_cons_self)).trans rfl) ps_nil (by decide) (by decide) (hts (.classLink RL 13 "java/lang/IndexOutOfBoundsException") (List.mem_of_getElem? (i := 1) rfl)) (va_Nw.use rfl (hz.2.2.2.1 "java/lang/IndexOutOfBoundsException" (by decide))) hce hcv hcl ?_
  refine lv_astore (lv' := [(4, .ref q9), (0, .ref (ad 0))]) hx hb dL_setRule_13 (lv_sub hl [0] rfl) (by decide) rfl (fun ls hl => ?_)
  refine lv_iconst (v := 1) hx hb dL_setRule_15 (by decide) ?_
  exact W.iret (v := 1) hx hb hr (fun t ht hW => ⟨⟨1, (), rfl, rfl, by rw [ht]; exact hP1, hD⟩, hS1.F ht⟩) hS1.2.2 dL_setRule_16
set_option maxHeartbeats 4000000 in
set_option maxRecDepth 100000 in
theorem t_L_setRule_2 (l : Launch) (hlt : l.stackTraces = false) (D : va_G) (cyI cyZ cyJ : ClassId) (ad : Nat → Nat) (oo : Nat) (zb : Tr) (zo : Tr) (zt : Tr) (zm : Tr) (zu : Nat → Int32) (zr : Nat → Int32) (zl : Lr) (zf : Int32) (go : Nat → Int64) (p1 : Int32) (p2 : Int32) (A : Nat → Prop) (sz : Nat) (hAe : A = va_A (wO cyI cyZ cyJ ad zb zo zt zm zu zr zl zf oo go) sz) (hx9 : f_X2_setRule_x p1 p2 = 2) : Met l yL_setRule wsL_setRule ({ frames := 8, cells := 1, slots := 6, locals := 143 } : Room) (pcO D cyI cyZ cyJ sz [.ref (ad 0), .int p1, .int p2, .ref oo] (wO cyI cyZ cyJ ad zb zo zt zm zu zr zl zf oo go)) (mI D A (wO cyI cyZ cyJ ad zb zo zt zm zu zr zl zf oo go) 2) 1 6 A := by
  refine va_MetW (cc := cL_setRule) (maxL := 5) (ret := some .int) (hh := [(0, 10, 13, 13), (0, 10, 17, 15)]) (by decide) rfl ?_
  intro p e s m args below meth c s₁ B hml hv
  obtain ⟨rfl, hsz, hP, hG, ⟨hz, hn⟩, hD0⟩ := hv
  have hx := B.exec
  have hb := B.bytes
  have hr := B.returns
  have hts := atoms_spec (ws := wsL_setRule) B.pre
  have hown : s.vm.findClass RL = some m.cls := findClass_of_methodNamed B.named
  subst hsz
  have hD : va_D A (wO cyI cyZ cyJ ad zb zo zt zm zu zr zl zf oo go) := by rw [hAe]; exact hD0.self
  have hA : ∀ q : Nat, s.heap.size ≤ q → A q := fun q h => by rw [hAe]; exact Or.inr h
  clear hAe hD0
  have hS : va_S A s.heap s.heap [] := va_S.rf
  have hl := lv_entry ([.ref (ad 0), .int p1, .int p2, .ref oo]) (n := 5) (Nat.le_of_ble_eq_true rfl)
  rw [lg_entry_eq]
  generalize (lg_sl ([.ref (ad 0), .int p1, .int p2, .ref oo]) ++ List.replicate (5 - (lg_sl ([.ref (ad 0), .int p1, .int p2, .ref oo])).length) Slot.unset).toArray = ls at hl ⊢
  have hl : lv_has ls 5 [(0, .ref (ad 0)), (1, .int p1), (2, .int p2), (3, .ref oo)] := hl
  have hP : va_P D vwCl (wO cyI cyZ cyJ ad zb zo zt zm zu zr zl zf oo go) s.heap := hP
  refine lv_aload_n hx hb dL_setRule_0 rfl (lv_at hl 3 rfl) ?_
  refine lv_iconst (v := 0) hx hb dL_setRule_1 (by decide) ?_
  refine lv_aload_n hx hb dL_setRule_2 rfl (lv_at hl 0 rfl) ?_
  refine lv_iload_n hx hb dL_setRule_3 rfl (lv_at hl 1 rfl) ?_
  refine lv_iload_n hx hb dL_setRule_4 rfl (lv_at hl 2 rfl) ?_
  refine vx_calli (vx_runV (As := [.int p1, .int p2]) (rest := [.int 0, .ref oo]) ⟨hx, hb, hml, hown, hts⟩ (t_X2_setRule l hlt D cyI cyZ ad zb zo zt zm zu zr zl zf p1 p2 (by rw [hx9]; decide)) (cwV 2 hts gL_setRule_X2_setRule rfl rfl rfl (by decide +kernel) ⟨Nat.le_of_ble_eq_true rfl, Nat.le_of_ble_eq_true rfl⟩) (ptV hG.1 (hz.kept va_S.rf) (hP.sub (ws' := wZ cyI cyZ ad zb zo zt zm zu zr zl zf) [0, 1, 2, 3, 4, 5, 6, 7, 8, 9, 10, 11, 12, 13, 14, 15, 16, 17, 18, 19] rfl) (ci := 2) rfl rfl rfl) rfl rfl hl.1 rfl (lv_room (Nat.le_of_ble_eq_true rfl)) dL_setRule_5 ⟨Nat.le_of_ble_eq_true rfl, Nat.le_of_ble_eq_true rfl⟩) hS (fun _ _ h => h.elim) (fun _ h => h.elim) (fun _ _ h => h.elim) (fun E ce q9 u t H1 locs1 ht _ _ hE _ hk1 hS1 hce hcv hcl => ?_) (fun r u t H1 locs1 ht hvm h hb9 hz1 hk1 hS1 => h.elim)
  obtain rfl : E = "java/lang/IllegalArgumentException" := hE.trans (by rw [hx9]; rfl)
  have hP1 : va_P D vwCl (wO cyI cyZ cyJ ad zb zo zt zm zu zr zl zf oo go) H1 := hP.kept (fun k q hq => hk1 q.1 (hP k q hq).lt id)
  refine vx_catch (own := RL) (name := "java/lang/IllegalArgumentException") hown [(⟨0, 10, 13, 13⟩ : ExceptionTableEntry)] (⟨0, 10, 17, 15⟩ : ExceptionTableEntry) [] ((vx_table (x := yL_setRule) B (hts _ List.mem_cons_self)).trans rfl) (ps_cons (Or.inr ⟨by decide, "java/lang/IndexOutOfBoundsException", (hts (.classLink RL 13 "java/lang/IndexOutOfBoundsException") (List.mem_of_getElem? (i := 1) rfl)), hn.1⟩) ps_nil) (by decide) (by decide) (hts (.classLink RL 15 "java/lang/IllegalArgumentException") (List.mem_of_getElem? (i := 2) rfl)) (va_Nw.use rfl (hz.2.2.2.1 "java/lang/IllegalArgumentException" (by decide))) hce hcv hcl ?_
  refine lv_astore (lv' := [(4, .ref q9), (0, .ref (ad 0))]) hx hb dL_setRule_17 (lv_sub hl [0] rfl) (by decide) rfl (fun ls hl => ?_)
  refine lv_iconst (v := 2) hx hb dL_setRule_19 (by decide) ?_
  exact W.iret (v := 2) hx hb hr (fun t ht hW => ⟨⟨2, (), rfl, rfl, by rw [ht]; exact hP1, hD⟩, hS1.F ht⟩) hS1.2.2 dL_setRule_20
theorem x_setReference {p1 : Int32} : f_X2_setReference_x p1 = 0 ∨ f_X2_setReference_x p1 = 1 := by
  rw [f_X2_setReference_x]
  repeat' split
  all_goals first | exact x_rcn _ | exact x_rk _ | exact x_rco _ _ | exact x_rro _ _ | exact x_rcf _ _ | exact Or.inl rfl | exact Or.inr rfl
set_option maxHeartbeats 4000000 in
set_option maxRecDepth 100000 in
theorem k_L_setReference (l : Launch) (D : va_G) (cyI cyZ cyJ : ClassId) (ad : Nat → Nat) (oo : Nat) (zb : Tr) (zo : Tr) (zt : Tr) (zm : Tr) (zu : Nat → Int32) (zr : Nat → Int32) (zl : Lr) (zf : Int32) (go : Nat → Int64) (p1 : Int32) (p2 : Int32) (A : Nat → Prop) (sz : Nat) (hAe : A = va_A (wO cyI cyZ cyJ ad zb zo zt zm zu zr zl zf oo go) sz) (hb2 : p2 = 0 ∨ p2 = 1) (hx9 : f_X2_setReference_x p1 = 0) : Met l yL_setReference wsL_setReference ({ frames := 3, cells := 0, slots := 0, locals := 63 } : Room) (pcO D cyI cyZ cyJ sz [.ref (ad 0), .int p1, .int p2, .ref oo] (wO cyI cyZ cyJ ad zb zo zt zm zu zr zl zf oo go)) (mI D A (wO cyI cyZ cyJ ad zb zo zt zm zu (f_X2_setReference zr zf p1 p2).2.1 zl (f_X2_setReference zr zf p1 p2).2.2 oo (vp_updL go (0 : Int32).toNatClampNeg (if (f_X2_setReference zr zf p1 p2).1 = 0 then (0 : Int64) else 1))) 0) 0 0 A := by
  refine va_MetW (cc := cL_setReference) (maxL := 5) (ret := some .int) (hh := [(0, 17, 20, 13)]) (by decide) rfl ?_
  intro p e s m args below meth c s₁ B hml hv
  obtain ⟨rfl, hsz, hP, hG, ⟨hz, hn⟩, hD0⟩ := hv
  have hx := B.exec
  have hb := B.bytes
  have hr := B.returns
  have hts := atoms_spec (ws := wsL_setReference) B.pre
  have hown : s.vm.findClass RL = some m.cls := findClass_of_methodNamed B.named
  subst hsz
  have hD : va_D A (wO cyI cyZ cyJ ad zb zo zt zm zu zr zl zf oo go) := by rw [hAe]; exact hD0.self
  have hA : ∀ q : Nat, s.heap.size ≤ q → A q := fun q h => by rw [hAe]; exact Or.inr h
  clear hAe hD0
  have hS : va_S A s.heap s.heap [] := va_S.rf
  have hl := lv_entry ([.ref (ad 0), .int p1, .int p2, .ref oo]) (n := 5) (Nat.le_of_ble_eq_true rfl)
  rw [lg_entry_eq]
  generalize (lg_sl ([.ref (ad 0), .int p1, .int p2, .ref oo]) ++ List.replicate (5 - (lg_sl ([.ref (ad 0), .int p1, .int p2, .ref oo])).length) Slot.unset).toArray = ls at hl ⊢
  have hl : lv_has ls 5 [(0, .ref (ad 0)), (1, .int p1), (2, .int p2), (3, .ref oo)] := hl
  have hP : va_P D vwCl (wO cyI cyZ cyJ ad zb zo zt zm zu zr zl zf oo go) s.heap := hP
  refine lv_aload_n hx hb dL_setReference_0 rfl (lv_at hl 3 rfl) ?_
  refine lv_iconst (v := 0) hx hb dL_setReference_1 (by decide) ?_
  refine lv_aload_n hx hb dL_setReference_2 rfl (lv_at hl 0 rfl) ?_
  refine lv_iload_n hx hb dL_setReference_3 rfl (lv_at hl 1 rfl) ?_
  refine lv_iload_n hx hb dL_setReference_4 rfl (lv_at hl 2 rfl) ?_
  refine mr_i (va_runV (As := [.int p1, .int p2]) (rest := [.int 0, .ref oo]) ⟨hx, hb, hml, hown, hts⟩ (k_X2_setReference l D cyI cyZ ad zb zo zt zm zu zr zl zf p1 p2 _ _ rfl hb2 hx9) (cwV 2 hts gL_setReference_X2_setReference rfl rfl rfl (by decide +kernel) ⟨Nat.le_of_ble_eq_true rfl, Nat.le_of_ble_eq_true rfl⟩) (pmV hG.1 (hP.sub (ws' := wZ cyI cyZ ad zb zo zt zm zu zr zl zf) [0, 1, 2, 3, 4, 5, 6, 7, 8, 9, 10, 11, 12, 13, 14, 15, 16, 17, 18, 19] rfl) (hD.sub (ws' := wZ cyI cyZ ad zb zo zt zm zu zr zl zf) [0, 1, 2, 3, 4, 5, 6, 7, 8, 9, 10, 11, 12, 13, 14, 15, 16, 17, 18, 19] (by decide) rfl) (ci := 2) rfl rfl rfl) rfl rfl hl.1 rfl (lv_room (Nat.le_of_ble_eq_true rfl)) dL_setReference_5 ⟨Nat.zero_le _, Nat.zero_le _⟩) hP hD hS hA [0, 1, 2, 3, 4, 5, 6, 7, 8, 9, 10, 11, 12, 13, 14, 15, 16, 17, 18, 19] [20] [1, 2, 3, 4, 5, 6, 7, 8, 9, 10, 11, 12, 13, 14, 15, 16, 17, 18, 19, 20, 0] rfl rfl (by decide) (by decide) (by decide) (w2 := wO cyI cyZ cyJ ad zb zo zt zm zu (f_X2_setReference zr zf p1 p2).2.1 zl (f_X2_setReference zr zf p1 p2).2.2 oo go) rfl (fun H locs hP hD hS => ?_)
  have hP : va_P D vwCl (wO cyI cyZ cyJ ad zb zo zt zm zu (f_X2_setReference zr zf p1 p2).2.1 zl (f_X2_setReference zr zf p1 p2).2.2 oo go) H := hP
  have hD : va_D A (wO cyI cyZ cyJ ad zb zo zt zm zu (f_X2_setReference zr zf p1 p2).2.1 zl (f_X2_setReference zr zf p1 p2).2.2 oo go) := hD
  refine lv_if_eq (tgt := 15) hx hb dL_setReference_8 (by decide) (fun cz => ?_) (fun cz => ?_)
  · refine lv_lconst (v := 0) hx hb dL_setReference_15 rfl ?_
    refine va_last hx hb hG.2 hP hD hS 20 0 rfl rfl (vp_in_nI (n := 0) (by decide) (by decide)) dL_setReference_16 (fun H locs hP hD hS => ?_)
    refine lv_goto (tgt := 24) hx hb dL_setReference_17 (by decide) ?_
    refine lv_iconst (v := 0) hx hb dL_setReference_24 (by decide) ?_
    have eo : (if (f_X2_setReference zr zf p1 p2).1 = 0 then (0 : Int64) else 1) = 0 := if_pos cz
    have hP : va_P D vwCl (wO cyI cyZ cyJ ad zb zo zt zm zu (f_X2_setReference zr zf p1 p2).2.1 zl (f_X2_setReference zr zf p1 p2).2.2 oo (vp_updL go (0 : Int32).toNatClampNeg (if (f_X2_setReference zr zf p1 p2).1 = 0 then (0 : Int64) else 1))) H := by rw [eo]; exact hP
    have hD : va_D A (wO cyI cyZ cyJ ad zb zo zt zm zu (f_X2_setReference zr zf p1 p2).2.1 zl (f_X2_setReference zr zf p1 p2).2.2 oo (vp_updL go (0 : Int32).toNatClampNeg (if (f_X2_setReference zr zf p1 p2).1 = 0 then (0 : Int64) else 1))) := by rw [eo]; exact hD
    exact W.iret (v := 0) hx hb hr (fun t ht hW => ⟨⟨0, (), rfl, rfl, by rw [ht]; exact hP, hD⟩, hS.F ht⟩) hS.2.2 dL_setReference_25
  · refine lv_lconst (v := 1) hx hb dL_setReference_11 rfl ?_
    refine lv_goto (tgt := 16) hx hb dL_setReference_12 (by decide) ?_
    refine va_last hx hb hG.2 hP hD hS 20 0 rfl rfl (vp_in_nI (n := 0) (by decide) (by decide)) dL_setReference_16 (fun H locs hP hD hS => ?_)
    refine lv_goto (tgt := 24) hx hb dL_setReference_17 (by decide) ?_
    refine lv_iconst (v := 0) hx hb dL_setReference_24 (by decide) ?_
    have eo : (if (f_X2_setReference zr zf p1 p2).1 = 0 then (0 : Int64) else 1) = 1 := if_neg cz
    have hP : va_P D vwCl (wO cyI cyZ cyJ ad zb zo zt zm zu (f_X2_setReference zr zf p1 p2).2.1 zl (f_X2_setReference zr zf p1 p2).2.2 oo (vp_updL go (0 : Int32).toNatClampNeg (if (f_X2_setReference zr zf p1 p2).1 = 0 then (0 : Int64) else 1))) H := by rw [eo]; exact hP
    have hD : va_D A (wO cyI cyZ cyJ ad zb zo zt zm zu (f_X2_setReference zr zf p1 p2).2.1 zl (f_X2_setReference zr zf p1 p2).2.2 oo (vp_updL go (0 : Int32).toNatClampNeg (if (f_X2_setReference zr zf p1 p2).1 = 0 then (0 : Int64) else 1))) := by rw [eo]; exact hD
    exact W.iret (v := 0) hx hb hr (fun t ht hW => ⟨⟨0, (), rfl, rfl, by rw [ht]; exact hP, hD⟩, hS.F ht⟩) hS.2.2 dL_setReference_25
set_option maxHeartbeats 4000000 in
set_option maxRecDepth 100000 in
theorem t_L_setReference_1 (l : Launch) (hlt : l.stackTraces = false) (D : va_G) (cyI cyZ cyJ : ClassId) (ad : Nat → Nat) (oo : Nat) (zb : Tr) (zo : Tr) (zt : Tr) (zm : Tr) (zu : Nat → Int32) (zr : Nat → Int32) (zl : Lr) (zf : Int32) (go : Nat → Int64) (p1 : Int32) (p2 : Int32) (A : Nat → Prop) (sz : Nat) (hAe : A = va_A (wO cyI cyZ cyJ ad zb zo zt zm zu zr zl zf oo go) sz) (hb2 : p2 = 0 ∨ p2 = 1) (hx9 : f_X2_setReference_x p1 = 1) : Met l yL_setReference wsL_setReference ({ frames := 8, cells := 1, slots := 6, locals := 143 } : Room) (pcO D cyI cyZ cyJ sz [.ref (ad 0), .int p1, .int p2, .ref oo] (wO cyI cyZ cyJ ad zb zo zt zm zu zr zl zf oo go)) (mI D A (wO cyI cyZ cyJ ad zb zo zt zm zu zr zl zf oo go) 1) 1 6 A := by
  refine va_MetW (cc := cL_setReference) (maxL := 5) (ret := some .int) (hh := [(0, 17, 20, 13)]) (by decide) rfl ?_
  intro p e s m args below meth c s₁ B hml hv
  obtain ⟨rfl, hsz, hP, hG, ⟨hz, hn⟩, hD0⟩ := hv
  have hx := B.exec
  have hb := B.bytes
  have hr := B.returns
  have hts := atoms_spec (ws := wsL_setReference) B.pre
  have hown : s.vm.findClass RL = some m.cls := findClass_of_methodNamed B.named
  subst hsz
  have hD : va_D A (wO cyI cyZ cyJ ad zb zo zt zm zu zr zl zf oo go) := by rw [hAe]; exact hD0.self
  have hA : ∀ q : Nat, s.heap.size ≤ q → A q := fun q h => by rw [hAe]; exact Or.inr h
  clear hAe hD0
  have hS : va_S A s.heap s.heap [] := va_S.rf
  have hl := lv_entry ([.ref (ad 0), .int p1, .int p2, .ref oo]) (n := 5) (Nat.le_of_ble_eq_true rfl)
  rw [lg_entry_eq]
  generalize (lg_sl ([.ref (ad 0), .int p1, .int p2, .ref oo]) ++ List.replicate (5 - (lg_sl ([.ref (ad 0), .int p1, .int p2, .ref oo])).length) Slot.unset).toArray = ls at hl ⊢
  have hl : lv_has ls 5 [(0, .ref (ad 0)), (1, .int p1), (2, .int p2), (3, .ref oo)] := hl
  have hP : va_P D vwCl (wO cyI cyZ cyJ ad zb zo zt zm zu zr zl zf oo go) s.heap := hP
  refine lv_aload_n hx hb dL_setReference_0 rfl (lv_at hl 3 rfl) ?_
  refine lv_iconst (v := 0) hx hb dL_setReference_1 (by decide) ?_
  refine lv_aload_n hx hb dL_setReference_2 rfl (lv_at hl 0 rfl) ?_
  refine lv_iload_n hx hb dL_setReference_3 rfl (lv_at hl 1 rfl) ?_
  refine lv_iload_n hx hb dL_setReference_4 rfl (lv_at hl 2 rfl) ?_
  refine vx_calli (vx_runV (As := [.int p1, .int p2]) (rest := [.int 0, .ref oo]) ⟨hx, hb, hml, hown, hts⟩ (t_X2_setReference l hlt D cyI cyZ ad zb zo zt zm zu zr zl zf p1 p2 hb2 (by rw [hx9]; decide)) (cwV 2 hts gL_setReference_X2_setReference rfl rfl rfl (by decide +kernel) ⟨Nat.le_of_ble_eq_true rfl, Nat.le_of_ble_eq_true rfl⟩) (ptV hG.1 (hz.kept va_S.rf) (hP.sub (ws' := wZ cyI cyZ ad zb zo zt zm zu zr zl zf) [0, 1, 2, 3, 4, 5, 6, 7, 8, 9, 10, 11, 12, 13, 14, 15, 16, 17, 18, 19] rfl) (ci := 2) rfl rfl rfl) rfl rfl hl.1 rfl (lv_room (Nat.le_of_ble_eq_true rfl)) dL_setReference_5 ⟨Nat.le_of_ble_eq_true rfl, Nat.le_of_ble_eq_true rfl⟩) hS (fun _ _ h => h.elim) (fun _ h => h.elim) (fun _ _ h => h.elim) (fun E ce q9 u t H1 locs1 ht _ _ hE _ hk1 hS1 hce hcv hcl => ?_) (fun r u t H1 locs1 ht hvm h hb9 hz1 hk1 hS1 => h.elim)
  obtain rfl : E = "java/lang/IndexOutOfBoundsException" := hE.trans (by rw [hx9]; rfl)
  have hP1 : va_P D vwCl (wO cyI cyZ cyJ ad zb zo zt zm zu zr zl zf oo go) H1 := hP.kept (fun k q hq => hk1 q.1 (hP k q hq).lt id)
  refine vx_catch (own := RL) (name := "java/lang/IndexOutOfBoundsException") hown [] (⟨0, 17, 20, 13⟩ : ExceptionTableEntry) [] ((vx_table (x := yL_setReference) B (hts _ List.mem_cons_self)).trans rfl) ps_nil (by decide) (by decide) (hts (.classLink RL 13 "java/lang/IndexOutOfBoundsException") (List.mem_of_getElem? (i := 1) rfl)) (va_Nw.use rfl (hz.2.2.2.1 "java/lang/IndexOutOfBoundsException" (by decide))) hce hcv hcl ?_
  refine lv_astore (lv' := [(4, .ref q9), (0, .ref (ad 0))]) hx hb dL_setReference_20 (lv_sub hl [0] rfl) (by decide) rfl (fun ls hl => ?_)
  refine lv_iconst (v := 1) hx hb dL_setReference_22 (by decide) ?_
  exact W.iret (v := 1) hx hb hr (fun t ht hW => ⟨⟨1, (), rfl, rfl, by rw [ht]; exact hP1, hD⟩, hS1.F ht⟩) hS1.2.2 dL_setReference_23
theorem x_columns {p1 : Int32} : f_X2_columns_x p1 = 0 ∨ f_X2_columns_x p1 = 1 := by
  rw [f_X2_columns_x]
  repeat' split
  all_goals first | exact x_rcn _ | exact x_rk _ | exact x_rco _ _ | exact x_rro _ _ | exact x_rcf _ _ | exact Or.inl rfl | exact Or.inr rfl
set_option maxHeartbeats 4000000 in
set_option maxRecDepth 100000 in
theorem k_L_columns (l : Launch) (D : va_G) (cyI cyZ cyJ : ClassId) (ad : Nat → Nat) (oo : Nat) (zb : Tr) (zo : Tr) (zt : Tr) (zm : Tr) (zu : Nat → Int32) (zr : Nat → Int32) (zl : Lr) (zf : Int32) (go : Nat → Int64) (p1 : Int32) (A : Nat → Prop) (sz : Nat) (hAe : A = va_A (wO cyI cyZ cyJ ad zb zo zt zm zu zr zl zf oo go) sz) (hx9 : f_X2_columns_x p1 = 0) : Met l yL_columns wsL_columns ({ frames := 2, cells := 0, slots := 0, locals := 42 } : Room) (pcO D cyI cyZ cyJ sz [.ref (ad 0), .int p1, .ref oo] (wO cyI cyZ cyJ ad zb zo zt zm zu zr zl zf oo go)) (mI D A (wO cyI cyZ cyJ ad zb zo zt zm zu zr zl zf oo (vp_updL go (0 : Int32).toNatClampNeg ((f_X2_columns zb zo zt zm p1)).toInt64)) 0) 0 0 A := by
  refine va_MetW (cc := cL_columns) (maxL := 4) (ret := some .int) (hh := [(0, 9, 12, 13)]) (by decide) rfl ?_
  intro p e s m args below meth c s₁ B hml hv
  obtain ⟨rfl, hsz, hP, hG, ⟨hz, hn⟩, hD0⟩ := hv
  have hx := B.exec
  have hb := B.bytes
  have hr := B.returns
  have hts := atoms_spec (ws := wsL_columns) B.pre
  have hown : s.vm.findClass RL = some m.cls := findClass_of_methodNamed B.named
  subst hsz
  have hD : va_D A (wO cyI cyZ cyJ ad zb zo zt zm zu zr zl zf oo go) := by rw [hAe]; exact hD0.self
  have hA : ∀ q : Nat, s.heap.size ≤ q → A q := fun q h => by rw [hAe]; exact Or.inr h
  clear hAe hD0
  have hS : va_S A s.heap s.heap [] := va_S.rf
  have hl := lv_entry ([.ref (ad 0), .int p1, .ref oo]) (n := 4) (Nat.le_of_ble_eq_true rfl)
  rw [lg_entry_eq]
  generalize (lg_sl ([.ref (ad 0), .int p1, .ref oo]) ++ List.replicate (4 - (lg_sl ([.ref (ad 0), .int p1, .ref oo])).length) Slot.unset).toArray = ls at hl ⊢
  have hl : lv_has ls 4 [(0, .ref (ad 0)), (1, .int p1), (2, .ref oo)] := hl
  have hP : va_P D vwCl (wO cyI cyZ cyJ ad zb zo zt zm zu zr zl zf oo go) s.heap := hP
  refine lv_aload_n hx hb dL_columns_0 rfl (lv_at hl 2 rfl) ?_
  refine lv_iconst (v := 0) hx hb dL_columns_1 (by decide) ?_
  refine lv_aload_n hx hb dL_columns_2 rfl (lv_at hl 0 rfl) ?_
  refine lv_iload_n hx hb dL_columns_3 rfl (lv_at hl 1 rfl) ?_
  refine pr_i (va_runV (As := [.int p1]) (rest := [.int 0, .ref oo]) ⟨hx, hb, hml, hown, hts⟩ (k_X2_columns l D cyI cyZ ad zb zo zt zm zu zr zl zf p1 hx9) (cwV 1 hts gL_columns_X2_columns rfl rfl rfl (by decide +kernel) ⟨Nat.le_of_ble_eq_true rfl, Nat.le_of_ble_eq_true rfl⟩) (prV hG.1 (hP.sub (ws' := wZ cyI cyZ ad zb zo zt zm zu zr zl zf) [0, 1, 2, 3, 4, 5, 6, 7, 8, 9, 10, 11, 12, 13, 14, 15, 16, 17, 18, 19] rfl) (ci := 2) rfl rfl rfl) rfl rfl hl.1 rfl (lv_room (Nat.le_of_ble_eq_true rfl)) dL_columns_4 ⟨Nat.zero_le _, Nat.zero_le _⟩) hS hP (fun H locs hP hS => ?_)
  refine lv_i2l (v := ((f_X2_columns zb zo zt zm p1)).toInt64) hx hb dL_columns_7 rfl ?_
  refine va_last hx hb hG.2 hP hD hS 20 0 rfl rfl (vp_in_nI (n := 0) (by decide) (by decide)) dL_columns_8 (fun H locs hP hD hS => ?_)
  refine lv_goto (tgt := 15) hx hb dL_columns_9 (by decide) ?_
  refine lv_iconst (v := 0) hx hb dL_columns_15 (by decide) ?_
  have hP : va_P D vwCl (wO cyI cyZ cyJ ad zb zo zt zm zu zr zl zf oo (vp_updL go (0 : Int32).toNatClampNeg ((f_X2_columns zb zo zt zm p1)).toInt64)) H := hP
  have hD : va_D A (wO cyI cyZ cyJ ad zb zo zt zm zu zr zl zf oo (vp_updL go (0 : Int32).toNatClampNeg ((f_X2_columns zb zo zt zm p1)).toInt64)) := hD
  exact W.iret (v := 0) hx hb hr (fun t ht hW => ⟨⟨0, (), rfl, rfl, by rw [ht]; exact hP, hD⟩, hS.F ht⟩) hS.2.2 dL_columns_16
set_option maxHeartbeats 4000000 in
set_option maxRecDepth 100000 in
theorem t_L_columns_1 (l : Launch) (hlt : l.stackTraces = false) (D : va_G) (cyI cyZ cyJ : ClassId) (ad : Nat → Nat) (oo : Nat) (zb : Tr) (zo : Tr) (zt : Tr) (zm : Tr) (zu : Nat → Int32) (zr : Nat → Int32) (zl : Lr) (zf : Int32) (go : Nat → Int64) (p1 : Int32) (A : Nat → Prop) (sz : Nat) (hAe : A = va_A (wO cyI cyZ cyJ ad zb zo zt zm zu zr zl zf oo go) sz) (hx9 : f_X2_columns_x p1 = 1) : Met l yL_columns wsL_columns ({ frames := 8, cells := 1, slots := 6, locals := 142 } : Room) (pcO D cyI cyZ cyJ sz [.ref (ad 0), .int p1, .ref oo] (wO cyI cyZ cyJ ad zb zo zt zm zu zr zl zf oo go)) (mI D A (wO cyI cyZ cyJ ad zb zo zt zm zu zr zl zf oo go) 1) 1 6 A := by
  refine va_MetW (cc := cL_columns) (maxL := 4) (ret := some .int) (hh := [(0, 9, 12, 13)]) (by decide) rfl ?_
  intro p e s m args below meth c s₁ B hml hv
  obtain ⟨rfl, hsz, hP, hG, ⟨hz, hn⟩, hD0⟩ := hv
  have hx := B.exec
  have hb := B.bytes
  have hr := B.returns
  have hts := atoms_spec (ws := wsL_columns) B.pre
  have hown : s.vm.findClass RL = some m.cls := findClass_of_methodNamed B.named
  subst hsz
  have hD : va_D A (wO cyI cyZ cyJ ad zb zo zt zm zu zr zl zf oo go) := by rw [hAe]; exact hD0.self
  have hA : ∀ q : Nat, s.heap.size ≤ q → A q := fun q h => by rw [hAe]; exact Or.inr h
  clear hAe hD0
  have hS : va_S A s.heap s.heap [] := va_S.rf
  have hl := lv_entry ([.ref (ad 0), .int p1, .ref oo]) (n := 4) (Nat.le_of_ble_eq_true rfl)
  rw [lg_entry_eq]
  generalize (lg_sl ([.ref (ad 0), .int p1, .ref oo]) ++ List.replicate (4 - (lg_sl ([.ref (ad 0), .int p1, .ref oo])).length) Slot.unset).toArray = ls at hl ⊢
  have hl : lv_has ls 4 [(0, .ref (ad 0)), (1, .int p1), (2, .ref oo)] := hl
  have hP : va_P D vwCl (wO cyI cyZ cyJ ad zb zo zt zm zu zr zl zf oo go) s.heap := hP
  refine lv_aload_n hx hb dL_columns_0 rfl (lv_at hl 2 rfl) ?_
  refine lv_iconst (v := 0) hx hb dL_columns_1 (by decide) ?_
  refine lv_aload_n hx hb dL_columns_2 rfl (lv_at hl 0 rfl) ?_
  refine lv_iload_n hx hb dL_columns_3 rfl (lv_at hl 1 rfl) ?_
  refine vx_calli (vx_runV (As := [.int p1]) (rest := [.int 0, .ref oo]) ⟨hx, hb, hml, hown, hts⟩ (t_X2_columns l hlt D cyI cyZ ad zb zo zt zm zu zr zl zf p1 (by rw [hx9]; decide)) (cwV 1 hts gL_columns_X2_columns rfl rfl rfl (by decide +kernel) ⟨Nat.le_of_ble_eq_true rfl, Nat.le_of_ble_eq_true rfl⟩) (ptV hG.1 (hz.kept va_S.rf) (hP.sub (ws' := wZ cyI cyZ ad zb zo zt zm zu zr zl zf) [0, 1, 2, 3, 4, 5, 6, 7, 8, 9, 10, 11, 12, 13, 14, 15, 16, 17, 18, 19] rfl) (ci := 2) rfl rfl rfl) rfl rfl hl.1 rfl (lv_room (Nat.le_of_ble_eq_true rfl)) dL_columns_4 ⟨Nat.le_of_ble_eq_true rfl, Nat.le_of_ble_eq_true rfl⟩) hS (fun _ _ h => h.elim) (fun _ h => h.elim) (fun _ _ h => h.elim) (fun E ce q9 u t H1 locs1 ht _ _ hE _ hk1 hS1 hce hcv hcl => ?_) (fun r u t H1 locs1 ht hvm h hb9 hz1 hk1 hS1 => h.elim)
  obtain rfl : E = "java/lang/IndexOutOfBoundsException" := hE.trans (by rw [hx9]; rfl)
  have hP1 : va_P D vwCl (wO cyI cyZ cyJ ad zb zo zt zm zu zr zl zf oo go) H1 := hP.kept (fun k q hq => hk1 q.1 (hP k q hq).lt id)
  refine vx_catch (own := RL) (name := "java/lang/IndexOutOfBoundsException") hown [] (⟨0, 9, 12, 13⟩ : ExceptionTableEntry) [] ((vx_table (x := yL_columns) B (hts _ List.mem_cons_self)).trans rfl) ps_nil (by decide) (by decide) (hts (.classLink RL 13 "java/lang/IndexOutOfBoundsException") (List.mem_of_getElem? (i := 1) rfl)) (va_Nw.use rfl (hz.2.2.2.1 "java/lang/IndexOutOfBoundsException" (by decide))) hce hcv hcl ?_
  refine lv_astore_n (lv' := [(3, .ref q9), (0, .ref (ad 0))]) hx hb dL_columns_12 rfl (lv_sub hl [0] rfl) (by decide) rfl (fun ls hl => ?_)
  refine lv_iconst (v := 1) hx hb dL_columns_13 (by decide) ?_
  exact W.iret (v := 1) hx hb hr (fun t ht hW => ⟨⟨1, (), rfl, rfl, by rw [ht]; exact hP1, hD⟩, hS1.F ht⟩) hS1.2.2 dL_columns_14
theorem x_rows {p1 : Int32} : f_X2_rows_x p1 = 0 ∨ f_X2_rows_x p1 = 1 := by
  rw [f_X2_rows_x]
  repeat' split
  all_goals first | exact x_rcn _ | exact x_rk _ | exact x_rco _ _ | exact x_rro _ _ | exact x_rcf _ _ | exact Or.inl rfl | exact Or.inr rfl
set_option maxHeartbeats 4000000 in
set_option maxRecDepth 100000 in
theorem k_L_rows (l : Launch) (D : va_G) (cyI cyZ cyJ : ClassId) (ad : Nat → Nat) (oo : Nat) (zb : Tr) (zo : Tr) (zt : Tr) (zm : Tr) (zu : Nat → Int32) (zr : Nat → Int32) (zl : Lr) (zf : Int32) (go : Nat → Int64) (p1 : Int32) (A : Nat → Prop) (sz : Nat) (hAe : A = va_A (wO cyI cyZ cyJ ad zb zo zt zm zu zr zl zf oo go) sz) (hx9 : f_X2_rows_x p1 = 0) : Met l yL_rows wsL_rows ({ frames := 2, cells := 0, slots := 0, locals := 42 } : Room) (pcO D cyI cyZ cyJ sz [.ref (ad 0), .int p1, .ref oo] (wO cyI cyZ cyJ ad zb zo zt zm zu zr zl zf oo go)) (mI D A (wO cyI cyZ cyJ ad zb zo zt zm zu zr zl zf oo (vp_updL go (0 : Int32).toNatClampNeg ((f_X2_rows zb zo zt zm p1)).toInt64)) 0) 0 0 A := by
  refine va_MetW (cc := cL_rows) (maxL := 4) (ret := some .int) (hh := [(0, 9, 12, 13)]) (by decide) rfl ?_
  intro p e s m args below meth c s₁ B hml hv
  obtain ⟨rfl, hsz, hP, hG, ⟨hz, hn⟩, hD0⟩ := hv
  have hx := B.exec
  have hb := B.bytes
  have hr := B.returns
  have hts := atoms_spec (ws := wsL_rows) B.pre
  have hown : s.vm.findClass RL = some m.cls := findClass_of_methodNamed B.named
  subst hsz
  have hD : va_D A (wO cyI cyZ cyJ ad zb zo zt zm zu zr zl zf oo go) := by rw [hAe]; exact hD0.self
  have hA : ∀ q : Nat, s.heap.size ≤ q → A q := fun q h => by rw [hAe]; exact Or.inr h
  clear hAe hD0
  have hS : va_S A s.heap s.heap [] := va_S.rf
  have hl := lv_entry ([.ref (ad 0), .int p1, .ref oo]) (n := 4) (Nat.le_of_ble_eq_true rfl)
  rw [lg_entry_eq]
  generalize (lg_sl ([.ref (ad 0), .int p1, .ref oo]) ++ List.replicate (4 - (lg_sl ([.ref (ad 0), .int p1, .ref oo])).length) Slot.unset).toArray = ls at hl ⊢
  have hl : lv_has ls 4 [(0, .ref (ad 0)), (1, .int p1), (2, .ref oo)] := hl
  have hP : va_P D vwCl (wO cyI cyZ cyJ ad zb zo zt zm zu zr zl zf oo go) s.heap := hP
  refine lv_aload_n hx hb dL_rows_0 rfl (lv_at hl 2 rfl) ?_
  refine lv_iconst (v := 0) hx hb dL_rows_1 (by decide) ?_
  refine lv_aload_n hx hb dL_rows_2 rfl (lv_at hl 0 rfl) ?_
  refine lv_iload_n hx hb dL_rows_3 rfl (lv_at hl 1 rfl) ?_
  refine pr_i (va_runV (As := [.int p1]) (rest := [.int 0, .ref oo]) ⟨hx, hb, hml, hown, hts⟩ (k_X2_rows l D cyI cyZ ad zb zo zt zm zu zr zl zf p1 hx9) (cwV 1 hts gL_rows_X2_rows rfl rfl rfl (by decide +kernel) ⟨Nat.le_of_ble_eq_true rfl, Nat.le_of_ble_eq_true rfl⟩) (prV hG.1 (hP.sub (ws' := wZ cyI cyZ ad zb zo zt zm zu zr zl zf) [0, 1, 2, 3, 4, 5, 6, 7, 8, 9, 10, 11, 12, 13, 14, 15, 16, 17, 18, 19] rfl) (ci := 2) rfl rfl rfl) rfl rfl hl.1 rfl (lv_room (Nat.le_of_ble_eq_true rfl)) dL_rows_4 ⟨Nat.zero_le _, Nat.zero_le _⟩) hS hP (fun H locs hP hS => ?_)
  refine lv_i2l (v := ((f_X2_rows zb zo zt zm p1)).toInt64) hx hb dL_rows_7 rfl ?_
  refine va_last hx hb hG.2 hP hD hS 20 0 rfl rfl (vp_in_nI (n := 0) (by decide) (by decide)) dL_rows_8 (fun H locs hP hD hS => ?_)
  refine lv_goto (tgt := 15) hx hb dL_rows_9 (by decide) ?_
  refine lv_iconst (v := 0) hx hb dL_rows_15 (by decide) ?_
  have hP : va_P D vwCl (wO cyI cyZ cyJ ad zb zo zt zm zu zr zl zf oo (vp_updL go (0 : Int32).toNatClampNeg ((f_X2_rows zb zo zt zm p1)).toInt64)) H := hP
  have hD : va_D A (wO cyI cyZ cyJ ad zb zo zt zm zu zr zl zf oo (vp_updL go (0 : Int32).toNatClampNeg ((f_X2_rows zb zo zt zm p1)).toInt64)) := hD
  exact W.iret (v := 0) hx hb hr (fun t ht hW => ⟨⟨0, (), rfl, rfl, by rw [ht]; exact hP, hD⟩, hS.F ht⟩) hS.2.2 dL_rows_16
set_option maxHeartbeats 4000000 in
set_option maxRecDepth 100000 in
theorem t_L_rows_1 (l : Launch) (hlt : l.stackTraces = false) (D : va_G) (cyI cyZ cyJ : ClassId) (ad : Nat → Nat) (oo : Nat) (zb : Tr) (zo : Tr) (zt : Tr) (zm : Tr) (zu : Nat → Int32) (zr : Nat → Int32) (zl : Lr) (zf : Int32) (go : Nat → Int64) (p1 : Int32) (A : Nat → Prop) (sz : Nat) (hAe : A = va_A (wO cyI cyZ cyJ ad zb zo zt zm zu zr zl zf oo go) sz) (hx9 : f_X2_rows_x p1 = 1) : Met l yL_rows wsL_rows ({ frames := 8, cells := 1, slots := 6, locals := 142 } : Room) (pcO D cyI cyZ cyJ sz [.ref (ad 0), .int p1, .ref oo] (wO cyI cyZ cyJ ad zb zo zt zm zu zr zl zf oo go)) (mI D A (wO cyI cyZ cyJ ad zb zo zt zm zu zr zl zf oo go) 1) 1 6 A := by
  refine va_MetW (cc := cL_rows) (maxL := 4) (ret := some .int) (hh := [(0, 9, 12, 13)]) (by decide) rfl ?_
  intro p e s m args below meth c s₁ B hml hv
  obtain ⟨rfl, hsz, hP, hG, ⟨hz, hn⟩, hD0⟩ := hv
  have hx := B.exec
  have hb := B.bytes
  have hr := B.returns
  have hts := atoms_spec (ws := wsL_rows) B.pre
  have hown : s.vm.findClass RL = some m.cls := findClass_of_methodNamed B.named
  subst hsz
  have hD : va_D A (wO cyI cyZ cyJ ad zb zo zt zm zu zr zl zf oo go) := by rw [hAe]; exact hD0.self
  have hA : ∀ q : Nat, s.heap.size ≤ q → A q := fun q h => by rw [hAe]; exact Or.inr h
  clear hAe hD0
  have hS : va_S A s.heap s.heap [] := va_S.rf
  have hl := lv_entry ([.ref (ad 0), .int p1, .ref oo]) (n := 4) (Nat.le_of_ble_eq_true rfl)
  rw [lg_entry_eq]
  generalize (lg_sl ([.ref (ad 0), .int p1, .ref oo]) ++ List.replicate (4 - (lg_sl ([.ref (ad 0), .int p1, .ref oo])).length) Slot.unset).toArray = ls at hl ⊢
  have hl : lv_has ls 4 [(0, .ref (ad 0)), (1, .int p1), (2, .ref oo)] := hl
  have hP : va_P D vwCl (wO cyI cyZ cyJ ad zb zo zt zm zu zr zl zf oo go) s.heap := hP
  refine lv_aload_n hx hb dL_rows_0 rfl (lv_at hl 2 rfl) ?_
  refine lv_iconst (v := 0) hx hb dL_rows_1 (by decide) ?_
  refine lv_aload_n hx hb dL_rows_2 rfl (lv_at hl 0 rfl) ?_
  refine lv_iload_n hx hb dL_rows_3 rfl (lv_at hl 1 rfl) ?_
  refine vx_calli (vx_runV (As := [.int p1]) (rest := [.int 0, .ref oo]) ⟨hx, hb, hml, hown, hts⟩ (t_X2_rows l hlt D cyI cyZ ad zb zo zt zm zu zr zl zf p1 (by rw [hx9]; decide)) (cwV 1 hts gL_rows_X2_rows rfl rfl rfl (by decide +kernel) ⟨Nat.le_of_ble_eq_true rfl, Nat.le_of_ble_eq_true rfl⟩) (ptV hG.1 (hz.kept va_S.rf) (hP.sub (ws' := wZ cyI cyZ ad zb zo zt zm zu zr zl zf) [0, 1, 2, 3, 4, 5, 6, 7, 8, 9, 10, 11, 12, 13, 14, 15, 16, 17, 18, 19] rfl) (ci := 2) rfl rfl rfl) rfl rfl hl.1 rfl (lv_room (Nat.le_of_ble_eq_true rfl)) dL_rows_4 ⟨Nat.le_of_ble_eq_true rfl, Nat.le_of_ble_eq_true rfl⟩) hS (fun _ _ h => h.elim) (fun _ h => h.elim) (fun _ _ h => h.elim) (fun E ce q9 u t H1 locs1 ht _ _ hE _ hk1 hS1 hce hcv hcl => ?_) (fun r u t H1 locs1 ht hvm h hb9 hz1 hk1 hS1 => h.elim)
  obtain rfl : E = "java/lang/IndexOutOfBoundsException" := hE.trans (by rw [hx9]; rfl)
  have hP1 : va_P D vwCl (wO cyI cyZ cyJ ad zb zo zt zm zu zr zl zf oo go) H1 := hP.kept (fun k q hq => hk1 q.1 (hP k q hq).lt id)
  refine vx_catch (own := RL) (name := "java/lang/IndexOutOfBoundsException") hown [] (⟨0, 9, 12, 13⟩ : ExceptionTableEntry) [] ((vx_table (x := yL_rows) B (hts _ List.mem_cons_self)).trans rfl) ps_nil (by decide) (by decide) (hts (.classLink RL 13 "java/lang/IndexOutOfBoundsException") (List.mem_of_getElem? (i := 1) rfl)) (va_Nw.use rfl (hz.2.2.2.1 "java/lang/IndexOutOfBoundsException" (by decide))) hce hcv hcl ?_
  refine lv_astore_n (lv' := [(3, .ref q9), (0, .ref (ad 0))]) hx hb dL_rows_12 rfl (lv_sub hl [0] rfl) (by decide) rfl (fun ls hl => ?_)
  refine lv_iconst (v := 1) hx hb dL_rows_13 (by decide) ?_
  exact W.iret (v := 1) hx hb hr (fun t ht hW => ⟨⟨1, (), rfl, rfl, by rw [ht]; exact hP1, hD⟩, hS1.F ht⟩) hS1.2.2 dL_rows_14
theorem x_name {zb : Tr} {zo : Tr} {zt : Tr} {zm : Tr} {p1 : Int32} {p2 : Int32} : f_X2_name_x zb zo zt zm p1 p2 = 0 ∨ f_X2_name_x zb zo zt zm p1 p2 = 1 := by
  rw [f_X2_name_x]
  repeat' split
  all_goals first | exact x_rcn _ | exact x_rk _ | exact x_rco _ _ | exact x_rro _ _ | exact x_rcf _ _ | exact Or.inl rfl | exact Or.inr rfl
set_option maxHeartbeats 4000000 in
set_option maxRecDepth 100000 in
theorem k_L_name (l : Launch) (D : va_G) (cyI cyZ cyJ : ClassId) (ad : Nat → Nat) (oo : Nat) (zb : Tr) (zo : Tr) (zt : Tr) (zm : Tr) (zu : Nat → Int32) (zr : Nat → Int32) (zl : Lr) (zf : Int32) (go : Nat → Int64) (p1 : Int32) (p2 : Int32) (A : Nat → Prop) (sz : Nat) (hAe : A = va_A (wO cyI cyZ cyJ ad zb zo zt zm zu zr zl zf oo go) sz) (hx9 : f_X2_name_x zb zo zt zm p1 p2 = 0) : Met l yL_name wsL_name ({ frames := 3, cells := 0, slots := 0, locals := 65 } : Room) (pcO D cyI cyZ cyJ sz [.ref (ad 0), .int p1, .int p2, .ref oo] (wO cyI cyZ cyJ ad zb zo zt zm zu zr zl zf oo go)) (mI D A (wO cyI cyZ cyJ ad zb zo zt zm zu zr zl zf oo (vp_updL go (0 : Int32).toNatClampNeg ((f_X2_name zb zo zt zm p1 p2)).toInt64)) 0) 0 0 A := by
  refine va_MetW (cc := cL_name) (maxL := 5) (ret := some .int) (hh := [(0, 10, 13, 13)]) (by decide) rfl ?_
  intro p e s m args below meth c s₁ B hml hv
  obtain ⟨rfl, hsz, hP, hG, ⟨hz, hn⟩, hD0⟩ := hv
  have hx := B.exec
  have hb := B.bytes
  have hr := B.returns
  have hts := atoms_spec (ws := wsL_name) B.pre
  have hown : s.vm.findClass RL = some m.cls := findClass_of_methodNamed B.named
  subst hsz
  have hD : va_D A (wO cyI cyZ cyJ ad zb zo zt zm zu zr zl zf oo go) := by rw [hAe]; exact hD0.self
  have hA : ∀ q : Nat, s.heap.size ≤ q → A q := fun q h => by rw [hAe]; exact Or.inr h
  clear hAe hD0
  have hS : va_S A s.heap s.heap [] := va_S.rf
  have hl := lv_entry ([.ref (ad 0), .int p1, .int p2, .ref oo]) (n := 5) (Nat.le_of_ble_eq_true rfl)
  rw [lg_entry_eq]
  generalize (lg_sl ([.ref (ad 0), .int p1, .int p2, .ref oo]) ++ List.replicate (5 - (lg_sl ([.ref (ad 0), .int p1, .int p2, .ref oo])).length) Slot.unset).toArray = ls at hl ⊢
  have hl : lv_has ls 5 [(0, .ref (ad 0)), (1, .int p1), (2, .int p2), (3, .ref oo)] := hl
  have hP : va_P D vwCl (wO cyI cyZ cyJ ad zb zo zt zm zu zr zl zf oo go) s.heap := hP
  refine lv_aload_n hx hb dL_name_0 rfl (lv_at hl 3 rfl) ?_
  refine lv_iconst (v := 0) hx hb dL_name_1 (by decide) ?_
  refine lv_aload_n hx hb dL_name_2 rfl (lv_at hl 0 rfl) ?_
  refine lv_iload_n hx hb dL_name_3 rfl (lv_at hl 1 rfl) ?_
  refine lv_iload_n hx hb dL_name_4 rfl (lv_at hl 2 rfl) ?_
  refine pr_i (va_runV (As := [.int p1, .int p2]) (rest := [.int 0, .ref oo]) ⟨hx, hb, hml, hown, hts⟩ (k_X2_name l D cyI cyZ ad zb zo zt zm zu zr zl zf p1 p2 hx9) (cwV 2 hts gL_name_X2_name rfl rfl rfl (by decide +kernel) ⟨Nat.le_of_ble_eq_true rfl, Nat.le_of_ble_eq_true rfl⟩) (prV hG.1 (hP.sub (ws' := wZ cyI cyZ ad zb zo zt zm zu zr zl zf) [0, 1, 2, 3, 4, 5, 6, 7, 8, 9, 10, 11, 12, 13, 14, 15, 16, 17, 18, 19] rfl) (ci := 2) rfl rfl rfl) rfl rfl hl.1 rfl (lv_room (Nat.le_of_ble_eq_true rfl)) dL_name_5 ⟨Nat.zero_le _, Nat.zero_le _⟩) hS hP (fun H locs hP hS => ?_)
  refine lv_i2l (v := ((f_X2_name zb zo zt zm p1 p2)).toInt64) hx hb dL_name_8 rfl ?_
  refine va_last hx hb hG.2 hP hD hS 20 0 rfl rfl (vp_in_nI (n := 0) (by decide) (by decide)) dL_name_9 (fun H locs hP hD hS => ?_)
  refine lv_goto (tgt := 17) hx hb dL_name_10 (by decide) ?_
  refine lv_iconst (v := 0) hx hb dL_name_17 (by decide) ?_
  have hP : va_P D vwCl (wO cyI cyZ cyJ ad zb zo zt zm zu zr zl zf oo (vp_updL go (0 : Int32).toNatClampNeg ((f_X2_name zb zo zt zm p1 p2)).toInt64)) H := hP
  have hD : va_D A (wO cyI cyZ cyJ ad zb zo zt zm zu zr zl zf oo (vp_updL go (0 : Int32).toNatClampNeg ((f_X2_name zb zo zt zm p1 p2)).toInt64)) := hD
  exact W.iret (v := 0) hx hb hr (fun t ht hW => ⟨⟨0, (), rfl, rfl, by rw [ht]; exact hP, hD⟩, hS.F ht⟩) hS.2.2 dL_name_18
set_option maxHeartbeats 4000000 in
set_option maxRecDepth 100000 in
theorem t_L_name_1 (l : Launch) (hlt : l.stackTraces = false) (D : va_G) (cyI cyZ cyJ : ClassId) (ad : Nat → Nat) (oo : Nat) (zb : Tr) (zo : Tr) (zt : Tr) (zm : Tr) (zu : Nat → Int32) (zr : Nat → Int32) (zl : Lr) (zf : Int32) (go : Nat → Int64) (p1 : Int32) (p2 : Int32) (A : Nat → Prop) (sz : Nat) (hAe : A = va_A (wO cyI cyZ cyJ ad zb zo zt zm zu zr zl zf oo go) sz) (hx9 : f_X2_name_x zb zo zt zm p1 p2 = 1) : Met l yL_name wsL_name ({ frames := 8, cells := 1, slots := 6, locals := 144 } : Room) (pcO D cyI cyZ cyJ sz [.ref (ad 0), .int p1, .int p2, .ref oo] (wO cyI cyZ cyJ ad zb zo zt zm zu zr zl zf oo go)) (mI D A (wO cyI cyZ cyJ ad zb zo zt zm zu zr zl zf oo go) 1) 1 6 A := by
  refine va_MetW (cc := cL_name) (maxL := 5) (ret := some .int) (hh := [(0, 10, 13, 13)]) (by decide) rfl ?_
  intro p e s m args below meth c s₁ B hml hv
  obtain ⟨rfl, hsz, hP, hG, ⟨hz, hn⟩, hD0⟩ := hv
  have hx := B.exec
  have hb := B.bytes
  have hr := B.returns
  have hts := atoms_spec (ws := wsL_name) B.pre
  have hown : s.vm.findClass RL = some m.cls := findClass_of_methodNamed B.named
  subst hsz
  have hD : va_D A (wO cyI cyZ cyJ ad zb zo zt zm zu zr zl zf oo go) := by rw [hAe]; exact hD0.self
  have hA : ∀ q : Nat, s.heap.size ≤ q → A q := fun q h => by rw [hAe]; exact Or.inr h
  clear hAe hD0
  have hS : va_S A s.heap s.heap [] := va_S.rf
  have hl := lv_entry ([.ref (ad 0), .int p1, .int p2, .ref oo]) (n := 5) (Nat.le_of_ble_eq_true rfl)
  rw [lg_entry_eq]
  generalize (lg_sl ([.ref (ad 0), .int p1, .int p2, .ref oo]) ++ List.replicate (5 - (lg_sl ([.ref (ad 0), .int p1, .int p2, .ref oo])).length) Slot.unset).toArray = ls at hl ⊢
  have hl : lv_has ls 5 [(0, .ref (ad 0)), (1, .int p1), (2, .int p2), (3, .ref oo)] := hl
  have hP : va_P D vwCl (wO cyI cyZ cyJ ad zb zo zt zm zu zr zl zf oo go) s.heap := hP
  refine lv_aload_n hx hb dL_name_0 rfl (lv_at hl 3 rfl) ?_
  refine lv_iconst (v := 0) hx hb dL_name_1 (by decide) ?_
  refine lv_aload_n hx hb dL_name_2 rfl (lv_at hl 0 rfl) ?_
  refine lv_iload_n hx hb dL_name_3 rfl (lv_at hl 1 rfl) ?_
  refine lv_iload_n hx hb dL_name_4 rfl (lv_at hl 2 rfl) ?_
  refine vx_calli (vx_runV (As := [.int p1, .int p2]) (rest := [.int 0, .ref oo]) ⟨hx, hb, hml, hown, hts⟩ (t_X2_name l hlt D cyI cyZ ad zb zo zt zm zu zr zl zf p1 p2 (by rw [hx9]; decide)) (cwV 2 hts gL_name_X2_name rfl rfl rfl (by decide +kernel) ⟨Nat.le_of_ble_eq_true rfl, Nat.le_of_ble_eq_true rfl⟩) (ptV hG.1 (hz.kept va_S.rf) (hP.sub (ws' := wZ cyI cyZ ad zb zo zt zm zu zr zl zf) [0, 1, 2, 3, 4, 5, 6, 7, 8, 9, 10, 11, 12, 13, 14, 15, 16, 17, 18, 19] rfl) (ci := 2) rfl rfl rfl) rfl rfl hl.1 rfl (lv_room (Nat.le_of_ble_eq_true rfl)) dL_name_5 ⟨Nat.le_of_ble_eq_true rfl, Nat.le_of_ble_eq_true rfl⟩) hS (fun _ _ h => h.elim) (fun _ h => h.elim) (fun _ _ h => h.elim) (fun E ce q9 u t H1 locs1 ht _ _ hE _ hk1 hS1 hce hcv hcl => ?_) (fun r u t H1 locs1 ht hvm h hb9 hz1 hk1 hS1 => h.elim)
  obtain rfl : E = "java/lang/IndexOutOfBoundsException" := hE.trans (by rw [hx9]; rfl)
  have hP1 : va_P D vwCl (wO cyI cyZ cyJ ad zb zo zt zm zu zr zl zf oo go) H1 := hP.kept (fun k q hq => hk1 q.1 (hP k q hq).lt id)
  refine vx_catch (own := RL) (name := "java/lang/IndexOutOfBoundsException") hown [] (⟨0, 10, 13, 13⟩ : ExceptionTableEntry) [] ((vx_table (x := yL_name) B (hts _ List.mem_cons_self)).trans rfl) ps_nil (by decide) (by decide) (hts (.classLink RL 13 "java/lang/IndexOutOfBoundsException") (List.mem_of_getElem? (i := 1) rfl)) (va_Nw.use rfl (hz.2.2.2.1 "java/lang/IndexOutOfBoundsException" (by decide))) hce hcv hcl ?_
  refine lv_astore (lv' := [(4, .ref q9), (0, .ref (ad 0))]) hx hb dL_name_13 (lv_sub hl [0] rfl) (by decide) rfl (fun ls hl => ?_)
  refine lv_iconst (v := 1) hx hb dL_name_15 (by decide) ?_
  exact W.iret (v := 1) hx hb hr (fun t ht hW => ⟨⟨1, (), rfl, rfl, by rw [ht]; exact hP1, hD⟩, hS1.F ht⟩) hS1.2.2 dL_name_16
theorem x_get {zb : Tr} {zo : Tr} {zt : Tr} {zm : Tr} {p1 : Int32} {p2 : Int32} {p3 : Int32} : f_X2_get_x zb zo zt zm p1 p2 p3 = 0 ∨ f_X2_get_x zb zo zt zm p1 p2 p3 = 1 := by
  rw [f_X2_get_x]
  repeat' split
  all_goals first | exact x_rcn _ | exact x_rk _ | exact x_rco _ _ | exact x_rro _ _ | exact x_rcf _ _ | exact Or.inl rfl | exact Or.inr rfl
set_option maxHeartbeats 4000000 in
set_option maxRecDepth 100000 in
theorem k_L_get (l : Launch) (D : va_G) (cyI cyZ cyJ : ClassId) (ad : Nat → Nat) (oo : Nat) (zb : Tr) (zo : Tr) (zt : Tr) (zm : Tr) (zu : Nat → Int32) (zr : Nat → Int32) (zl : Lr) (zf : Int32) (go : Nat → Int64) (p1 : Int32) (p2 : Int32) (p3 : Int32) (A : Nat → Prop) (sz : Nat) (hAe : A = va_A (wO cyI cyZ cyJ ad zb zo zt zm zu zr zl zf oo go) sz) (hx9 : f_X2_get_x zb zo zt zm p1 p2 p3 = 0) : Met l yL_get wsL_get ({ frames := 4, cells := 0, slots := 0, locals := 89 } : Room) (pcO D cyI cyZ cyJ sz [.ref (ad 0), .int p1, .int p2, .int p3, .ref oo] (wO cyI cyZ cyJ ad zb zo zt zm zu zr zl zf oo go)) (mI D A (wO cyI cyZ cyJ ad zb zo zt zm zu zr zl zf oo (vp_updL go (0 : Int32).toNatClampNeg ((f_X2_get zb zo zt zm p1 p2 p3)).toInt64)) 0) 0 0 A := by
  refine va_MetW (cc := cL_get) (maxL := 6) (ret := some .int) (hh := [(0, 12, 15, 13)]) (by decide) rfl ?_
  intro p e s m args below meth c s₁ B hml hv
  obtain ⟨rfl, hsz, hP, hG, ⟨hz, hn⟩, hD0⟩ := hv
  have hx := B.exec
  have hb := B.bytes
  have hr := B.returns
  have hts := atoms_spec (ws := wsL_get) B.pre
  have hown : s.vm.findClass RL = some m.cls := findClass_of_methodNamed B.named
  subst hsz
  have hD : va_D A (wO cyI cyZ cyJ ad zb zo zt zm zu zr zl zf oo go) := by rw [hAe]; exact hD0.self
  have hA : ∀ q : Nat, s.heap.size ≤ q → A q := fun q h => by rw [hAe]; exact Or.inr h
  clear hAe hD0
  have hS : va_S A s.heap s.heap [] := va_S.rf
  have hl := lv_entry ([.ref (ad 0), .int p1, .int p2, .int p3, .ref oo]) (n := 6) (Nat.le_of_ble_eq_true rfl)
  rw [lg_entry_eq]
  generalize (lg_sl ([.ref (ad 0), .int p1, .int p2, .int p3, .ref oo]) ++ List.replicate (6 - (lg_sl ([.ref (ad 0), .int p1, .int p2, .int p3, .ref oo])).length) Slot.unset).toArray = ls at hl ⊢
  have hl : lv_has ls 6 [(0, .ref (ad 0)), (1, .int p1), (2, .int p2), (3, .int p3), (4, .ref oo)] := hl
  have hP : va_P D vwCl (wO cyI cyZ cyJ ad zb zo zt zm zu zr zl zf oo go) s.heap := hP
  refine lv_aload hx hb dL_get_0 (lv_at hl 4 rfl) ?_
  refine lv_iconst (v := 0) hx hb dL_get_2 (by decide) ?_
  refine lv_aload_n hx hb dL_get_3 rfl (lv_at hl 0 rfl) ?_
  refine lv_iload_n hx hb dL_get_4 rfl (lv_at hl 1 rfl) ?_
  refine lv_iload_n hx hb dL_get_5 rfl (lv_at hl 2 rfl) ?_
  refine lv_iload_n hx hb dL_get_6 rfl (lv_at hl 3 rfl) ?_
  refine pr_i (va_runV (As := [.int p1, .int p2, .int p3]) (rest := [.int 0, .ref oo]) ⟨hx, hb, hml, hown, hts⟩ (k_X2_get l D cyI cyZ ad zb zo zt zm zu zr zl zf p1 p2 p3 hx9) (cwV 3 hts gL_get_X2_get rfl rfl rfl (by decide +kernel) ⟨Nat.le_of_ble_eq_true rfl, Nat.le_of_ble_eq_true rfl⟩) (prV hG.1 (hP.sub (ws' := wZ cyI cyZ ad zb zo zt zm zu zr zl zf) [0, 1, 2, 3, 4, 5, 6, 7, 8, 9, 10, 11, 12, 13, 14, 15, 16, 17, 18, 19] rfl) (ci := 2) rfl rfl rfl) rfl rfl hl.1 rfl (lv_room (Nat.le_of_ble_eq_true rfl)) dL_get_7 ⟨Nat.zero_le _, Nat.zero_le _⟩) hS hP (fun H locs hP hS => ?_)
  refine lv_i2l (v := ((f_X2_get zb zo zt zm p1 p2 p3)).toInt64) hx hb dL_get_10 rfl ?_
  refine va_last hx hb hG.2 hP hD hS 20 0 rfl rfl (vp_in_nI (n := 0) (by decide) (by decide)) dL_get_11 (fun H locs hP hD hS => ?_)
  refine lv_goto (tgt := 19) hx hb dL_get_12 (by decide) ?_
  refine lv_iconst (v := 0) hx hb dL_get_19 (by decide) ?_
  have hP : va_P D vwCl (wO cyI cyZ cyJ ad zb zo zt zm zu zr zl zf oo (vp_updL go (0 : Int32).toNatClampNeg ((f_X2_get zb zo zt zm p1 p2 p3)).toInt64)) H := hP
  have hD : va_D A (wO cyI cyZ cyJ ad zb zo zt zm zu zr zl zf oo (vp_updL go (0 : Int32).toNatClampNeg ((f_X2_get zb zo zt zm p1 p2 p3)).toInt64)) := hD
  exact W.iret (v := 0) hx hb hr (fun t ht hW => ⟨⟨0, (), rfl, rfl, by rw [ht]; exact hP, hD⟩, hS.F ht⟩) hS.2.2 dL_get_20
set_option maxHeartbeats 4000000 in
set_option maxRecDepth 100000 in
theorem t_L_get_1 (l : Launch) (hlt : l.stackTraces = false) (D : va_G) (cyI cyZ cyJ : ClassId) (ad : Nat → Nat) (oo : Nat) (zb : Tr) (zo : Tr) (zt : Tr) (zm : Tr) (zu : Nat → Int32) (zr : Nat → Int32) (zl : Lr) (zf : Int32) (go : Nat → Int64) (p1 : Int32) (p2 : Int32) (p3 : Int32) (A : Nat → Prop) (sz : Nat) (hAe : A = va_A (wO cyI cyZ cyJ ad zb zo zt zm zu zr zl zf oo go) sz) (hx9 : f_X2_get_x zb zo zt zm p1 p2 p3 = 1) : Met l yL_get wsL_get ({ frames := 8, cells := 1, slots := 6, locals := 145 } : Room) (pcO D cyI cyZ cyJ sz [.ref (ad 0), .int p1, .int p2, .int p3, .ref oo] (wO cyI cyZ cyJ ad zb zo zt zm zu zr zl zf oo go)) (mI D A (wO cyI cyZ cyJ ad zb zo zt zm zu zr zl zf oo go) 1) 1 6 A := by
  refine va_MetW (cc := cL_get) (maxL := 6) (ret := some .int) (hh := [(0, 12, 15, 13)]) (by decide) rfl ?_
  intro p e s m args below meth c s₁ B hml hv
  obtain ⟨rfl, hsz, hP, hG, ⟨hz, hn⟩, hD0⟩ := hv
  have hx := B.exec
  have hb := B.bytes
  have hr := B.returns
  have hts := atoms_spec (ws := wsL_get) B.pre
  have hown : s.vm.findClass RL = some m.cls := findClass_of_methodNamed B.named
  subst hsz
  have hD : va_D A (wO cyI cyZ cyJ ad zb zo zt zm zu zr zl zf oo go) := by rw [hAe]; exact hD0.self
  have hA : ∀ q : Nat, s.heap.size ≤ q → A q := fun q h => by rw [hAe]; exact Or.inr h
  clear hAe hD0
  have hS : va_S A s.heap s.heap [] := va_S.rf
  have hl := lv_entry ([.ref (ad 0), .int p1, .int p2, .int p3, .ref oo]) (n := 6) (Nat.le_of_ble_eq_true rfl)
  rw [lg_entry_eq]
  generalize (lg_sl ([.ref (ad 0), .int p1, .int p2, .int p3, .ref oo]) ++ List.replicate (6 - (lg_sl ([.ref (ad 0), .int p1, .int p2, .int p3, .ref oo])).length) Slot.unset).toArray = ls at hl ⊢
  have hl : lv_has ls 6 [(0, .ref (ad 0)), (1, .int p1), (2, .int p2), (3, .int p3), (4, .ref oo)] := hl
  have hP : va_P D vwCl (wO cyI cyZ cyJ ad zb zo zt zm zu zr zl zf oo go) s.heap := hP
  refine lv_aload hx hb dL_get_0 (lv_at hl 4 rfl) ?_
  refine lv_iconst (v := 0) hx hb dL_get_2 (by decide) ?_
  refine lv_aload_n hx hb dL_get_3 rfl (lv_at hl 0 rfl) ?_
  refine lv_iload_n hx hb dL_get_4 rfl (lv_at hl 1 rfl) ?_
  refine lv_iload_n hx hb dL_get_5 rfl (lv_at hl 2 rfl) ?_
  refine lv_iload_n hx hb dL_get_6 rfl (lv_at hl 3 rfl) ?_
  refine vx_calli (vx_runV (As := [.int p1, .int p2, .int p3]) (rest := [.int 0, .ref oo]) ⟨hx, hb, hml, hown, hts⟩ (t_X2_get l hlt D cyI cyZ ad zb zo zt zm zu zr zl zf p1 p2 p3 (by rw [hx9]; decide)) (cwV 3 hts gL_get_X2_get rfl rfl rfl (by decide +kernel) ⟨Nat.le_of_ble_eq_true rfl, Nat.le_of_ble_eq_true rfl⟩) (ptV hG.1 (hz.kept va_S.rf) (hP.sub (ws' := wZ cyI cyZ ad zb zo zt zm zu zr zl zf) [0, 1, 2, 3, 4, 5, 6, 7, 8, 9, 10, 11, 12, 13, 14, 15, 16, 17, 18, 19] rfl) (ci := 2) rfl rfl rfl) rfl rfl hl.1 rfl (lv_room (Nat.le_of_ble_eq_true rfl)) dL_get_7 ⟨Nat.le_of_ble_eq_true rfl, Nat.le_of_ble_eq_true rfl⟩) hS (fun _ _ h => h.elim) (fun _ h => h.elim) (fun _ _ h => h.elim) (fun E ce q9 u t H1 locs1 ht _ _ hE _ hk1 hS1 hce hcv hcl => ?_) (fun r u t H1 locs1 ht hvm h hb9 hz1 hk1 hS1 => h.elim)
  obtain rfl : E = "java/lang/IndexOutOfBoundsException" := hE.trans (by rw [hx9]; rfl)
  have hP1 : va_P D vwCl (wO cyI cyZ cyJ ad zb zo zt zm zu zr zl zf oo go) H1 := hP.kept (fun k q hq => hk1 q.1 (hP k q hq).lt id)
  refine vx_catch (own := RL) (name := "java/lang/IndexOutOfBoundsException") hown [] (⟨0, 12, 15, 13⟩ : ExceptionTableEntry) [] ((vx_table (x := yL_get) B (hts _ List.mem_cons_self)).trans rfl) ps_nil (by decide) (by decide) (hts (.classLink RL 13 "java/lang/IndexOutOfBoundsException") (List.mem_of_getElem? (i := 1) rfl)) (va_Nw.use rfl (hz.2.2.2.1 "java/lang/IndexOutOfBoundsException" (by decide))) hce hcv hcl ?_
  refine lv_astore (lv' := [(5, .ref q9), (0, .ref (ad 0))]) hx hb dL_get_15 (lv_sub hl [0] rfl) (by decide) rfl (fun ls hl => ?_)
  refine lv_iconst (v := 1) hx hb dL_get_17 (by decide) ?_
  exact W.iret (v := 1) hx hb hr (fun t ht hW => ⟨⟨1, (), rfl, rfl, by rw [ht]; exact hP1, hD⟩, hS1.F ht⟩) hS1.2.2 dL_get_18
theorem x_changes {p1 : Int32} : f_X2_changes_x p1 = 0 ∨ f_X2_changes_x p1 = 1 := by
  rw [f_X2_changes_x]
  repeat' split
  all_goals first | exact x_rcn _ | exact x_rk _ | exact x_rco _ _ | exact x_rro _ _ | exact x_rcf _ _ | exact Or.inl rfl | exact Or.inr rfl
set_option maxHeartbeats 4000000 in
set_option maxRecDepth 100000 in
theorem k_L_changes (l : Launch) (D : va_G) (cyI cyZ cyJ : ClassId) (ad : Nat → Nat) (oo : Nat) (zb : Tr) (zo : Tr) (zt : Tr) (zm : Tr) (zu : Nat → Int32) (zr : Nat → Int32) (zl : Lr) (zf : Int32) (go : Nat → Int64) (p1 : Int32) (A : Nat → Prop) (sz : Nat) (hAe : A = va_A (wO cyI cyZ cyJ ad zb zo zt zm zu zr zl zf oo go) sz) (hx9 : f_X2_changes_x p1 = 0) : Met l yL_changes wsL_changes ({ frames := 6, cells := 0, slots := 0, locals := 135 } : Room) (pcO D cyI cyZ cyJ sz [.ref (ad 0), .int p1, .ref oo] (wO cyI cyZ cyJ ad zb zo zt zm zu zr zl zf oo go)) (mI D A (wO cyI cyZ cyJ ad zb zo zt zm zu zr zl zf oo (vp_updL go (0 : Int32).toNatClampNeg ((f_X2_changes zb zo zt p1)).toInt64)) 0) 0 0 A := by
  refine va_MetW (cc := cL_changes) (maxL := 4) (ret := some .int) (hh := [(0, 9, 12, 13)]) (by decide) rfl ?_
  intro p e s m args below meth c s₁ B hml hv
  obtain ⟨rfl, hsz, hP, hG, ⟨hz, hn⟩, hD0⟩ := hv
  have hx := B.exec
  have hb := B.bytes
  have hr := B.returns
  have hts := atoms_spec (ws := wsL_changes) B.pre
  have hown : s.vm.findClass RL = some m.cls := findClass_of_methodNamed B.named
  subst hsz
  have hD : va_D A (wO cyI cyZ cyJ ad zb zo zt zm zu zr zl zf oo go) := by rw [hAe]; exact hD0.self
  have hA : ∀ q : Nat, s.heap.size ≤ q → A q := fun q h => by rw [hAe]; exact Or.inr h
  clear hAe hD0
  have hS : va_S A s.heap s.heap [] := va_S.rf
  have hl := lv_entry ([.ref (ad 0), .int p1, .ref oo]) (n := 4) (Nat.le_of_ble_eq_true rfl)
  rw [lg_entry_eq]
  generalize (lg_sl ([.ref (ad 0), .int p1, .ref oo]) ++ List.replicate (4 - (lg_sl ([.ref (ad 0), .int p1, .ref oo])).length) Slot.unset).toArray = ls at hl ⊢
  have hl : lv_has ls 4 [(0, .ref (ad 0)), (1, .int p1), (2, .ref oo)] := hl
  have hP : va_P D vwCl (wO cyI cyZ cyJ ad zb zo zt zm zu zr zl zf oo go) s.heap := hP
  refine lv_aload_n hx hb dL_changes_0 rfl (lv_at hl 2 rfl) ?_
  refine lv_iconst (v := 0) hx hb dL_changes_1 (by decide) ?_
  refine lv_aload_n hx hb dL_changes_2 rfl (lv_at hl 0 rfl) ?_
  refine lv_iload_n hx hb dL_changes_3 rfl (lv_at hl 1 rfl) ?_
  refine pr_i (va_runV (As := [.int p1]) (rest := [.int 0, .ref oo]) ⟨hx, hb, hml, hown, hts⟩ (k_X2_changes l D cyI cyZ ad zb zo zt zm zu zr zl zf p1 hx9) (cwV 1 hts gL_changes_X2_changes rfl rfl rfl (by decide +kernel) ⟨Nat.le_of_ble_eq_true rfl, Nat.le_of_ble_eq_true rfl⟩) (prV hG.1 (hP.sub (ws' := wZ cyI cyZ ad zb zo zt zm zu zr zl zf) [0, 1, 2, 3, 4, 5, 6, 7, 8, 9, 10, 11, 12, 13, 14, 15, 16, 17, 18, 19] rfl) (ci := 2) rfl rfl rfl) rfl rfl hl.1 rfl (lv_room (Nat.le_of_ble_eq_true rfl)) dL_changes_4 ⟨Nat.zero_le _, Nat.zero_le _⟩) hS hP (fun H locs hP hS => ?_)
  refine lv_i2l (v := ((f_X2_changes zb zo zt p1)).toInt64) hx hb dL_changes_7 rfl ?_
  refine va_last hx hb hG.2 hP hD hS 20 0 rfl rfl (vp_in_nI (n := 0) (by decide) (by decide)) dL_changes_8 (fun H locs hP hD hS => ?_)
  refine lv_goto (tgt := 15) hx hb dL_changes_9 (by decide) ?_
  refine lv_iconst (v := 0) hx hb dL_changes_15 (by decide) ?_
  have hP : va_P D vwCl (wO cyI cyZ cyJ ad zb zo zt zm zu zr zl zf oo (vp_updL go (0 : Int32).toNatClampNeg ((f_X2_changes zb zo zt p1)).toInt64)) H := hP
  have hD : va_D A (wO cyI cyZ cyJ ad zb zo zt zm zu zr zl zf oo (vp_updL go (0 : Int32).toNatClampNeg ((f_X2_changes zb zo zt p1)).toInt64)) := hD
  exact W.iret (v := 0) hx hb hr (fun t ht hW => ⟨⟨0, (), rfl, rfl, by rw [ht]; exact hP, hD⟩, hS.F ht⟩) hS.2.2 dL_changes_16
set_option maxHeartbeats 4000000 in
set_option maxRecDepth 100000 in
theorem t_L_changes_1 (l : Launch) (hlt : l.stackTraces = false) (D : va_G) (cyI cyZ cyJ : ClassId) (ad : Nat → Nat) (oo : Nat) (zb : Tr) (zo : Tr) (zt : Tr) (zm : Tr) (zu : Nat → Int32) (zr : Nat → Int32) (zl : Lr) (zf : Int32) (go : Nat → Int64) (p1 : Int32) (A : Nat → Prop) (sz : Nat) (hAe : A = va_A (wO cyI cyZ cyJ ad zb zo zt zm zu zr zl zf oo go) sz) (hx9 : f_X2_changes_x p1 = 1) : Met l yL_changes wsL_changes ({ frames := 8, cells := 1, slots := 6, locals := 142 } : Room) (pcO D cyI cyZ cyJ sz [.ref (ad 0), .int p1, .ref oo] (wO cyI cyZ cyJ ad zb zo zt zm zu zr zl zf oo go)) (mI D A (wO cyI cyZ cyJ ad zb zo zt zm zu zr zl zf oo go) 1) 1 6 A := by
  refine va_MetW (cc := cL_changes) (maxL := 4) (ret := some .int) (hh := [(0, 9, 12, 13)]) (by decide) rfl ?_
  intro p e s m args below meth c s₁ B hml hv
  obtain ⟨rfl, hsz, hP, hG, ⟨hz, hn⟩, hD0⟩ := hv
  have hx := B.exec
  have hb := B.bytes
  have hr := B.returns
  have hts := atoms_spec (ws := wsL_changes) B.pre
  have hown : s.vm.findClass RL = some m.cls := findClass_of_methodNamed B.named
  subst hsz
  have hD : va_D A (wO cyI cyZ cyJ ad zb zo zt zm zu zr zl zf oo go) := by rw [hAe]; exact hD0.self
  have hA : ∀ q : Nat, s.heap.size ≤ q → A q := fun q h => by rw [hAe]; exact Or.inr h
  clear hAe hD0
  have hS : va_S A s.heap s.heap [] := va_S.rf
  have hl := lv_entry ([.ref (ad 0), .int p1, .ref oo]) (n := 4) (Nat.le_of_ble_eq_true rfl)
  rw [lg_entry_eq]
  generalize (lg_sl ([.ref (ad 0), .int p1, .ref oo]) ++ List.replicate (4 - (lg_sl ([.ref (ad 0), .int p1, .ref oo])).length) Slot.unset).toArray = ls at hl ⊢
  have hl : lv_has ls 4 [(0, .ref (ad 0)), (1, .int p1), (2, .ref oo)] := hl
  have hP : va_P D vwCl (wO cyI cyZ cyJ ad zb zo zt zm zu zr zl zf oo go) s.heap := hP
  refine lv_aload_n hx hb dL_changes_0 rfl (lv_at hl 2 rfl) ?_
  refine lv_iconst (v := 0) hx hb dL_changes_1 (by decide) ?_
  refine lv_aload_n hx hb dL_changes_2 rfl (lv_at hl 0 rfl) ?_
  refine lv_iload_n hx hb dL_changes_3 rfl (lv_at hl 1 rfl) ?_
  refine vx_calli (vx_runV (As := [.int p1]) (rest := [.int 0, .ref oo]) ⟨hx, hb, hml, hown, hts⟩ (t_X2_changes l hlt D cyI cyZ ad zb zo zt zm zu zr zl zf p1 (by rw [hx9]; decide)) (cwV 1 hts gL_changes_X2_changes rfl rfl rfl (by decide +kernel) ⟨Nat.le_of_ble_eq_true rfl, Nat.le_of_ble_eq_true rfl⟩) (ptV hG.1 (hz.kept va_S.rf) (hP.sub (ws' := wZ cyI cyZ ad zb zo zt zm zu zr zl zf) [0, 1, 2, 3, 4, 5, 6, 7, 8, 9, 10, 11, 12, 13, 14, 15, 16, 17, 18, 19] rfl) (ci := 2) rfl rfl rfl) rfl rfl hl.1 rfl (lv_room (Nat.le_of_ble_eq_true rfl)) dL_changes_4 ⟨Nat.le_of_ble_eq_true rfl, Nat.le_of_ble_eq_true rfl⟩) hS (fun _ _ h => h.elim) (fun _ h => h.elim) (fun _ _ h => h.elim) (fun E ce q9 u t H1 locs1 ht _ _ hE _ hk1 hS1 hce hcv hcl => ?_) (fun r u t H1 locs1 ht hvm h hb9 hz1 hk1 hS1 => h.elim)
  obtain rfl : E = "java/lang/IndexOutOfBoundsException" := hE.trans (by rw [hx9]; rfl)
  have hP1 : va_P D vwCl (wO cyI cyZ cyJ ad zb zo zt zm zu zr zl zf oo go) H1 := hP.kept (fun k q hq => hk1 q.1 (hP k q hq).lt id)
  refine vx_catch (own := RL) (name := "java/lang/IndexOutOfBoundsException") hown [] (⟨0, 9, 12, 13⟩ : ExceptionTableEntry) [] ((vx_table (x := yL_changes) B (hts _ List.mem_cons_self)).trans rfl) ps_nil (by decide) (by decide) (hts (.classLink RL 13 "java/lang/IndexOutOfBoundsException") (List.mem_of_getElem? (i := 1) rfl)) (va_Nw.use rfl (hz.2.2.2.1 "java/lang/IndexOutOfBoundsException" (by decide))) hce hcv hcl ?_
  refine lv_astore_n (lv' := [(3, .ref q9), (0, .ref (ad 0))]) hx hb dL_changes_12 rfl (lv_sub hl [0] rfl) (by decide) rfl (fun ls hl => ?_)
  refine lv_iconst (v := 1) hx hb dL_changes_13 (by decide) ?_
  exact W.iret (v := 1) hx hb hr (fun t ht hW => ⟨⟨1, (), rfl, rfl, by rw [ht]; exact hP1, hD⟩, hS1.F ht⟩) hS1.2.2 dL_changes_14
theorem x_accept {zl : Lr} {zf : Int32} : f_X2_accept_x zl zf = 0 ∨ f_X2_accept_x zl zf = 3 := by
  rw [f_X2_accept_x]
  repeat' split
  all_goals first | exact Or.inl (rfl) | exact Or.inr (rfl)
set_option maxHeartbeats 4000000 in
set_option maxRecDepth 100000 in
theorem k_L_accept (l : Launch) (D : va_G) (cyI cyZ cyJ : ClassId) (ad : Nat → Nat) (oo : Nat) (zb : Tr) (zo : Tr) (zt : Tr) (zm : Tr) (zu : Nat → Int32) (zr : Nat → Int32) (zl : Lr) (zf : Int32) (go : Nat → Int64)  (A : Nat → Prop) (sz : Nat) (hAe : A = va_A (wO cyI cyZ cyJ ad zb zo zt zm zu zr zl zf oo go) sz) (hx9 : f_X2_accept_x zl zf = 0) : Met l yL_accept wsL_accept ({ frames := 5, cells := 0, slots := 0, locals := 125 } : Room) (pcO D cyI cyZ cyJ sz [.ref (ad 0), .ref oo] (wO cyI cyZ cyJ ad zb zo zt zm zu zr zl zf oo go)) (mI D A (wO cyI cyZ cyJ ad (f_X2_accept zb zo zt zm zl zf).2.1 (f_X2_accept zb zo zt zm zl zf).2.2.1 (f_X2_accept zb zo zt zm zl zf).2.2.2.1 (f_X2_accept zb zo zt zm zl zf).2.2.2.2.1 zu zr (f_X2_accept zb zo zt zm zl zf).2.2.2.2.2.1 (f_X2_accept zb zo zt zm zl zf).2.2.2.2.2.2 oo (vp_updL go (0 : Int32).toNatClampNeg ((f_X2_accept zb zo zt zm zl zf).1).toInt64)) 0) 0 0 A := by
  refine va_MetW (cc := cL_accept) (maxL := 3) (ret := some .int) (hh := [(0, 8, 11, 17)]) (by decide) rfl ?_
  intro p e s m args below meth c s₁ B hml hv
  obtain ⟨rfl, hsz, hP, hG, ⟨hz, hn⟩, hD0⟩ := hv
  have hx := B.exec
  have hb := B.bytes
  have hr := B.returns
  have hts := atoms_spec (ws := wsL_accept) B.pre
  have hown : s.vm.findClass RL = some m.cls := findClass_of_methodNamed B.named
  subst hsz
  have hD : va_D A (wO cyI cyZ cyJ ad zb zo zt zm zu zr zl zf oo go) := by rw [hAe]; exact hD0.self
  have hA : ∀ q : Nat, s.heap.size ≤ q → A q := fun q h => by rw [hAe]; exact Or.inr h
  clear hAe hD0
  have hS : va_S A s.heap s.heap [] := va_S.rf
  have hl := lv_entry ([.ref (ad 0), .ref oo]) (n := 3) (Nat.le_of_ble_eq_true rfl)
  rw [lg_entry_eq]
  generalize (lg_sl ([.ref (ad 0), .ref oo]) ++ List.replicate (3 - (lg_sl ([.ref (ad 0), .ref oo])).length) Slot.unset).toArray = ls at hl ⊢
  have hl : lv_has ls 3 [(0, .ref (ad 0)), (1, .ref oo)] := hl
  have hP : va_P D vwCl (wO cyI cyZ cyJ ad zb zo zt zm zu zr zl zf oo go) s.heap := hP
  refine lv_aload_n hx hb dL_accept_0 rfl (lv_at hl 1 rfl) ?_
  refine lv_iconst (v := 0) hx hb dL_accept_1 (by decide) ?_
  refine lv_aload_n hx hb dL_accept_2 rfl (lv_at hl 0 rfl) ?_
  refine mr_i (va_runV (As := []) (rest := [.int 0, .ref oo]) ⟨hx, hb, hml, hown, hts⟩ (k_X2_accept l D cyI cyZ ad zb zo zt zm zu zr zl zf _ _ rfl hx9) (cwV 0 hts gL_accept_X2_accept rfl rfl rfl (by decide +kernel) ⟨Nat.le_of_ble_eq_true rfl, Nat.le_of_ble_eq_true rfl⟩) (pmV hG.1 (hP.sub (ws' := wZ cyI cyZ ad zb zo zt zm zu zr zl zf) [0, 1, 2, 3, 4, 5, 6, 7, 8, 9, 10, 11, 12, 13, 14, 15, 16, 17, 18, 19] rfl) (hD.sub (ws' := wZ cyI cyZ ad zb zo zt zm zu zr zl zf) [0, 1, 2, 3, 4, 5, 6, 7, 8, 9, 10, 11, 12, 13, 14, 15, 16, 17, 18, 19] (by decide) rfl) (ci := 2) rfl rfl rfl) rfl rfl hl.1 rfl (lv_room (Nat.le_of_ble_eq_true rfl)) dL_accept_3 ⟨Nat.zero_le _, Nat.zero_le _⟩) hP hD hS hA [0, 1, 2, 3, 4, 5, 6, 7, 8, 9, 10, 11, 12, 13, 14, 15, 16, 17, 18, 19] [20] [1, 2, 3, 4, 5, 6, 7, 8, 9, 10, 11, 12, 13, 14, 15, 16, 17, 18, 19, 20, 0] rfl rfl (by decide) (by decide) (by decide) (w2 := wO cyI cyZ cyJ ad (f_X2_accept zb zo zt zm zl zf).2.1 (f_X2_accept zb zo zt zm zl zf).2.2.1 (f_X2_accept zb zo zt zm zl zf).2.2.2.1 (f_X2_accept zb zo zt zm zl zf).2.2.2.2.1 zu zr (f_X2_accept zb zo zt zm zl zf).2.2.2.2.2.1 (f_X2_accept zb zo zt zm zl zf).2.2.2.2.2.2 oo go) rfl (fun H locs hP hD hS => ?_)
  have hP : va_P D vwCl (wO cyI cyZ cyJ ad (f_X2_accept zb zo zt zm zl zf).2.1 (f_X2_accept zb zo zt zm zl zf).2.2.1 (f_X2_accept zb zo zt zm zl zf).2.2.2.1 (f_X2_accept zb zo zt zm zl zf).2.2.2.2.1 zu zr (f_X2_accept zb zo zt zm zl zf).2.2.2.2.2.1 (f_X2_accept zb zo zt zm zl zf).2.2.2.2.2.2 oo go) H := hP
  have hD : va_D A (wO cyI cyZ cyJ ad (f_X2_accept zb zo zt zm zl zf).2.1 (f_X2_accept zb zo zt zm zl zf).2.2.1 (f_X2_accept zb zo zt zm zl zf).2.2.2.1 (f_X2_accept zb zo zt zm zl zf).2.2.2.2.1 zu zr (f_X2_accept zb zo zt zm zl zf).2.2.2.2.2.1 (f_X2_accept zb zo zt zm zl zf).2.2.2.2.2.2 oo go) := hD
  refine lv_i2l (v := ((f_X2_accept zb zo zt zm zl zf).1).toInt64) hx hb dL_accept_6 rfl ?_
  refine va_last hx hb hG.2 hP hD hS 20 0 rfl rfl (vp_in_nI (n := 0) (by decide) (by decide)) dL_accept_7 (fun H locs hP hD hS => ?_)
  refine lv_goto (tgt := 14) hx hb dL_accept_8 (by decide) ?_
  refine lv_iconst (v := 0) hx hb dL_accept_14 (by decide) ?_
  have hP : va_P D vwCl (wO cyI cyZ cyJ ad (f_X2_accept zb zo zt zm zl zf).2.1 (f_X2_accept zb zo zt zm zl zf).2.2.1 (f_X2_accept zb zo zt zm zl zf).2.2.2.1 (f_X2_accept zb zo zt zm zl zf).2.2.2.2.1 zu zr (f_X2_accept zb zo zt zm zl zf).2.2.2.2.2.1 (f_X2_accept zb zo zt zm zl zf).2.2.2.2.2.2 oo (vp_updL go (0 : Int32).toNatClampNeg ((f_X2_accept zb zo zt zm zl zf).1).toInt64)) H := hP
  have hD : va_D A (wO cyI cyZ cyJ ad (f_X2_accept zb zo zt zm zl zf).2.1 (f_X2_accept zb zo zt zm zl zf).2.2.1 (f_X2_accept zb zo zt zm zl zf).2.2.2.1 (f_X2_accept zb zo zt zm zl zf).2.2.2.2.1 zu zr (f_X2_accept zb zo zt zm zl zf).2.2.2.2.2.1 (f_X2_accept zb zo zt zm zl zf).2.2.2.2.2.2 oo (vp_updL go (0 : Int32).toNatClampNeg ((f_X2_accept zb zo zt zm zl zf).1).toInt64)) := hD
  exact W.iret (v := 0) hx hb hr (fun t ht hW => ⟨⟨0, (), rfl, rfl, by rw [ht]; exact hP, hD⟩, hS.F ht⟩) hS.2.2 dL_accept_15
set_option maxHeartbeats 4000000 in
set_option maxRecDepth 100000 in
theorem t_L_accept_3 (l : Launch) (hlt : l.stackTraces = false) (D : va_G) (cyI cyZ cyJ : ClassId) (ad : Nat → Nat) (oo : Nat) (zb : Tr) (zo : Tr) (zt : Tr) (zm : Tr) (zu : Nat → Int32) (zr : Nat → Int32) (zl : Lr) (zf : Int32) (go : Nat → Int64)  (A : Nat → Prop) (sz : Nat) (hAe : A = va_A (wO cyI cyZ cyJ ad zb zo zt zm zu zr zl zf oo go) sz) (hx9 : f_X2_accept_x zl zf = 3) : Met l yL_accept wsL_accept ({ frames := 7, cells := 1, slots := 6, locals := 120 } : Room) (pcO D cyI cyZ cyJ sz [.ref (ad 0), .ref oo] (wO cyI cyZ cyJ ad zb zo zt zm zu zr zl zf oo go)) (mI D A (wO cyI cyZ cyJ ad zb zo zt zm zu zr zl zf oo go) 1) 1 6 A := by
  refine va_MetW (cc := cL_accept) (maxL := 3) (ret := some .int) (hh := [(0, 8, 11, 17)]) (by decide) rfl ?_
  intro p e s m args below meth c s₁ B hml hv
  obtain ⟨rfl, hsz, hP, hG, ⟨hz, hn⟩, hD0⟩ := hv
  have hx := B.exec
  have hb := B.bytes
  have hr := B.returns
  have hts := atoms_spec (ws := wsL_accept) B.pre
  have hown : s.vm.findClass RL = some m.cls := findClass_of_methodNamed B.named
  subst hsz
  have hD : va_D A (wO cyI cyZ cyJ ad zb zo zt zm zu zr zl zf oo go) := by rw [hAe]; exact hD0.self
  have hA : ∀ q : Nat, s.heap.size ≤ q → A q := fun q h => by rw [hAe]; exact Or.inr h
  clear hAe hD0
  have hS : va_S A s.heap s.heap [] := va_S.rf
  have hl := lv_entry ([.ref (ad 0), .ref oo]) (n := 3) (Nat.le_of_ble_eq_true rfl)
  rw [lg_entry_eq]
  generalize (lg_sl ([.ref (ad 0), .ref oo]) ++ List.replicate (3 - (lg_sl ([.ref (ad 0), .ref oo])).length) Slot.unset).toArray = ls at hl ⊢
  have hl : lv_has ls 3 [(0, .ref (ad 0)), (1, .ref oo)] := hl
  have hP : va_P D vwCl (wO cyI cyZ cyJ ad zb zo zt zm zu zr zl zf oo go) s.heap := hP
  refine lv_aload_n hx hb dL_accept_0 rfl (lv_at hl 1 rfl) ?_
  refine lv_iconst (v := 0) hx hb dL_accept_1 (by decide) ?_
  refine lv_aload_n hx hb dL_accept_2 rfl (lv_at hl 0 rfl) ?_
  refine vx_calli (vx_runV (As := []) (rest := [.int 0, .ref oo]) ⟨hx, hb, hml, hown, hts⟩ (t_X2_accept l hlt D cyI cyZ ad zb zo zt zm zu zr zl zf (by rw [hx9]; decide)) (cwV 0 hts gL_accept_X2_accept rfl rfl rfl (by decide +kernel) ⟨Nat.le_of_ble_eq_true rfl, Nat.le_of_ble_eq_true rfl⟩) (ptV hG.1 (hz.kept va_S.rf) (hP.sub (ws' := wZ cyI cyZ ad zb zo zt zm zu zr zl zf) [0, 1, 2, 3, 4, 5, 6, 7, 8, 9, 10, 11, 12, 13, 14, 15, 16, 17, 18, 19] rfl) (ci := 2) rfl rfl rfl) rfl rfl hl.1 rfl (lv_room (Nat.le_of_ble_eq_true rfl)) dL_accept_3 ⟨Nat.le_of_ble_eq_true rfl, Nat.le_of_ble_eq_true rfl⟩) hS (fun _ _ h => h.elim) (fun _ h => h.elim) (fun _ _ h => h.elim) (fun E ce q9 u t H1 locs1 ht _ _ hE _ hk1 hS1 hce hcv hcl => ?_) (fun r u t H1 locs1 ht hvm h hb9 hz1 hk1 hS1 => h.elim)
  obtain rfl : E = "java/lang/IllegalStateException" := hE.trans (by rw [hx9]; rfl)
  have hP1 : va_P D vwCl (wO cyI cyZ cyJ ad zb zo zt zm zu zr zl zf oo go) H1 := hP.kept (fun k q hq => hk1 q.1 (hP k q hq).lt id)
  refine vx_catch (own := RL) (name := "java/lang/IllegalStateException") hown [] (⟨0, 8, 11, 17⟩ : ExceptionTableEntry) [] ((vx_table (x := yL_accept) B (hts _ List.mem_cons_self)).trans rfl) ps_nil (by decide) (by decide) (hts (.classLink RL 17 "java/lang/IllegalStateException") (List.mem_of_getElem? (i := 1) rfl)) (va_Nw.use rfl (hz.2.2.2.1 "java/lang/IllegalStateException" (by decide))) hce hcv hcl ?_
  refine lv_astore_n (lv' := [(2, .ref q9), (0, .ref (ad 0))]) hx hb dL_accept_11 rfl (lv_sub hl [0] rfl) (by decide) rfl (fun ls hl => ?_)
  refine lv_iconst (v := 1) hx hb dL_accept_12 (by decide) ?_
  exact W.iret (v := 1) hx hb hr (fun t ht hW => ⟨⟨1, (), rfl, rfl, by rw [ht]; exact hP1, hD⟩, hS1.F ht⟩) hS1.2.2 dL_accept_13
theorem x_cellByChanges {zb : Tr} {zo : Tr} {zt : Tr} {zu : Nat → Int32} {p1 : Int32} {p2 : Int32} : f_X2_cellByChanges_x zb zo zt zu p1 p2 = 0 ∨ f_X2_cellByChanges_x zb zo zt zu p1 p2 = 1 := by
  rw [f_X2_cellByChanges_x]
  repeat' split
  all_goals first | exact x_rcn _ | exact x_rk _ | exact x_rco _ _ | exact x_rro _ _ | exact x_rcf _ _ | exact Or.inl rfl | exact Or.inr rfl
set_option maxHeartbeats 4000000 in
set_option maxRecDepth 100000 in
theorem k_L_cellByChanges (l : Launch) (D : va_G) (cyI cyZ cyJ : ClassId) (ad : Nat → Nat) (oo : Nat) (zb : Tr) (zo : Tr) (zt : Tr) (zm : Tr) (zu : Nat → Int32) (zr : Nat → Int32) (zl : Lr) (zf : Int32) (go : Nat → Int64) (p1 : Int32) (p2 : Int32) (A : Nat → Prop) (sz : Nat) (hAe : A = va_A (wO cyI cyZ cyJ ad zb zo zt zm zu zr zl zf oo go) sz) (hx9 : f_X2_cellByChanges_x zb zo zt zu p1 p2 = 0) : Met l yL_cellByChanges wsL_cellByChanges ({ frames := 7, cells := 0, slots := 0, locals := 159 } : Room) (pcO D cyI cyZ cyJ sz [.ref (ad 0), .int p1, .int p2, .ref oo] (wO cyI cyZ cyJ ad zb zo zt zm zu zr zl zf oo go)) (mI D A (wO cyI cyZ cyJ ad zb zo zt zm zu zr zl zf oo (vp_updL go (0 : Int32).toNatClampNeg ((f_X2_cellByChanges zb zo zt zu p1 p2)).toInt64)) 0) 0 0 A := by
  refine va_MetW (cc := cL_cellByChanges) (maxL := 5) (ret := some .int) (hh := [(0, 10, 13, 13)]) (by decide) rfl ?_
  intro p e s m args below meth c s₁ B hml hv
  obtain ⟨rfl, hsz, hP, hG, ⟨hz, hn⟩, hD0⟩ := hv
  have hx := B.exec
  have hb := B.bytes
  have hr := B.returns
  have hts := atoms_spec (ws := wsL_cellByChanges) B.pre
  have hown : s.vm.findClass RL = some m.cls := findClass_of_methodNamed B.named
  subst hsz
  have hD : va_D A (wO cyI cyZ cyJ ad zb zo zt zm zu zr zl zf oo go) := by rw [hAe]; exact hD0.self
  have hA : ∀ q : Nat, s.heap.size ≤ q → A q := fun q h => by rw [hAe]; exact Or.inr h
  clear hAe hD0
  have hS : va_S A s.heap s.heap [] := va_S.rf
  have hl := lv_entry ([.ref (ad 0), .int p1, .int p2, .ref oo]) (n := 5) (Nat.le_of_ble_eq_true rfl)
  rw [lg_entry_eq]
  generalize (lg_sl ([.ref (ad 0), .int p1, .int p2, .ref oo]) ++ List.replicate (5 - (lg_sl ([.ref (ad 0), .int p1, .int p2, .ref oo])).length) Slot.unset).toArray = ls at hl ⊢
  have hl : lv_has ls 5 [(0, .ref (ad 0)), (1, .int p1), (2, .int p2), (3, .ref oo)] := hl
  have hP : va_P D vwCl (wO cyI cyZ cyJ ad zb zo zt zm zu zr zl zf oo go) s.heap := hP
  refine lv_aload_n hx hb dL_cellByChanges_0 rfl (lv_at hl 3 rfl) ?_
  refine lv_iconst (v := 0) hx hb dL_cellByChanges_1 (by decide) ?_
  refine lv_aload_n hx hb dL_cellByChanges_2 rfl (lv_at hl 0 rfl) ?_
  refine lv_iload_n hx hb dL_cellByChanges_3 rfl (lv_at hl 1 rfl) ?_
  refine lv_iload_n hx hb dL_cellByChanges_4 rfl (lv_at hl 2 rfl) ?_
  refine pr_i (va_runV (As := [.int p1, .int p2]) (rest := [.int 0, .ref oo]) ⟨hx, hb, hml, hown, hts⟩ (k_X2_cellByChanges l D cyI cyZ ad zb zo zt zm zu zr zl zf p1 p2 hx9) (cwV 2 hts gL_cellByChanges_X2_cellByChanges rfl rfl rfl (by decide +kernel) ⟨Nat.le_of_ble_eq_true rfl, Nat.le_of_ble_eq_true rfl⟩) (prV hG.1 (hP.sub (ws' := wZ cyI cyZ ad zb zo zt zm zu zr zl zf) [0, 1, 2, 3, 4, 5, 6, 7, 8, 9, 10, 11, 12, 13, 14, 15, 16, 17, 18, 19] rfl) (ci := 2) rfl rfl rfl) rfl rfl hl.1 rfl (lv_room (Nat.le_of_ble_eq_true rfl)) dL_cellByChanges_5 ⟨Nat.zero_le _, Nat.zero_le _⟩) hS hP (fun H locs hP hS => ?_)
  refine lv_i2l (v := ((f_X2_cellByChanges zb zo zt zu p1 p2)).toInt64) hx hb dL_cellByChanges_8 rfl ?_
  refine va_last hx hb hG.2 hP hD hS 20 0 rfl rfl (vp_in_nI (n := 0) (by decide) (by decide)) dL_cellByChanges_9 (fun H locs hP hD hS => ?_)
  refine lv_goto (tgt := 17) hx hb dL_cellByChanges_10 (by decide) ?_
  refine lv_iconst (v := 0) hx hb dL_cellByChanges_17 (by decide) ?_
  have hP : va_P D vwCl (wO cyI cyZ cyJ ad zb zo zt zm zu zr zl zf oo (vp_updL go (0 : Int32).toNatClampNeg ((f_X2_cellByChanges zb zo zt zu p1 p2)).toInt64)) H := hP
  have hD : va_D A (wO cyI cyZ cyJ ad zb zo zt zm zu zr zl zf oo (vp_updL go (0 : Int32).toNatClampNeg ((f_X2_cellByChanges zb zo zt zu p1 p2)).toInt64)) := hD
  exact W.iret (v := 0) hx hb hr (fun t ht hW => ⟨⟨0, (), rfl, rfl, by rw [ht]; exact hP, hD⟩, hS.F ht⟩) hS.2.2 dL_cellByChanges_18
set_option maxHeartbeats 4000000 in
set_option maxRecDepth 100000 in
theorem t_L_cellByChanges_1 (l : Launch) (hlt : l.stackTraces = false) (D : va_G) (cyI cyZ cyJ : ClassId) (ad : Nat → Nat) (oo : Nat) (zb : Tr) (zo : Tr) (zt : Tr) (zm : Tr) (zu : Nat → Int32) (zr : Nat → Int32) (zl : Lr) (zf : Int32) (go : Nat → Int64) (p1 : Int32) (p2 : Int32) (A : Nat → Prop) (sz : Nat) (hAe : A = va_A (wO cyI cyZ cyJ ad zb zo zt zm zu zr zl zf oo go) sz) (hx9 : f_X2_cellByChanges_x zb zo zt zu p1 p2 = 1) : Met l yL_cellByChanges wsL_cellByChanges ({ frames := 8, cells := 1, slots := 6, locals := 159 } : Room) (pcO D cyI cyZ cyJ sz [.ref (ad 0), .int p1, .int p2, .ref oo] (wO cyI cyZ cyJ ad zb zo zt zm zu zr zl zf oo go)) (mI D A (wO cyI cyZ cyJ ad zb zo zt zm zu zr zl zf oo go) 1) 1 6 A := by
  refine va_MetW (cc := cL_cellByChanges) (maxL := 5) (ret := some .int) (hh := [(0, 10, 13, 13)]) (by decide) rfl ?_
  intro p e s m args below meth c s₁ B hml hv
  obtain ⟨rfl, hsz, hP, hG, ⟨hz, hn⟩, hD0⟩ := hv
  have hx := B.exec
  have hb := B.bytes
  have hr := B.returns
  have hts := atoms_spec (ws := wsL_cellByChanges) B.pre
  have hown : s.vm.findClass RL = some m.cls := findClass_of_methodNamed B.named
  subst hsz
  have hD : va_D A (wO cyI cyZ cyJ ad zb zo zt zm zu zr zl zf oo go) := by rw [hAe]; exact hD0.self
  have hA : ∀ q : Nat, s.heap.size ≤ q → A q := fun q h => by rw [hAe]; exact Or.inr h
  clear hAe hD0
  have hS : va_S A s.heap s.heap [] := va_S.rf
  have hl := lv_entry ([.ref (ad 0), .int p1, .int p2, .ref oo]) (n := 5) (Nat.le_of_ble_eq_true rfl)
  rw [lg_entry_eq]
  generalize (lg_sl ([.ref (ad 0), .int p1, .int p2, .ref oo]) ++ List.replicate (5 - (lg_sl ([.ref (ad 0), .int p1, .int p2, .ref oo])).length) Slot.unset).toArray = ls at hl ⊢
  have hl : lv_has ls 5 [(0, .ref (ad 0)), (1, .int p1), (2, .int p2), (3, .ref oo)] := hl
  have hP : va_P D vwCl (wO cyI cyZ cyJ ad zb zo zt zm zu zr zl zf oo go) s.heap := hP
  refine lv_aload_n hx hb dL_cellByChanges_0 rfl (lv_at hl 3 rfl) ?_
  refine lv_iconst (v := 0) hx hb dL_cellByChanges_1 (by decide) ?_
  refine lv_aload_n hx hb dL_cellByChanges_2 rfl (lv_at hl 0 rfl) ?_
  refine lv_iload_n hx hb dL_cellByChanges_3 rfl (lv_at hl 1 rfl) ?_
  refine lv_iload_n hx hb dL_cellByChanges_4 rfl (lv_at hl 2 rfl) ?_
  refine vx_calli (vx_runV (As := [.int p1, .int p2]) (rest := [.int 0, .ref oo]) ⟨hx, hb, hml, hown, hts⟩ (t_X2_cellByChanges l hlt D cyI cyZ ad zb zo zt zm zu zr zl zf p1 p2 (by rw [hx9]; decide)) (cwV 2 hts gL_cellByChanges_X2_cellByChanges rfl rfl rfl (by decide +kernel) ⟨Nat.le_of_ble_eq_true rfl, Nat.le_of_ble_eq_true rfl⟩) (ptV hG.1 (hz.kept va_S.rf) (hP.sub (ws' := wZ cyI cyZ ad zb zo zt zm zu zr zl zf) [0, 1, 2, 3, 4, 5, 6, 7, 8, 9, 10, 11, 12, 13, 14, 15, 16, 17, 18, 19] rfl) (ci := 2) rfl rfl rfl) rfl rfl hl.1 rfl (lv_room (Nat.le_of_ble_eq_true rfl)) dL_cellByChanges_5 ⟨Nat.le_of_ble_eq_true rfl, Nat.le_of_ble_eq_true rfl⟩) hS (fun _ _ h => h.elim) (fun _ h => h.elim) (fun _ _ h => h.elim) (fun E ce q9 u t H1 locs1 ht _ _ hE _ hk1 hS1 hce hcv hcl => ?_) (fun r u t H1 locs1 ht hvm h hb9 hz1 hk1 hS1 => h.elim)
  obtain rfl : E = "java/lang/IndexOutOfBoundsException" := hE.trans (by rw [hx9]; rfl)
  have hP1 : va_P D vwCl (wO cyI cyZ cyJ ad zb zo zt zm zu zr zl zf oo go) H1 := hP.kept (fun k q hq => hk1 q.1 (hP k q hq).lt id)
  refine vx_catch (own := RL) (name := "java/lang/IndexOutOfBoundsException") hown [] (⟨0, 10, 13, 13⟩ : ExceptionTableEntry) [] ((vx_table (x := yL_cellByChanges) B (hts _ List.mem_cons_self)).trans rfl) ps_nil (by decide) (by decide) (hts (.classLink RL 13 "java/lang/IndexOutOfBoundsException") (List.mem_of_getElem? (i := 1) rfl)) (va_Nw.use rfl (hz.2.2.2.1 "java/lang/IndexOutOfBoundsException" (by decide))) hce hcv hcl ?_
  refine lv_astore (lv' := [(4, .ref q9), (0, .ref (ad 0))]) hx hb dL_cellByChanges_13 (lv_sub hl [0] rfl) (by decide) rfl (fun ls hl => ?_)
  refine lv_iconst (v := 1) hx hb dL_cellByChanges_15 (by decide) ?_
  exact W.iret (v := 1) hx hb hr (fun t ht hW => ⟨⟨1, (), rfl, rfl, by rw [ht]; exact hP1, hD⟩, hS1.F ht⟩) hS1.2.2 dL_cellByChanges_16
theorem x_kindOf {zl : Lr} {p1 : Int32} : f_X2_kindOf_x zl p1 = 0 ∨ f_X2_kindOf_x zl p1 = 1 := by
  rw [f_X2_kindOf_x]
  repeat' split
  all_goals first | exact x_rcn _ | exact x_rk _ | exact x_rco _ _ | exact x_rro _ _ | exact x_rcf _ _ | exact Or.inl rfl | exact Or.inr rfl
set_option maxHeartbeats 4000000 in
set_option maxRecDepth 100000 in
theorem k_L_kindOf (l : Launch) (D : va_G) (cyI cyZ cyJ : ClassId) (ad : Nat → Nat) (oo : Nat) (zb : Tr) (zo : Tr) (zt : Tr) (zm : Tr) (zu : Nat → Int32) (zr : Nat → Int32) (zl : Lr) (zf : Int32) (go : Nat → Int64) (p1 : Int32) (A : Nat → Prop) (sz : Nat) (hAe : A = va_A (wO cyI cyZ cyJ ad zb zo zt zm zu zr zl zf oo go) sz) (hx9 : f_X2_kindOf_x zl p1 = 0) : Met l yL_kindOf wsL_kindOf ({ frames := 3, cells := 0, slots := 0, locals := 63 } : Room) (pcO D cyI cyZ cyJ sz [.ref (ad 0), .int p1, .ref oo] (wO cyI cyZ cyJ ad zb zo zt zm zu zr zl zf oo go)) (mI D A (wO cyI cyZ cyJ ad zb zo zt zm zu zr zl zf oo (vp_updL go (0 : Int32).toNatClampNeg ((f_X2_kindOf zl p1)).toInt64)) 0) 0 0 A := by
  refine va_MetW (cc := cL_kindOf) (maxL := 4) (ret := some .int) (hh := [(0, 9, 12, 13)]) (by decide) rfl ?_
  intro p e s m args below meth c s₁ B hml hv
  obtain ⟨rfl, hsz, hP, hG, ⟨hz, hn⟩, hD0⟩ := hv
  have hx := B.exec
  have hb := B.bytes
  have hr := B.returns
  have hts := atoms_spec (ws := wsL_kindOf) B.pre
  have hown : s.vm.findClass RL = some m.cls := findClass_of_methodNamed B.named
  subst hsz
  have hD : va_D A (wO cyI cyZ cyJ ad zb zo zt zm zu zr zl zf oo go) := by rw [hAe]; exact hD0.self
  have hA : ∀ q : Nat, s.heap.size ≤ q → A q := fun q h => by rw [hAe]; exact Or.inr h
  clear hAe hD0
  have hS : va_S A s.heap s.heap [] := va_S.rf
  have hl := lv_entry ([.ref (ad 0), .int p1, .ref oo]) (n := 4) (Nat.le_of_ble_eq_true rfl)
  rw [lg_entry_eq]
  generalize (lg_sl ([.ref (ad 0), .int p1, .ref oo]) ++ List.replicate (4 - (lg_sl ([.ref (ad 0), .int p1, .ref oo])).length) Slot.unset).toArray = ls at hl ⊢
  have hl : lv_has ls 4 [(0, .ref (ad 0)), (1, .int p1), (2, .ref oo)] := hl
  have hP : va_P D vwCl (wO cyI cyZ cyJ ad zb zo zt zm zu zr zl zf oo go) s.heap := hP
  refine lv_aload_n hx hb dL_kindOf_0 rfl (lv_at hl 2 rfl) ?_
  refine lv_iconst (v := 0) hx hb dL_kindOf_1 (by decide) ?_
  refine lv_aload_n hx hb dL_kindOf_2 rfl (lv_at hl 0 rfl) ?_
  refine lv_iload_n hx hb dL_kindOf_3 rfl (lv_at hl 1 rfl) ?_
  refine pr_i (va_runV (As := [.int p1]) (rest := [.int 0, .ref oo]) ⟨hx, hb, hml, hown, hts⟩ (k_X2_kindOf l D cyI cyZ ad zb zo zt zm zu zr zl zf p1 hx9) (cwV 1 hts gL_kindOf_X2_kindOf rfl rfl rfl (by decide +kernel) ⟨Nat.le_of_ble_eq_true rfl, Nat.le_of_ble_eq_true rfl⟩) (prV hG.1 (hP.sub (ws' := wZ cyI cyZ ad zb zo zt zm zu zr zl zf) [0, 1, 2, 3, 4, 5, 6, 7, 8, 9, 10, 11, 12, 13, 14, 15, 16, 17, 18, 19] rfl) (ci := 2) rfl rfl rfl) rfl rfl hl.1 rfl (lv_room (Nat.le_of_ble_eq_true rfl)) dL_kindOf_4 ⟨Nat.zero_le _, Nat.zero_le _⟩) hS hP (fun H locs hP hS => ?_)
  refine lv_i2l (v := ((f_X2_kindOf zl p1)).toInt64) hx hb dL_kindOf_7 rfl ?_
  refine va_last hx hb hG.2 hP hD hS 20 0 rfl rfl (vp_in_nI (n := 0) (by decide) (by decide)) dL_kindOf_8 (fun H locs hP hD hS => ?_)
  refine lv_goto (tgt := 15) hx hb dL_kindOf_9 (by decide) ?_
  refine lv_iconst (v := 0) hx hb dL_kindOf_15 (by decide) ?_
  have hP : va_P D vwCl (wO cyI cyZ cyJ ad zb zo zt zm zu zr zl zf oo (vp_updL go (0 : Int32).toNatClampNeg ((f_X2_kindOf zl p1)).toInt64)) H := hP
  have hD : va_D A (wO cyI cyZ cyJ ad zb zo zt zm zu zr zl zf oo (vp_updL go (0 : Int32).toNatClampNeg ((f_X2_kindOf zl p1)).toInt64)) := hD
  exact W.iret (v := 0) hx hb hr (fun t ht hW => ⟨⟨0, (), rfl, rfl, by rw [ht]; exact hP, hD⟩, hS.F ht⟩) hS.2.2 dL_kindOf_16
set_option maxHeartbeats 4000000 in
set_option maxRecDepth 100000 in
theorem t_L_kindOf_1 (l : Launch) (hlt : l.stackTraces = false) (D : va_G) (cyI cyZ cyJ : ClassId) (ad : Nat → Nat) (oo : Nat) (zb : Tr) (zo : Tr) (zt : Tr) (zm : Tr) (zu : Nat → Int32) (zr : Nat → Int32) (zl : Lr) (zf : Int32) (go : Nat → Int64) (p1 : Int32) (A : Nat → Prop) (sz : Nat) (hAe : A = va_A (wO cyI cyZ cyJ ad zb zo zt zm zu zr zl zf oo go) sz) (hx9 : f_X2_kindOf_x zl p1 = 1) : Met l yL_kindOf wsL_kindOf ({ frames := 8, cells := 1, slots := 6, locals := 142 } : Room) (pcO D cyI cyZ cyJ sz [.ref (ad 0), .int p1, .ref oo] (wO cyI cyZ cyJ ad zb zo zt zm zu zr zl zf oo go)) (mI D A (wO cyI cyZ cyJ ad zb zo zt zm zu zr zl zf oo go) 1) 1 6 A := by
  refine va_MetW (cc := cL_kindOf) (maxL := 4) (ret := some .int) (hh := [(0, 9, 12, 13)]) (by decide) rfl ?_
  intro p e s m args below meth c s₁ B hml hv
  obtain ⟨rfl, hsz, hP, hG, ⟨hz, hn⟩, hD0⟩ := hv
  have hx := B.exec
  have hb := B.bytes
  have hr := B.returns
  have hts := atoms_spec (ws := wsL_kindOf) B.pre
  have hown : s.vm.findClass RL = some m.cls := findClass_of_methodNamed B.named
  subst hsz
  have hD : va_D A (wO cyI cyZ cyJ ad zb zo zt zm zu zr zl zf oo go) := by rw [hAe]; exact hD0.self
  have hA : ∀ q : Nat, s.heap.size ≤ q → A q := fun q h => by rw [hAe]; exact Or.inr h
  clear hAe hD0
  have hS : va_S A s.heap s.heap [] := va_S.rf
  have hl := lv_entry ([.ref (ad 0), .int p1, .ref oo]) (n := 4) (Nat.le_of_ble_eq_true rfl)
  rw [lg_entry_eq]
  generalize (lg_sl ([.ref (ad 0), .int p1, .ref oo]) ++ List.replicate (4 - (lg_sl ([.ref (ad 0), .int p1, .ref oo])).length) Slot.unset).toArray = ls at hl ⊢
  have hl : lv_has ls 4 [(0, .ref (ad 0)), (1, .int p1), (2, .ref oo)] := hl
  have hP : va_P D vwCl (wO cyI cyZ cyJ ad zb zo zt zm zu zr zl zf oo go) s.heap := hP
  refine lv_aload_n hx hb dL_kindOf_0 rfl (lv_at hl 2 rfl) ?_
  refine lv_iconst (v := 0) hx hb dL_kindOf_1 (by decide) ?_
  refine lv_aload_n hx hb dL_kindOf_2 rfl (lv_at hl 0 rfl) ?_
  refine lv_iload_n hx hb dL_kindOf_3 rfl (lv_at hl 1 rfl) ?_
  refine vx_calli (vx_runV (As := [.int p1]) (rest := [.int 0, .ref oo]) ⟨hx, hb, hml, hown, hts⟩ (t_X2_kindOf l hlt D cyI cyZ ad zb zo zt zm zu zr zl zf p1 (by rw [hx9]; decide)) (cwV 1 hts gL_kindOf_X2_kindOf rfl rfl rfl (by decide +kernel) ⟨Nat.le_of_ble_eq_true rfl, Nat.le_of_ble_eq_true rfl⟩) (ptV hG.1 (hz.kept va_S.rf) (hP.sub (ws' := wZ cyI cyZ ad zb zo zt zm zu zr zl zf) [0, 1, 2, 3, 4, 5, 6, 7, 8, 9, 10, 11, 12, 13, 14, 15, 16, 17, 18, 19] rfl) (ci := 2) rfl rfl rfl) rfl rfl hl.1 rfl (lv_room (Nat.le_of_ble_eq_true rfl)) dL_kindOf_4 ⟨Nat.le_of_ble_eq_true rfl, Nat.le_of_ble_eq_true rfl⟩) hS (fun _ _ h => h.elim) (fun _ h => h.elim) (fun _ _ h => h.elim) (fun E ce q9 u t H1 locs1 ht _ _ hE _ hk1 hS1 hce hcv hcl => ?_) (fun r u t H1 locs1 ht hvm h hb9 hz1 hk1 hS1 => h.elim)
  obtain rfl : E = "java/lang/IndexOutOfBoundsException" := hE.trans (by rw [hx9]; rfl)
  have hP1 : va_P D vwCl (wO cyI cyZ cyJ ad zb zo zt zm zu zr zl zf oo go) H1 := hP.kept (fun k q hq => hk1 q.1 (hP k q hq).lt id)
  refine vx_catch (own := RL) (name := "java/lang/IndexOutOfBoundsException") hown [] (⟨0, 9, 12, 13⟩ : ExceptionTableEntry) [] ((vx_table (x := yL_kindOf) B (hts _ List.mem_cons_self)).trans rfl) ps_nil (by decide) (by decide) (hts (.classLink RL 13 "java/lang/IndexOutOfBoundsException") (List.mem_of_getElem? (i := 1) rfl)) (va_Nw.use rfl (hz.2.2.2.1 "java/lang/IndexOutOfBoundsException" (by decide))) hce hcv hcl ?_
  refine lv_astore_n (lv' := [(3, .ref q9), (0, .ref (ad 0))]) hx hb dL_kindOf_12 rfl (lv_sub hl [0] rfl) (by decide) rfl (fun ls hl => ?_)
  refine lv_iconst (v := 1) hx hb dL_kindOf_13 (by decide) ?_
  exact W.iret (v := 1) hx hb hr (fun t ht hW => ⟨⟨1, (), rfl, rfl, by rw [ht]; exact hP1, hD⟩, hS1.F ht⟩) hS1.2.2 dL_kindOf_14
theorem x_keyOf {zl : Lr} {p1 : Int32} : f_X2_keyOf_x zl p1 = 0 ∨ f_X2_keyOf_x zl p1 = 1 := by
  rw [f_X2_keyOf_x]
  repeat' split
  all_goals first | exact x_rcn _ | exact x_rk _ | exact x_rco _ _ | exact x_rro _ _ | exact x_rcf _ _ | exact Or.inl rfl | exact Or.inr rfl
set_option maxHeartbeats 4000000 in
set_option maxRecDepth 100000 in
theorem k_L_keyOf (l : Launch) (D : va_G) (cyI cyZ cyJ : ClassId) (ad : Nat → Nat) (oo : Nat) (zb : Tr) (zo : Tr) (zt : Tr) (zm : Tr) (zu : Nat → Int32) (zr : Nat → Int32) (zl : Lr) (zf : Int32) (go : Nat → Int64) (p1 : Int32) (A : Nat → Prop) (sz : Nat) (hAe : A = va_A (wO cyI cyZ cyJ ad zb zo zt zm zu zr zl zf oo go) sz) (hx9 : f_X2_keyOf_x zl p1 = 0) : Met l yL_keyOf wsL_keyOf ({ frames := 3, cells := 0, slots := 0, locals := 63 } : Room) (pcO D cyI cyZ cyJ sz [.ref (ad 0), .int p1, .ref oo] (wO cyI cyZ cyJ ad zb zo zt zm zu zr zl zf oo go)) (mI D A (wO cyI cyZ cyJ ad zb zo zt zm zu zr zl zf oo (vp_updL go (0 : Int32).toNatClampNeg ((f_X2_keyOf zl p1)).toInt64)) 0) 0 0 A := by
  refine va_MetW (cc := cL_keyOf) (maxL := 4) (ret := some .int) (hh := [(0, 9, 12, 13)]) (by decide) rfl ?_
  intro p e s m args below meth c s₁ B hml hv
  obtain ⟨rfl, hsz, hP, hG, ⟨hz, hn⟩, hD0⟩ := hv
  have hx := B.exec
  have hb := B.bytes
  have hr := B.returns
  have hts := atoms_spec (ws := wsL_keyOf) B.pre
  have hown : s.vm.findClass RL = some m.cls := findClass_of_methodNamed B.named
  subst hsz
  have hD : va_D A (wO cyI cyZ cyJ ad zb zo zt zm zu zr zl zf oo go) := by rw [hAe]; exact hD0.self
  have hA : ∀ q : Nat, s.heap.size ≤ q → A q := fun q h => by rw [hAe]; exact Or.inr h
  clear hAe hD0
  have hS : va_S A s.heap s.heap [] := va_S.rf
  have hl := lv_entry ([.ref (ad 0), .int p1, .ref oo]) (n := 4) (Nat.le_of_ble_eq_true rfl)
  rw [lg_entry_eq]
  generalize (lg_sl ([.ref (ad 0), .int p1, .ref oo]) ++ List.replicate (4 - (lg_sl ([.ref (ad 0), .int p1, .ref oo])).length) Slot.unset).toArray = ls at hl ⊢
  have hl : lv_has ls 4 [(0, .ref (ad 0)), (1, .int p1), (2, .ref oo)] := hl
  have hP : va_P D vwCl (wO cyI cyZ cyJ ad zb zo zt zm zu zr zl zf oo go) s.heap := hP
  refine lv_aload_n hx hb dL_keyOf_0 rfl (lv_at hl 2 rfl) ?_
  refine lv_iconst (v := 0) hx hb dL_keyOf_1 (by decide) ?_
  refine lv_aload_n hx hb dL_keyOf_2 rfl (lv_at hl 0 rfl) ?_
  refine lv_iload_n hx hb dL_keyOf_3 rfl (lv_at hl 1 rfl) ?_
  refine pr_i (va_runV (As := [.int p1]) (rest := [.int 0, .ref oo]) ⟨hx, hb, hml, hown, hts⟩ (k_X2_keyOf l D cyI cyZ ad zb zo zt zm zu zr zl zf p1 hx9) (cwV 1 hts gL_keyOf_X2_keyOf rfl rfl rfl (by decide +kernel) ⟨Nat.le_of_ble_eq_true rfl, Nat.le_of_ble_eq_true rfl⟩) (prV hG.1 (hP.sub (ws' := wZ cyI cyZ ad zb zo zt zm zu zr zl zf) [0, 1, 2, 3, 4, 5, 6, 7, 8, 9, 10, 11, 12, 13, 14, 15, 16, 17, 18, 19] rfl) (ci := 2) rfl rfl rfl) rfl rfl hl.1 rfl (lv_room (Nat.le_of_ble_eq_true rfl)) dL_keyOf_4 ⟨Nat.zero_le _, Nat.zero_le _⟩) hS hP (fun H locs hP hS => ?_)
  refine lv_i2l (v := ((f_X2_keyOf zl p1)).toInt64) hx hb dL_keyOf_7 rfl ?_
  refine va_last hx hb hG.2 hP hD hS 20 0 rfl rfl (vp_in_nI (n := 0) (by decide) (by decide)) dL_keyOf_8 (fun H locs hP hD hS => ?_)
  refine lv_goto (tgt := 15) hx hb dL_keyOf_9 (by decide) ?_
  refine lv_iconst (v := 0) hx hb dL_keyOf_15 (by decide) ?_
  have hP : va_P D vwCl (wO cyI cyZ cyJ ad zb zo zt zm zu zr zl zf oo (vp_updL go (0 : Int32).toNatClampNeg ((f_X2_keyOf zl p1)).toInt64)) H := hP
  have hD : va_D A (wO cyI cyZ cyJ ad zb zo zt zm zu zr zl zf oo (vp_updL go (0 : Int32).toNatClampNeg ((f_X2_keyOf zl p1)).toInt64)) := hD
  exact W.iret (v := 0) hx hb hr (fun t ht hW => ⟨⟨0, (), rfl, rfl, by rw [ht]; exact hP, hD⟩, hS.F ht⟩) hS.2.2 dL_keyOf_16
set_option maxHeartbeats 4000000 in
set_option maxRecDepth 100000 in
theorem t_L_keyOf_1 (l : Launch) (hlt : l.stackTraces = false) (D : va_G) (cyI cyZ cyJ : ClassId) (ad : Nat → Nat) (oo : Nat) (zb : Tr) (zo : Tr) (zt : Tr) (zm : Tr) (zu : Nat → Int32) (zr : Nat → Int32) (zl : Lr) (zf : Int32) (go : Nat → Int64) (p1 : Int32) (A : Nat → Prop) (sz : Nat) (hAe : A = va_A (wO cyI cyZ cyJ ad zb zo zt zm zu zr zl zf oo go) sz) (hx9 : f_X2_keyOf_x zl p1 = 1) : Met l yL_keyOf wsL_keyOf ({ frames := 8, cells := 1, slots := 6, locals := 142 } : Room) (pcO D cyI cyZ cyJ sz [.ref (ad 0), .int p1, .ref oo] (wO cyI cyZ cyJ ad zb zo zt zm zu zr zl zf oo go)) (mI D A (wO cyI cyZ cyJ ad zb zo zt zm zu zr zl zf oo go) 1) 1 6 A := by
  refine va_MetW (cc := cL_keyOf) (maxL := 4) (ret := some .int) (hh := [(0, 9, 12, 13)]) (by decide) rfl ?_
  intro p e s m args below meth c s₁ B hml hv
  obtain ⟨rfl, hsz, hP, hG, ⟨hz, hn⟩, hD0⟩ := hv
  have hx := B.exec
  have hb := B.bytes
  have hr := B.returns
  have hts := atoms_spec (ws := wsL_keyOf) B.pre
  have hown : s.vm.findClass RL = some m.cls := findClass_of_methodNamed B.named
  subst hsz
  have hD : va_D A (wO cyI cyZ cyJ ad zb zo zt zm zu zr zl zf oo go) := by rw [hAe]; exact hD0.self
  have hA : ∀ q : Nat, s.heap.size ≤ q → A q := fun q h => by rw [hAe]; exact Or.inr h
  clear hAe hD0
  have hS : va_S A s.heap s.heap [] := va_S.rf
  have hl := lv_entry ([.ref (ad 0), .int p1, .ref oo]) (n := 4) (Nat.le_of_ble_eq_true rfl)
  rw [lg_entry_eq]
  generalize (lg_sl ([.ref (ad 0), .int p1, .ref oo]) ++ List.replicate (4 - (lg_sl ([.ref (ad 0), .int p1, .ref oo])).length) Slot.unset).toArray = ls at hl ⊢
  have hl : lv_has ls 4 [(0, .ref (ad 0)), (1, .int p1), (2, .ref oo)] := hl
  have hP : va_P D vwCl (wO cyI cyZ cyJ ad zb zo zt zm zu zr zl zf oo go) s.heap := hP
  refine lv_aload_n hx hb dL_keyOf_0 rfl (lv_at hl 2 rfl) ?_
  refine lv_iconst (v := 0) hx hb dL_keyOf_1 (by decide) ?_
  refine lv_aload_n hx hb dL_keyOf_2 rfl (lv_at hl 0 rfl) ?_
  refine lv_iload_n hx hb dL_keyOf_3 rfl (lv_at hl 1 rfl) ?_
  refine vx_calli (vx_runV (As := [.int p1]) (rest := [.int 0, .ref oo]) ⟨hx, hb, hml, hown, hts⟩ (t_X2_keyOf l hlt D cyI cyZ ad zb zo zt zm zu zr zl zf p1 (by rw [hx9]; decide)) (cwV 1 hts gL_keyOf_X2_keyOf rfl rfl rfl (by decide +kernel) ⟨Nat.le_of_ble_eq_true rfl, Nat.le_of_ble_eq_true rfl⟩) (ptV hG.1 (hz.kept va_S.rf) (hP.sub (ws' := wZ cyI cyZ ad zb zo zt zm zu zr zl zf) [0, 1, 2, 3, 4, 5, 6, 7, 8, 9, 10, 11, 12, 13, 14, 15, 16, 17, 18, 19] rfl) (ci := 2) rfl rfl rfl) rfl rfl hl.1 rfl (lv_room (Nat.le_of_ble_eq_true rfl)) dL_keyOf_4 ⟨Nat.le_of_ble_eq_true rfl, Nat.le_of_ble_eq_true rfl⟩) hS (fun _ _ h => h.elim) (fun _ h => h.elim) (fun _ _ h => h.elim) (fun E ce q9 u t H1 locs1 ht _ _ hE _ hk1 hS1 hce hcv hcl => ?_) (fun r u t H1 locs1 ht hvm h hb9 hz1 hk1 hS1 => h.elim)
  obtain rfl : E = "java/lang/IndexOutOfBoundsException" := hE.trans (by rw [hx9]; rfl)
  have hP1 : va_P D vwCl (wO cyI cyZ cyJ ad zb zo zt zm zu zr zl zf oo go) H1 := hP.kept (fun k q hq => hk1 q.1 (hP k q hq).lt id)
  refine vx_catch (own := RL) (name := "java/lang/IndexOutOfBoundsException") hown [] (⟨0, 9, 12, 13⟩ : ExceptionTableEntry) [] ((vx_table (x := yL_keyOf) B (hts _ List.mem_cons_self)).trans rfl) ps_nil (by decide) (by decide) (hts (.classLink RL 13 "java/lang/IndexOutOfBoundsException") (List.mem_of_getElem? (i := 1) rfl)) (va_Nw.use rfl (hz.2.2.2.1 "java/lang/IndexOutOfBoundsException" (by decide))) hce hcv hcl ?_
  refine lv_astore_n (lv' := [(3, .ref q9), (0, .ref (ad 0))]) hx hb dL_keyOf_12 rfl (lv_sub hl [0] rfl) (by decide) rfl (fun ls hl => ?_)
  refine lv_iconst (v := 1) hx hb dL_keyOf_13 (by decide) ?_
  exact W.iret (v := 1) hx hb hr (fun t ht hW => ⟨⟨1, (), rfl, rfl, by rw [ht]; exact hP1, hD⟩, hS1.F ht⟩) hS1.2.2 dL_keyOf_14
theorem x_columnOf {zl : Lr} {p1 : Int32} : f_X2_columnOf_x zl p1 = 0 ∨ f_X2_columnOf_x zl p1 = 1 := by
  rw [f_X2_columnOf_x]
  repeat' split
  all_goals first | exact x_rcn _ | exact x_rk _ | exact x_rco _ _ | exact x_rro _ _ | exact x_rcf _ _ | exact Or.inl rfl | exact Or.inr rfl
set_option maxHeartbeats 4000000 in
set_option maxRecDepth 100000 in
theorem k_L_columnOf (l : Launch) (D : va_G) (cyI cyZ cyJ : ClassId) (ad : Nat → Nat) (oo : Nat) (zb : Tr) (zo : Tr) (zt : Tr) (zm : Tr) (zu : Nat → Int32) (zr : Nat → Int32) (zl : Lr) (zf : Int32) (go : Nat → Int64) (p1 : Int32) (A : Nat → Prop) (sz : Nat) (hAe : A = va_A (wO cyI cyZ cyJ ad zb zo zt zm zu zr zl zf oo go) sz) (hx9 : f_X2_columnOf_x zl p1 = 0) : Met l yL_columnOf wsL_columnOf ({ frames := 3, cells := 0, slots := 0, locals := 63 } : Room) (pcO D cyI cyZ cyJ sz [.ref (ad 0), .int p1, .ref oo] (wO cyI cyZ cyJ ad zb zo zt zm zu zr zl zf oo go)) (mI D A (wO cyI cyZ cyJ ad zb zo zt zm zu zr zl zf oo (vp_updL go (0 : Int32).toNatClampNeg ((f_X2_columnOf zl p1)).toInt64)) 0) 0 0 A := by
  refine va_MetW (cc := cL_columnOf) (maxL := 4) (ret := some .int) (hh := [(0, 9, 12, 13)]) (by decide) rfl ?_
  intro p e s m args below meth c s₁ B hml hv
  obtain ⟨rfl, hsz, hP, hG, ⟨hz, hn⟩, hD0⟩ := hv
  have hx := B.exec
  have hb := B.bytes
  have hr := B.returns
  have hts := atoms_spec (ws := wsL_columnOf) B.pre
  have hown : s.vm.findClass RL = some m.cls := findClass_of_methodNamed B.named
  subst hsz
  have hD : va_D A (wO cyI cyZ cyJ ad zb zo zt zm zu zr zl zf oo go) := by rw [hAe]; exact hD0.self
  have hA : ∀ q : Nat, s.heap.size ≤ q → A q := fun q h => by rw [hAe]; exact Or.inr h
  clear hAe hD0
  have hS : va_S A s.heap s.heap [] := va_S.rf
  have hl := lv_entry ([.ref (ad 0), .int p1, .ref oo]) (n := 4) (Nat.le_of_ble_eq_true rfl)
  rw [lg_entry_eq]
  generalize (lg_sl ([.ref (ad 0), .int p1, .ref oo]) ++ List.replicate (4 - (lg_sl ([.ref (ad 0), .int p1, .ref oo])).length) Slot.unset).toArray = ls at hl ⊢
  have hl : lv_has ls 4 [(0, .ref (ad 0)), (1, .int p1), (2, .ref oo)] := hl
  have hP : va_P D vwCl (wO cyI cyZ cyJ ad zb zo zt zm zu zr zl zf oo go) s.heap := hP
  refine lv_aload_n hx hb dL_columnOf_0 rfl (lv_at hl 2 rfl) ?_
  refine lv_iconst (v := 0) hx hb dL_columnOf_1 (by decide) ?_
  refine lv_aload_n hx hb dL_columnOf_2 rfl (lv_at hl 0 rfl) ?_
  refine lv_iload_n hx hb dL_columnOf_3 rfl (lv_at hl 1 rfl) ?_
  refine pr_i (va_runV (As := [.int p1]) (rest := [.int 0, .ref oo]) ⟨hx, hb, hml, hown, hts⟩ (k_X2_columnOf l D cyI cyZ ad zb zo zt zm zu zr zl zf p1 hx9) (cwV 1 hts gL_columnOf_X2_columnOf rfl rfl rfl (by decide +kernel) ⟨Nat.le_of_ble_eq_true rfl, Nat.le_of_ble_eq_true rfl⟩) (prV hG.1 (hP.sub (ws' := wZ cyI cyZ ad zb zo zt zm zu zr zl zf) [0, 1, 2, 3, 4, 5, 6, 7, 8, 9, 10, 11, 12, 13, 14, 15, 16, 17, 18, 19] rfl) (ci := 2) rfl rfl rfl) rfl rfl hl.1 rfl (lv_room (Nat.le_of_ble_eq_true rfl)) dL_columnOf_4 ⟨Nat.zero_le _, Nat.zero_le _⟩) hS hP (fun H locs hP hS => ?_)
  refine lv_i2l (v := ((f_X2_columnOf zl p1)).toInt64) hx hb dL_columnOf_7 rfl ?_
  refine va_last hx hb hG.2 hP hD hS 20 0 rfl rfl (vp_in_nI (n := 0) (by decide) (by decide)) dL_columnOf_8 (fun H locs hP hD hS => ?_)
  refine lv_goto (tgt := 15) hx hb dL_columnOf_9 (by decide) ?_
  refine lv_iconst (v := 0) hx hb dL_columnOf_15 (by decide) ?_
  have hP : va_P D vwCl (wO cyI cyZ cyJ ad zb zo zt zm zu zr zl zf oo (vp_updL go (0 : Int32).toNatClampNeg ((f_X2_columnOf zl p1)).toInt64)) H := hP
  have hD : va_D A (wO cyI cyZ cyJ ad zb zo zt zm zu zr zl zf oo (vp_updL go (0 : Int32).toNatClampNeg ((f_X2_columnOf zl p1)).toInt64)) := hD
  exact W.iret (v := 0) hx hb hr (fun t ht hW => ⟨⟨0, (), rfl, rfl, by rw [ht]; exact hP, hD⟩, hS.F ht⟩) hS.2.2 dL_columnOf_16
set_option maxHeartbeats 4000000 in
set_option maxRecDepth 100000 in
theorem t_L_columnOf_1 (l : Launch) (hlt : l.stackTraces = false) (D : va_G) (cyI cyZ cyJ : ClassId) (ad : Nat → Nat) (oo : Nat) (zb : Tr) (zo : Tr) (zt : Tr) (zm : Tr) (zu : Nat → Int32) (zr : Nat → Int32) (zl : Lr) (zf : Int32) (go : Nat → Int64) (p1 : Int32) (A : Nat → Prop) (sz : Nat) (hAe : A = va_A (wO cyI cyZ cyJ ad zb zo zt zm zu zr zl zf oo go) sz) (hx9 : f_X2_columnOf_x zl p1 = 1) : Met l yL_columnOf wsL_columnOf ({ frames := 8, cells := 1, slots := 6, locals := 142 } : Room) (pcO D cyI cyZ cyJ sz [.ref (ad 0), .int p1, .ref oo] (wO cyI cyZ cyJ ad zb zo zt zm zu zr zl zf oo go)) (mI D A (wO cyI cyZ cyJ ad zb zo zt zm zu zr zl zf oo go) 1) 1 6 A := by
  refine va_MetW (cc := cL_columnOf) (maxL := 4) (ret := some .int) (hh := [(0, 9, 12, 13)]) (by decide) rfl ?_
  intro p e s m args below meth c s₁ B hml hv
  obtain ⟨rfl, hsz, hP, hG, ⟨hz, hn⟩, hD0⟩ := hv
  have hx := B.exec
  have hb := B.bytes
  have hr := B.returns
  have hts := atoms_spec (ws := wsL_columnOf) B.pre
  have hown : s.vm.findClass RL = some m.cls := findClass_of_methodNamed B.named
  subst hsz
  have hD : va_D A (wO cyI cyZ cyJ ad zb zo zt zm zu zr zl zf oo go) := by rw [hAe]; exact hD0.self
  have hA : ∀ q : Nat, s.heap.size ≤ q → A q := fun q h => by rw [hAe]; exact Or.inr h
  clear hAe hD0
  have hS : va_S A s.heap s.heap [] := va_S.rf
  have hl := lv_entry ([.ref (ad 0), .int p1, .ref oo]) (n := 4) (Nat.le_of_ble_eq_true rfl)
  rw [lg_entry_eq]
  generalize (lg_sl ([.ref (ad 0), .int p1, .ref oo]) ++ List.replicate (4 - (lg_sl ([.ref (ad 0), .int p1, .ref oo])).length) Slot.unset).toArray = ls at hl ⊢
  have hl : lv_has ls 4 [(0, .ref (ad 0)), (1, .int p1), (2, .ref oo)] := hl
  have hP : va_P D vwCl (wO cyI cyZ cyJ ad zb zo zt zm zu zr zl zf oo go) s.heap := hP
  refine lv_aload_n hx hb dL_columnOf_0 rfl (lv_at hl 2 rfl) ?_
  refine lv_iconst (v := 0) hx hb dL_columnOf_1 (by decide) ?_
  refine lv_aload_n hx hb dL_columnOf_2 rfl (lv_at hl 0 rfl) ?_
  refine lv_iload_n hx hb dL_columnOf_3 rfl (lv_at hl 1 rfl) ?_
  refine vx_calli (vx_runV (As := [.int p1]) (rest := [.int 0, .ref oo]) ⟨hx, hb, hml, hown, hts⟩ (t_X2_columnOf l hlt D cyI cyZ ad zb zo zt zm zu zr zl zf p1 (by rw [hx9]; decide)) (cwV 1 hts gL_columnOf_X2_columnOf rfl rfl rfl (by decide +kernel) ⟨Nat.le_of_ble_eq_true rfl, Nat.le_of_ble_eq_true rfl⟩) (ptV hG.1 (hz.kept va_S.rf) (hP.sub (ws' := wZ cyI cyZ ad zb zo zt zm zu zr zl zf) [0, 1, 2, 3, 4, 5, 6, 7, 8, 9, 10, 11, 12, 13, 14, 15, 16, 17, 18, 19] rfl) (ci := 2) rfl rfl rfl) rfl rfl hl.1 rfl (lv_room (Nat.le_of_ble_eq_true rfl)) dL_columnOf_4 ⟨Nat.le_of_ble_eq_true rfl, Nat.le_of_ble_eq_true rfl⟩) hS (fun _ _ h => h.elim) (fun _ h => h.elim) (fun _ _ h => h.elim) (fun E ce q9 u t H1 locs1 ht _ _ hE _ hk1 hS1 hce hcv hcl => ?_) (fun r u t H1 locs1 ht hvm h hb9 hz1 hk1 hS1 => h.elim)
  obtain rfl : E = "java/lang/IndexOutOfBoundsException" := hE.trans (by rw [hx9]; rfl)
  have hP1 : va_P D vwCl (wO cyI cyZ cyJ ad zb zo zt zm zu zr zl zf oo go) H1 := hP.kept (fun k q hq => hk1 q.1 (hP k q hq).lt id)
  refine vx_catch (own := RL) (name := "java/lang/IndexOutOfBoundsException") hown [] (⟨0, 9, 12, 13⟩ : ExceptionTableEntry) [] ((vx_table (x := yL_columnOf) B (hts _ List.mem_cons_self)).trans rfl) ps_nil (by decide) (by decide) (hts (.classLink RL 13 "java/lang/IndexOutOfBoundsException") (List.mem_of_getElem? (i := 1) rfl)) (va_Nw.use rfl (hz.2.2.2.1 "java/lang/IndexOutOfBoundsException" (by decide))) hce hcv hcl ?_
  refine lv_astore_n (lv' := [(3, .ref q9), (0, .ref (ad 0))]) hx hb dL_columnOf_12 rfl (lv_sub hl [0] rfl) (by decide) rfl (fun ls hl => ?_)
  refine lv_iconst (v := 1) hx hb dL_columnOf_13 (by decide) ?_
  exact W.iret (v := 1) hx hb hr (fun t ht hW => ⟨⟨1, (), rfl, rfl, by rw [ht]; exact hP1, hD⟩, hS1.F ht⟩) hS1.2.2 dL_columnOf_14
theorem x_settle {zl : Lr} {zf : Int32} {p1 : Int32} {p2 : Int32} : f_X2_settle_x zl zf p1 p2 = 0 ∨ f_X2_settle_x zl zf p1 p2 = 1 ∨ f_X2_settle_x zl zf p1 p2 = 3 := by
  rw [f_X2_settle_x]
  repeat' split
  all_goals first | exact Or.inl (rfl) | exact Or.inr (Or.inl (rfl)) | exact Or.inr (Or.inr (rfl)) | exact (x_rcn _).elim (fun h => Or.inl (h)) (fun h => Or.inr (Or.inl (h))) | exact (x_rk _).elim (fun h => Or.inl (h)) (fun h => Or.inr (Or.inl (h))) | exact (x_rco _ _).elim (fun h => Or.inl (h)) (fun h => Or.inr (Or.inl (h))) | exact (x_rro _ _).elim (fun h => Or.inl (h)) (fun h => Or.inr (Or.inl (h))) | exact (x_rcf _ _).elim (fun h => Or.inl (h)) (fun h => Or.inr (Or.inl (h)))
set_option maxHeartbeats 4000000 in
set_option maxRecDepth 100000 in
theorem k_L_settle (l : Launch) (D : va_G) (cyI cyZ cyJ : ClassId) (ad : Nat → Nat) (oo : Nat) (zb : Tr) (zo : Tr) (zt : Tr) (zm : Tr) (zu : Nat → Int32) (zr : Nat → Int32) (zl : Lr) (zf : Int32) (go : Nat → Int64) (p1 : Int32) (p2 : Int32) (A : Nat → Prop) (sz : Nat) (hAe : A = va_A (wO cyI cyZ cyJ ad zb zo zt zm zu zr zl zf oo go) sz) (hx9 : f_X2_settle_x zl zf p1 p2 = 0) : Met l yL_settle wsL_settle ({ frames := 6, cells := 0, slots := 0, locals := 135 } : Room) (pcO D cyI cyZ cyJ sz [.ref (ad 0), .int p1, .int p2, .ref oo] (wO cyI cyZ cyJ ad zb zo zt zm zu zr zl zf oo go)) (mI D A (wO cyI cyZ cyJ ad zb zo zt (f_X2_settle zo zt zm zl zf p1 p2).2.1 zu zr (f_X2_settle zo zt zm zl zf p1 p2).2.2 zf oo (vp_updL go (0 : Int32).toNatClampNeg ((f_X2_settle zo zt zm zl zf p1 p2).1).toInt64)) 0) 0 0 A := by
  refine va_MetW (cc := cL_settle) (maxL := 5) (ret := some .int) (hh := [(0, 10, 13, 13), (0, 10, 17, 17)]) (by decide) rfl ?_
  intro p e s m args below meth c s₁ B hml hv
  obtain ⟨rfl, hsz, hP, hG, ⟨hz, hn⟩, hD0⟩ := hv
  have hx := B.exec
  have hb := B.bytes
  have hr := B.returns
  have hts := atoms_spec (ws := wsL_settle) B.pre
  have hown : s.vm.findClass RL = some m.cls := findClass_of_methodNamed B.named
  subst hsz
  have hD : va_D A (wO cyI cyZ cyJ ad zb zo zt zm zu zr zl zf oo go) := by rw [hAe]; exact hD0.self
  have hA : ∀ q : Nat, s.heap.size ≤ q → A q := fun q h => by rw [hAe]; exact Or.inr h
  clear hAe hD0
  have hS : va_S A s.heap s.heap [] := va_S.rf
  have hl := lv_entry ([.ref (ad 0), .int p1, .int p2, .ref oo]) (n := 5) (Nat.le_of_ble_eq_true rfl)
  rw [lg_entry_eq]
  generalize (lg_sl ([.ref (ad 0), .int p1, .int p2, .ref oo]) ++ List.replicate (5 - (lg_sl ([.ref (ad 0), .int p1, .int p2, .ref oo])).length) Slot.unset).toArray = ls at hl ⊢
  have hl : lv_has ls 5 [(0, .ref (ad 0)), (1, .int p1), (2, .int p2), (3, .ref oo)] := hl
  have hP : va_P D vwCl (wO cyI cyZ cyJ ad zb zo zt zm zu zr zl zf oo go) s.heap := hP
  refine lv_aload_n hx hb dL_settle_0 rfl (lv_at hl 3 rfl) ?_
  refine lv_iconst (v := 0) hx hb dL_settle_1 (by decide) ?_
  refine lv_aload_n hx hb dL_settle_2 rfl (lv_at hl 0 rfl) ?_
  refine lv_iload_n hx hb dL_settle_3 rfl (lv_at hl 1 rfl) ?_
  refine lv_iload_n hx hb dL_settle_4 rfl (lv_at hl 2 rfl) ?_
  refine mr_i (va_runV (As := [.int p1, .int p2]) (rest := [.int 0, .ref oo]) ⟨hx, hb, hml, hown, hts⟩ (k_X2_settle l D cyI cyZ ad zb zo zt zm zu zr zl zf p1 p2 _ _ rfl hx9) (cwV 2 hts gL_settle_X2_settle rfl rfl rfl (by decide +kernel) ⟨Nat.le_of_ble_eq_true rfl, Nat.le_of_ble_eq_true rfl⟩) (pmV hG.1 (hP.sub (ws' := wZ cyI cyZ ad zb zo zt zm zu zr zl zf) [0, 1, 2, 3, 4, 5, 6, 7, 8, 9, 10, 11, 12, 13, 14, 15, 16, 17, 18, 19] rfl) (hD.sub (ws' := wZ cyI cyZ ad zb zo zt zm zu zr zl zf) [0, 1, 2, 3, 4, 5, 6, 7, 8, 9, 10, 11, 12, 13, 14, 15, 16, 17, 18, 19] (by decide) rfl) (ci := 2) rfl rfl rfl) rfl rfl hl.1 rfl (lv_room (Nat.le_of_ble_eq_true rfl)) dL_settle_5 ⟨Nat.zero_le _, Nat.zero_le _⟩) hP hD hS hA [0, 1, 2, 3, 4, 5, 6, 7, 8, 9, 10, 11, 12, 13, 14, 15, 16, 17, 18, 19] [20] [1, 2, 3, 4, 5, 6, 7, 8, 9, 10, 11, 12, 13, 14, 15, 16, 17, 18, 19, 20, 0] rfl rfl (by decide) (by decide) (by decide) (w2 := wO cyI cyZ cyJ ad zb zo zt (f_X2_settle zo zt zm zl zf p1 p2).2.1 zu zr (f_X2_settle zo zt zm zl zf p1 p2).2.2 zf oo go) rfl (fun H locs hP hD hS => ?_)
  have hP : va_P D vwCl (wO cyI cyZ cyJ ad zb zo zt (f_X2_settle zo zt zm zl zf p1 p2).2.1 zu zr (f_X2_settle zo zt zm zl zf p1 p2).2.2 zf oo go) H := hP
  have hD : va_D A (wO cyI cyZ cyJ ad zb zo zt (f_X2_settle zo zt zm zl zf p1 p2).2.1 zu zr (f_X2_settle zo zt zm zl zf p1 p2).2.2 zf oo go) := hD
  refine lv_i2l (v := ((f_X2_settle zo zt zm zl zf p1 p2).1).toInt64) hx hb dL_settle_8 rfl ?_
  refine va_last hx hb hG.2 hP hD hS 20 0 rfl rfl (vp_in_nI (n := 0) (by decide) (by decide)) dL_settle_9 (fun H locs hP hD hS => ?_)
  refine lv_goto (tgt := 21) hx hb dL_settle_10 (by decide) ?_
  refine lv_iconst (v := 0) hx hb dL_settle_21 (by decide) ?_
  have hP : va_P D vwCl (wO cyI cyZ cyJ ad zb zo zt (f_X2_settle zo zt zm zl zf p1 p2).2.1 zu zr (f_X2_settle zo zt zm zl zf p1 p2).2.2 zf oo (vp_updL go (0 : Int32).toNatClampNeg ((f_X2_settle zo zt zm zl zf p1 p2).1).toInt64)) H := hP
  have hD : va_D A (wO cyI cyZ cyJ ad zb zo zt (f_X2_settle zo zt zm zl zf p1 p2).2.1 zu zr (f_X2_settle zo zt zm zl zf p1 p2).2.2 zf oo (vp_updL go (0 : Int32).toNatClampNeg ((f_X2_settle zo zt zm zl zf p1 p2).1).toInt64)) := hD
  exact W.iret (v := 0) hx hb hr (fun t ht hW => ⟨⟨0, (), rfl, rfl, by rw [ht]; exact hP, hD⟩, hS.F ht⟩) hS.2.2 dL_settle_22
set_option maxHeartbeats 4000000 in
set_option maxRecDepth 100000 in
theorem t_L_settle_1 (l : Launch) (hlt : l.stackTraces = false) (D : va_G) (cyI cyZ cyJ : ClassId) (ad : Nat → Nat) (oo : Nat) (zb : Tr) (zo : Tr) (zt : Tr) (zm : Tr) (zu : Nat → Int32) (zr : Nat → Int32) (zl : Lr) (zf : Int32) (go : Nat → Int64) (p1 : Int32) (p2 : Int32) (A : Nat → Prop) (sz : Nat) (hAe : A = va_A (wO cyI cyZ cyJ ad zb zo zt zm zu zr zl zf oo go) sz) (hx9 : f_X2_settle_x zl zf p1 p2 = 1) : Met l yL_settle wsL_settle ({ frames := 8, cells := 1, slots := 6, locals := 144 } : Room) (pcO D cyI cyZ cyJ sz [.ref (ad 0), .int p1, .int p2, .ref oo] (wO cyI cyZ cyJ ad zb zo zt zm zu zr zl zf oo go)) (mI D A (wO cyI cyZ cyJ ad zb zo zt zm zu zr zl zf oo go) 1) 1 6 A := by
  refine va_MetW (cc := cL_settle) (maxL := 5) (ret := some .int) (hh := [(0, 10, 13, 13), (0, 10, 17, 17)]) (by decide) rfl ?_
  intro p e s m args below meth c s₁ B hml hv
  obtain ⟨rfl, hsz, hP, hG, ⟨hz, hn⟩, hD0⟩ := hv
  have hx := B.exec
  have hb := B.bytes
  have hr := B.returns
  have hts := atoms_spec (ws := wsL_settle) B.pre
  have hown : s.vm.findClass RL = some m.cls := findClass_of_methodNamed B.named
  subst hsz
  have hD : va_D A (wO cyI cyZ cyJ ad zb zo zt zm zu zr zl zf oo go) := by rw [hAe]; exact hD0.self
  have hA : ∀ q : Nat, s.heap.size ≤ q → A q := fun q h => by rw [hAe]; exact Or.inr h
  clear hAe hD0
  have hS : va_S A s.heap s.heap [] := va_S.rf
  have hl := lv_entry ([.ref (ad 0), .int p1, .int p2, .ref oo]) (n := 5) (Nat.le_of_ble_eq_true rfl)
  rw [lg_entry_eq]
  generalize (lg_sl ([.ref (ad 0), .int p1, .int p2, .ref oo]) ++ List.replicate (5 - (lg_sl ([.ref (ad 0), .int p1, .int p2, .ref oo])).length) Slot.unset).toArray = ls at hl ⊢
  have hl : lv_has ls 5 [(0, .ref (ad 0)), (1, .int p1), (2, .int p2), (3, .ref oo)] := hl
  have hP : va_P D vwCl (wO cyI cyZ cyJ ad zb zo zt zm zu zr zl zf oo go) s.heap := hP
  refine lv_aload_n hx hb dL_settle_0 rfl (lv_at hl 3 rfl) ?_
  refine lv_iconst (v := 0) hx hb dL_settle_1 (by decide) ?_
  refine lv_aload_n hx hb dL_settle_2 rfl (lv_at hl 0 rfl) ?_
  refine lv_iload_n hx hb dL_settle_3 rfl (lv_at hl 1 rfl) ?_
  refine lv_iload_n hx hb dL_settle_4 rfl (lv_at hl 2 rfl) ?_
  refine vx_calli (vx_runV (As := [.int p1, .int p2]) (rest := [.int 0, .ref oo]) ⟨hx, hb, hml, hown, hts⟩ (t_X2_settle l hlt D cyI cyZ ad zb zo zt zm zu zr zl zf p1 p2 (by rw [hx9]; decide)) (cwV 2 hts gL_settle_X2_settle rfl rfl rfl (by decide +kernel) ⟨Nat.le_of_ble_eq_true rfl, Nat.le_of_ble_eq_true rfl⟩) (ptV hG.1 (hz.kept va_S.rf) (hP.sub (ws' := wZ cyI cyZ ad zb zo zt zm zu zr zl zf) [0, 1, 2, 3, 4, 5, 6, 7, 8, 9, 10, 11, 12, 13, 14, 15, 16, 17, 18, 19] rfl) (ci := 2) rfl rfl rfl) rfl rfl hl.1 rfl (lv_room (Nat.le_of_ble_eq_true rfl)) dL_settle_5 ⟨Nat.le_of_ble_eq_true rfl, Nat.le_of_ble_eq_true rfl⟩) hS (fun _ _ h => h.elim) (fun _ h => h.elim) (fun _ _ h => h.elim) (fun E ce q9 u t H1 locs1 ht _ _ hE _ hk1 hS1 hce hcv hcl => ?_) (fun r u t H1 locs1 ht hvm h hb9 hz1 hk1 hS1 => h.elim)
  obtain rfl : E = "java/lang/IndexOutOfBoundsException" := hE.trans (by rw [hx9]; rfl)
  have hP1 : va_P D vwCl (wO cyI cyZ cyJ ad zb zo zt zm zu zr zl zf oo go) H1 := hP.kept (fun k q hq => hk1 q.1 (hP k q hq).lt id)
  refine vx_catch (own := RL) (name := "java/lang/IndexOutOfBoundsException") hown [] (⟨0, 10, 13, 13⟩ : ExceptionTableEntry) [(⟨0, 10, 17, 17⟩ : ExceptionTableEntry)] ((vx_table (x := yL_settle) B (hts _ List.mem_cons_self)).trans rfl) ps_nil (by decide) (by decide) (hts (.classLink RL 13 "java/lang/IndexOutOfBoundsException") (List.mem_of_getElem? (i := 1) rfl)) (va_Nw.use rfl (hz.2.2.2.1 "java/lang/IndexOutOfBoundsException" (by decide))) hce hcv hcl ?_
  refine lv_astore (lv' := [(4, .ref q9), (0, .ref (ad 0))]) hx hb dL_settle_13 (lv_sub hl [0] rfl) (by decide) rfl (fun ls hl => ?_)
  refine lv_iconst (v := 1) hx hb dL_settle_15 (by decide) ?_
  exact W.iret (v := 1) hx hb hr (fun t ht hW => ⟨⟨1, (), rfl, rfl, by rw [ht]; exact hP1, hD⟩, hS1.F ht⟩) hS1.2.2 dL_settle_16
set_option maxHeartbeats 4000000 in
set_option maxRecDepth 100000 in
theorem t_L_settle_3 (l : Launch) (hlt : l.stackTraces = false) (D : va_G) (cyI cyZ cyJ : ClassId) (ad : Nat → Nat) (oo : Nat) (zb : Tr) (zo : Tr) (zt : Tr) (zm : Tr) (zu : Nat → Int32) (zr : Nat → Int32) (zl : Lr) (zf : Int32) (go : Nat → Int64) (p1 : Int32) (p2 : Int32) (A : Nat → Prop) (sz : Nat) (hAe : A = va_A (wO cyI cyZ cyJ ad zb zo zt zm zu zr zl zf oo go) sz) (hx9 : f_X2_settle_x zl zf p1 p2 = 3) : Met l yL_settle wsL_settle ({ frames := 8, cells := 1, slots := 6, locals := 144 } : Room) (pcO D cyI cyZ cyJ sz [.ref (ad 0), .int p1, .int p2, .ref oo] (wO cyI cyZ cyJ ad zb zo zt zm zu zr zl zf oo go)) (mI D A (wO cyI cyZ cyJ ad zb zo zt zm zu zr zl zf oo go) 2) 1 6 A := by
  refine va_MetW (cc := cL_settle) (maxL := 5) (ret := some .int) (hh := [(0, 10, 13, 13), (0, 10, 17, 17)]) (by decide) rfl ?_
  intro p e s m args below meth c s₁ B hml hv
  obtain ⟨rfl, hsz, hP, hG, ⟨hz, hn⟩, hD0⟩ := hv
  have hx := B.exec
  have hb := B.bytes
  have hr := B.returns
  have hts := atoms_spec (ws := wsL_settle) B.pre
  have hown : s.vm.findClass RL = some m.cls := findClass_of_methodNamed B.named
  subst hsz
  have hD : va_D A (wO cyI cyZ cyJ ad zb zo zt zm zu zr zl zf oo go) := by rw [hAe]; exact hD0.self
  have hA : ∀ q : Nat, s.heap.size ≤ q → A q := fun q h => by rw [hAe]; exact Or.inr h
  clear hAe hD0
  have hS : va_S A s.heap s.heap [] := va_S.rf
  have hl := lv_entry ([.ref (ad 0), .int p1, .int p2, .ref oo]) (n := 5) (Nat.le_of_ble_eq_true rfl)
  rw [lg_entry_eq]
  generalize (lg_sl ([.ref (ad 0), .int p1, .int p2, .ref oo]) ++ List.replicate (5 - (lg_sl ([.ref (ad 0), .int p1, .int p2, .ref oo])).length) Slot.unset).toArray = ls at hl ⊢
  have hl : lv_has ls 5 [(0, .ref (ad 0)), (1, .int p1), (2, .int p2), (3, .ref oo)] := hl
  have hP : va_P D vwCl (wO cyI cyZ cyJ ad zb zo zt zm zu zr zl zf oo go) s.heap := hP
  refine lv_aload_n hx hb dL_settle_0 rfl (lv_at hl 3 rfl) ?_
  refine lv_iconst (v := 0) hx hb dL_settle_1 (by decide) ?_
  refine lv_aload_n hx hb dL_settle_2 rfl (lv_at hl 0 rfl) ?_
  refine lv_iload_n hx hb dL_settle_3 rfl (lv_at hl 1 rfl) ?_
  refine lv_iload_n hx hb dL_settle_4 rfl (lv_at hl 2 rfl) ?_
  refine vx_calli (vx_runV (As := [.int p1, .int p2]) (rest := [.int 0, .ref oo]) ⟨hx, hb, hml, hown, hts⟩ (t_X2_settle l hlt D cyI cyZ ad zb zo zt zm zu zr zl zf p1 p2 (by rw [hx9]; decide)) (cwV 2 hts gL_settle_X2_settle rfl rfl rfl (by decide +kernel) ⟨Nat.le_of_ble_eq_true rfl, Nat.le_of_ble_eq_true rfl⟩) (ptV hG.1 (hz.kept va_S.rf) (hP.sub (ws' := wZ cyI cyZ ad zb zo zt zm zu zr zl zf) [0, 1, 2, 3, 4, 5, 6, 7, 8, 9, 10, 11, 12, 13, 14, 15, 16, 17, 18, 19] rfl) (ci := 2) rfl rfl rfl) rfl rfl hl.1 rfl (lv_room (Nat.le_of_ble_eq_true rfl)) dL_settle_5 ⟨Nat.le_of_ble_eq_true rfl, Nat.le_of_ble_eq_true rfl⟩) hS (fun _ _ h => h.elim) (fun _ h => h.elim) (fun _ _ h => h.elim) (fun E ce q9 u t H1 locs1 ht _ _ hE _ hk1 hS1 hce hcv hcl => ?_) (fun r u t H1 locs1 ht hvm h hb9 hz1 hk1 hS1 => h.elim)
  obtain rfl : E = "java/lang/IllegalStateException" := hE.trans (by rw [hx9]; rfl)
  have hP1 : va_P D vwCl (wO cyI cyZ cyJ ad zb zo zt zm zu zr zl zf oo go) H1 := hP.kept (fun k q hq => hk1 q.1 (hP k q hq).lt id)
  refine vx_catch (own := RL) (name := "java/lang/IllegalStateException") hown [(⟨0, 10, 13, 13⟩ : ExceptionTableEntry)] (⟨0, 10, 17, 17⟩ : ExceptionTableEntry) [] ((vx_table (x := yL_settle) B (hts _ List.mem_cons_self)).trans rfl) (ps_cons (Or.inr ⟨by decide, "java/lang/IndexOutOfBoundsException", (hts (.classLink RL 13 "java/lang/IndexOutOfBoundsException") (List.mem_of_getElem? (i := 1) rfl)), hn.2.1⟩) ps_nil) (by decide) (by decide) (hts (.classLink RL 17 "java/lang/IllegalStateException") (List.mem_of_getElem? (i := 2) rfl)) (va_Nw.use rfl (hz.2.2.2.1 "java/lang/IllegalStateException" (by decide))) hce hcv hcl ?_
  refine lv_astore (lv' := [(4, .ref q9), (0, .ref (ad 0))]) hx hb dL_settle_17 (lv_sub hl [0] rfl) (by decide) rfl (fun ls hl => ?_)
  refine lv_iconst (v := 2) hx hb dL_settle_19 (by decide) ?_
  exact W.iret (v := 2) hx hb hr (fun t ht hW => ⟨⟨2, (), rfl, rfl, by rw [ht]; exact hP1, hD⟩, hS1.F ht⟩) hS1.2.2 dL_settle_20
