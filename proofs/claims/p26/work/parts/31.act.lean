set_option maxHeartbeats 4000000 in
set_option maxRecDepth 100000 in
theorem k_A0 (l : Launch) (D : va_G) (cyI cyZ : ClassId) (ad : Nat → Nat) (zb : Tr) (zo : Tr) (zt : Tr) (zm : Tr) (zu : Nat → Int32) (zr : Nat → Int32) (zl : Lr) (zf : Int32) (p1 : Int32) (p2 : Int32) (p3 : Int32) (p4 : Int32) (A : Nat → Prop) (sz : Nat) (hAe : A = va_A (wZ cyI cyZ ad zb zo zt zm zu zr zl zf) sz) (hx9 : f_X2_addColumn_x zb zo zt p1 p2 p3 = 0) : Met l yL_act wsL_act ({ frames := 3, cells := 0, slots := 0, locals := 66 } : Room) (pcO D cyI cyZ sz [.ref (ad 0), .int 0, .int p1, .int p2, .int p3, .int p4] (wZ cyI cyZ ad zb zo zt zm zu zr zl zf)) (mI D A (wZ cyI cyZ ad (f_X2_addColumn zb zo zt zf p1 p2 p3).2.1 (f_X2_addColumn zb zo zt zf p1 p2 p3).2.2.1 (f_X2_addColumn zb zo zt zf p1 p2 p3).2.2.2.1 zm zu zr zl (f_X2_addColumn zb zo zt zf p1 p2 p3).2.2.2.2) (f_X2_addColumn zb zo zt zf p1 p2 p3).1) 0 0 A := by
  refine va_MetW (cc := cL_act) (maxL := 7) (ret := some .int) (hh := [(0, 288, 289, 72), (0, 288, 295, 74), (0, 288, 301, 76)]) (by decide) rfl ?_
  intro p e s m args below meth c s₁ B hml hv
  obtain ⟨rfl, hsz, hP, hG, ⟨hz, hn⟩, hD0⟩ := hv
  have hx := B.exec
  have hb := B.bytes
  have hr := B.returns
  have hts := atoms_spec (ws := wsL_act) B.pre
  have hown : s.vm.findClass RL = some m.cls := findClass_of_methodNamed B.named
  subst hsz
  have hD : va_D A (wZ cyI cyZ ad zb zo zt zm zu zr zl zf) := by rw [hAe]; exact hD0.self
  have hA : ∀ q : Nat, s.heap.size ≤ q → A q := fun q h => by rw [hAe]; exact Or.inr h
  clear hAe hD0
  have hz := hz.zq
  have hS : va_S A s.heap s.heap [] := va_S.rf
  have hl := lv_entry ([.ref (ad 0), .int 0, .int p1, .int p2, .int p3, .int p4]) (n := 7) (Nat.le_of_ble_eq_true rfl)
  rw [lg_entry_eq]
  generalize (lg_sl ([.ref (ad 0), .int 0, .int p1, .int p2, .int p3, .int p4]) ++ List.replicate (7 - (lg_sl ([.ref (ad 0), .int 0, .int p1, .int p2, .int p3, .int p4])).length) Slot.unset).toArray = ls at hl ⊢
  have hl : lv_has ls 7 [(0, .ref (ad 0)), (1, .int 0), (2, .int p1), (3, .int p2), (4, .int p3), (5, .int p4)] := hl
  have hP : va_P D vwCl (wZ cyI cyZ ad zb zo zt zm zu zr zl zf) s.heap := hP
  refine lv_iload_n hx hb dL_act_0 rfl (lv_at hl 1 rfl) ?_
  refine lv_if_ne (tgt := 15) hx hb dL_act_1 (by decide) (fun c9 => absurd (by decide) c9) (fun _ => ?_)
  refine lv_aload_n hx hb dL_act_4 rfl (lv_at hl 0 rfl) ?_
  refine lv_iload_n hx hb dL_act_5 rfl (lv_at hl 2 rfl) ?_
  refine lv_iload_n hx hb dL_act_6 rfl (lv_at hl 3 rfl) ?_
  refine lv_iload hx hb dL_act_7 (lv_at hl 4 rfl) ?_
  refine mr_i0 (va_runV (As := [.int p1, .int p2, .int p3]) (rest := []) ⟨hx, hb, hml, hown, hts⟩ (k_X2_addColumn l D cyI cyZ ad zb zo zt zm zu zr zl zf p1 p2 p3 _ _ rfl hx9) (cwV 3 hts gL_act_X2_addColumn rfl rfl rfl (by decide +kernel) ⟨Nat.le_of_ble_eq_true rfl, Nat.le_of_ble_eq_true rfl⟩) (pmV hG hP hD (ci := 2) rfl rfl rfl) rfl rfl hl.1 rfl (lv_room (Nat.le_of_ble_eq_true rfl)) dL_act_9 ⟨Nat.zero_le _, Nat.zero_le _⟩) hD hS hA (fun H locs hP hD hS => ?_)
  have hP : va_P D vwCl (wZ cyI cyZ ad (f_X2_addColumn zb zo zt zf p1 p2 p3).2.1 (f_X2_addColumn zb zo zt zf p1 p2 p3).2.2.1 (f_X2_addColumn zb zo zt zf p1 p2 p3).2.2.2.1 zm zu zr zl (f_X2_addColumn zb zo zt zf p1 p2 p3).2.2.2.2) H := hP
  have hD : va_D A (wZ cyI cyZ ad (f_X2_addColumn zb zo zt zf p1 p2 p3).2.1 (f_X2_addColumn zb zo zt zf p1 p2 p3).2.2.1 (f_X2_addColumn zb zo zt zf p1 p2 p3).2.2.2.1 zm zu zr zl (f_X2_addColumn zb zo zt zf p1 p2 p3).2.2.2.2) := hD
  refine lv_goto (tgt := 288) hx hb dL_act_12 (by decide) ?_
  exact W.iret (v := (f_X2_addColumn zb zo zt zf p1 p2 p3).1) hx hb hr (fun t ht hW => ⟨⟨(f_X2_addColumn zb zo zt zf p1 p2 p3).1, (), rfl, rfl, by rw [ht]; exact hP, hD⟩, hS.F ht⟩) hS.2.2 dL_act_288
set_option maxHeartbeats 4000000 in
set_option maxRecDepth 100000 in
theorem t_A0_1 (l : Launch) (hlt : l.stackTraces = false) (D : va_G) (cyI cyZ : ClassId) (ad : Nat → Nat) (zb : Tr) (zo : Tr) (zt : Tr) (zm : Tr) (zu : Nat → Int32) (zr : Nat → Int32) (zl : Lr) (zf : Int32) (p1 : Int32) (p2 : Int32) (p3 : Int32) (p4 : Int32) (A : Nat → Prop) (sz : Nat) (hAe : A = va_A (wZ cyI cyZ ad zb zo zt zm zu zr zl zf) sz) (hx9 : f_X2_addColumn_x zb zo zt p1 p2 p3 = 1) : Met l yL_act wsL_act ({ frames := 9, cells := 1, slots := 6, locals := 166 } : Room) (pcO D cyI cyZ sz [.ref (ad 0), .int 0, .int p1, .int p2, .int p3, .int p4] (wZ cyI cyZ ad zb zo zt zm zu zr zl zf)) (mI D A (wZ cyI cyZ ad zb zo zt zm zu zr zl zf) (-20001)) 1 6 A := by
  refine va_MetW (cc := cL_act) (maxL := 7) (ret := some .int) (hh := [(0, 288, 289, 72), (0, 288, 295, 74), (0, 288, 301, 76)]) (by decide) rfl ?_
  intro p e s m args below meth c s₁ B hml hv
  obtain ⟨rfl, hsz, hP, hG, ⟨hz, hn⟩, hD0⟩ := hv
  have hx := B.exec
  have hb := B.bytes
  have hr := B.returns
  have hts := atoms_spec (ws := wsL_act) B.pre
  have hown : s.vm.findClass RL = some m.cls := findClass_of_methodNamed B.named
  subst hsz
  have hD : va_D A (wZ cyI cyZ ad zb zo zt zm zu zr zl zf) := by rw [hAe]; exact hD0.self
  have hA : ∀ q : Nat, s.heap.size ≤ q → A q := fun q h => by rw [hAe]; exact Or.inr h
  clear hAe hD0
  have hz := hz.zq
  have hS : va_S A s.heap s.heap [] := va_S.rf
  have hl := lv_entry ([.ref (ad 0), .int 0, .int p1, .int p2, .int p3, .int p4]) (n := 7) (Nat.le_of_ble_eq_true rfl)
  rw [lg_entry_eq]
  generalize (lg_sl ([.ref (ad 0), .int 0, .int p1, .int p2, .int p3, .int p4]) ++ List.replicate (7 - (lg_sl ([.ref (ad 0), .int 0, .int p1, .int p2, .int p3, .int p4])).length) Slot.unset).toArray = ls at hl ⊢
  have hl : lv_has ls 7 [(0, .ref (ad 0)), (1, .int 0), (2, .int p1), (3, .int p2), (4, .int p3), (5, .int p4)] := hl
  have hP : va_P D vwCl (wZ cyI cyZ ad zb zo zt zm zu zr zl zf) s.heap := hP
  refine lv_iload_n hx hb dL_act_0 rfl (lv_at hl 1 rfl) ?_
  refine lv_if_ne (tgt := 15) hx hb dL_act_1 (by decide) (fun c9 => absurd (by decide) c9) (fun _ => ?_)
  refine lv_aload_n hx hb dL_act_4 rfl (lv_at hl 0 rfl) ?_
  refine lv_iload_n hx hb dL_act_5 rfl (lv_at hl 2 rfl) ?_
  refine lv_iload_n hx hb dL_act_6 rfl (lv_at hl 3 rfl) ?_
  refine lv_iload hx hb dL_act_7 (lv_at hl 4 rfl) ?_
  refine vx_calli (vx_runV (As := [.int p1, .int p2, .int p3]) (rest := []) ⟨hx, hb, hml, hown, hts⟩ (t_X2_addColumn l hlt D cyI cyZ ad zb zo zt zm zu zr zl zf p1 p2 p3 (by rw [hx9]; decide)) (cwV 3 hts gL_act_X2_addColumn rfl rfl rfl (by decide +kernel) ⟨Nat.le_of_ble_eq_true rfl, Nat.le_of_ble_eq_true rfl⟩) (ptV hG (hz.kept va_S.rf) hP (ci := 2) rfl rfl rfl) rfl rfl hl.1 rfl (lv_room (Nat.le_of_ble_eq_true rfl)) dL_act_9 ⟨Nat.le_of_ble_eq_true rfl, Nat.le_of_ble_eq_true rfl⟩) hS (fun _ _ h => h.elim) (fun _ h => h.elim) (fun _ _ h => h.elim) (fun E ce q9 u t H1 locs1 ht _ _ hE _ hk1 hS1 hce hcv hcl => ?_) (fun r u t H1 locs1 ht hvm h hb9 hz1 hk1 hS1 => h.elim)
  obtain rfl : E = "java/lang/IndexOutOfBoundsException" := hE.trans (by rw [hx9]; rfl)
  have hP1 : va_P D vwCl (wZ cyI cyZ ad zb zo zt zm zu zr zl zf) H1 := hP.kept (fun k q hq => hk1 q.1 (hP k q hq).lt id)
  refine vx_catch (own := RL) (name := "java/lang/IndexOutOfBoundsException") hown [] (⟨0, 288, 289, 72⟩ : ExceptionTableEntry) [(⟨0, 288, 295, 74⟩ : ExceptionTableEntry), (⟨0, 288, 301, 76⟩ : ExceptionTableEntry)] ((vx_table (x := yL_act) B (hts _ List.mem_cons_self)).trans rfl) ps_nil (by decide) (by decide) (hts (.classLink RL 72 "java/lang/IndexOutOfBoundsException") (List.mem_of_getElem? (i := 1) rfl)) (va_Nw.use rfl (hz.2.2.2.1 "java/lang/IndexOutOfBoundsException" (by decide))) hce hcv hcl ?_
  refine lv_astore (lv' := [(6, .ref q9)]) hx hb dL_act_289 (lv_sub hl [] rfl) (by decide) rfl (fun ls hl => ?_)
  refine lv_sipush (v := (-20001)) hx hb dL_act_291 (by decide) ?_
  exact W.iret (v := (-20001)) hx hb hr (fun t ht hW => ⟨⟨(-20001), (), rfl, rfl, by rw [ht]; exact hP1, hD⟩, hS1.F ht⟩) hS1.2.2 dL_act_294
set_option maxHeartbeats 4000000 in
set_option maxRecDepth 100000 in
theorem t_A0_2 (l : Launch) (hlt : l.stackTraces = false) (D : va_G) (cyI cyZ : ClassId) (ad : Nat → Nat) (zb : Tr) (zo : Tr) (zt : Tr) (zm : Tr) (zu : Nat → Int32) (zr : Nat → Int32) (zl : Lr) (zf : Int32) (p1 : Int32) (p2 : Int32) (p3 : Int32) (p4 : Int32) (A : Nat → Prop) (sz : Nat) (hAe : A = va_A (wZ cyI cyZ ad zb zo zt zm zu zr zl zf) sz) (hx9 : f_X2_addColumn_x zb zo zt p1 p2 p3 = 2) : Met l yL_act wsL_act ({ frames := 9, cells := 1, slots := 6, locals := 166 } : Room) (pcO D cyI cyZ sz [.ref (ad 0), .int 0, .int p1, .int p2, .int p3, .int p4] (wZ cyI cyZ ad zb zo zt zm zu zr zl zf)) (mI D A (wZ cyI cyZ ad zb zo zt zm zu zr zl zf) (-20002)) 1 6 A := by
  refine va_MetW (cc := cL_act) (maxL := 7) (ret := some .int) (hh := [(0, 288, 289, 72), (0, 288, 295, 74), (0, 288, 301, 76)]) (by decide) rfl ?_
  intro p e s m args below meth c s₁ B hml hv
  obtain ⟨rfl, hsz, hP, hG, ⟨hz, hn⟩, hD0⟩ := hv
  have hx := B.exec
  have hb := B.bytes
  have hr := B.returns
  have hts := atoms_spec (ws := wsL_act) B.pre
  have hown : s.vm.findClass RL = some m.cls := findClass_of_methodNamed B.named
  subst hsz
  have hD : va_D A (wZ cyI cyZ ad zb zo zt zm zu zr zl zf) := by rw [hAe]; exact hD0.self
  have hA : ∀ q : Nat, s.heap.size ≤ q → A q := fun q h => by rw [hAe]; exact Or.inr h
  clear hAe hD0
  have hz := hz.zq
  have hS : va_S A s.heap s.heap [] := va_S.rf
  have hl := lv_entry ([.ref (ad 0), .int 0, .int p1, .int p2, .int p3, .int p4]) (n := 7) (Nat.le_of_ble_eq_true rfl)
  rw [lg_entry_eq]
  generalize (lg_sl ([.ref (ad 0), .int 0, .int p1, .int p2, .int p3, .int p4]) ++ List.replicate (7 - (lg_sl ([.ref (ad 0), .int 0, .int p1, .int p2, .int p3, .int p4])).length) Slot.unset).toArray = ls at hl ⊢
  have hl : lv_has ls 7 [(0, .ref (ad 0)), (1, .int 0), (2, .int p1), (3, .int p2), (4, .int p3), (5, .int p4)] := hl
  have hP : va_P D vwCl (wZ cyI cyZ ad zb zo zt zm zu zr zl zf) s.heap := hP
  refine lv_iload_n hx hb dL_act_0 rfl (lv_at hl 1 rfl) ?_
  refine lv_if_ne (tgt := 15) hx hb dL_act_1 (by decide) (fun c9 => absurd (by decide) c9) (fun _ => ?_)
  refine lv_aload_n hx hb dL_act_4 rfl (lv_at hl 0 rfl) ?_
  refine lv_iload_n hx hb dL_act_5 rfl (lv_at hl 2 rfl) ?_
  refine lv_iload_n hx hb dL_act_6 rfl (lv_at hl 3 rfl) ?_
  refine lv_iload hx hb dL_act_7 (lv_at hl 4 rfl) ?_
  refine vx_calli (vx_runV (As := [.int p1, .int p2, .int p3]) (rest := []) ⟨hx, hb, hml, hown, hts⟩ (t_X2_addColumn l hlt D cyI cyZ ad zb zo zt zm zu zr zl zf p1 p2 p3 (by rw [hx9]; decide)) (cwV 3 hts gL_act_X2_addColumn rfl rfl rfl (by decide +kernel) ⟨Nat.le_of_ble_eq_true rfl, Nat.le_of_ble_eq_true rfl⟩) (ptV hG (hz.kept va_S.rf) hP (ci := 2) rfl rfl rfl) rfl rfl hl.1 rfl (lv_room (Nat.le_of_ble_eq_true rfl)) dL_act_9 ⟨Nat.le_of_ble_eq_true rfl, Nat.le_of_ble_eq_true rfl⟩) hS (fun _ _ h => h.elim) (fun _ h => h.elim) (fun _ _ h => h.elim) (fun E ce q9 u t H1 locs1 ht _ _ hE _ hk1 hS1 hce hcv hcl => ?_) (fun r u t H1 locs1 ht hvm h hb9 hz1 hk1 hS1 => h.elim)
  obtain rfl : E = "java/lang/IllegalArgumentException" := hE.trans (by rw [hx9]; rfl)
  have hP1 : va_P D vwCl (wZ cyI cyZ ad zb zo zt zm zu zr zl zf) H1 := hP.kept (fun k q hq => hk1 q.1 (hP k q hq).lt id)
  refine vx_catch (own := RL) (name := "java/lang/IllegalArgumentException") hown [(⟨0, 288, 289, 72⟩ : ExceptionTableEntry)] (⟨0, 288, 295, 74⟩ : ExceptionTableEntry) [(⟨0, 288, 301, 76⟩ : ExceptionTableEntry)] ((vx_table (x := yL_act) B (hts _ List.mem_cons_self)).trans rfl) (ps_cons (Or.inr ⟨by decide, "java/lang/IndexOutOfBoundsException", (hts (.classLink RL 72 "java/lang/IndexOutOfBoundsException") (List.mem_of_getElem? (i := 1) rfl)), hn.1⟩) ps_nil) (by decide) (by decide) (hts (.classLink RL 74 "java/lang/IllegalArgumentException") (List.mem_of_getElem? (i := 2) rfl)) (va_Nw.use rfl (hz.2.2.2.1 "java/lang/IllegalArgumentException" (by decide))) hce hcv hcl ?_
  refine lv_astore (lv' := [(6, .ref q9)]) hx hb dL_act_295 (lv_sub hl [] rfl) (by decide) rfl (fun ls hl => ?_)
  refine lv_sipush (v := (-20002)) hx hb dL_act_297 (by decide) ?_
  exact W.iret (v := (-20002)) hx hb hr (fun t ht hW => ⟨⟨(-20002), (), rfl, rfl, by rw [ht]; exact hP1, hD⟩, hS1.F ht⟩) hS1.2.2 dL_act_300
set_option maxHeartbeats 4000000 in
set_option maxRecDepth 100000 in
theorem t_A0_3 (l : Launch) (hlt : l.stackTraces = false) (D : va_G) (cyI cyZ : ClassId) (ad : Nat → Nat) (zb : Tr) (zo : Tr) (zt : Tr) (zm : Tr) (zu : Nat → Int32) (zr : Nat → Int32) (zl : Lr) (zf : Int32) (p1 : Int32) (p2 : Int32) (p3 : Int32) (p4 : Int32) (A : Nat → Prop) (sz : Nat) (hAe : A = va_A (wZ cyI cyZ ad zb zo zt zm zu zr zl zf) sz) (hx9 : f_X2_addColumn_x zb zo zt p1 p2 p3 = 3) : Met l yL_act wsL_act ({ frames := 9, cells := 1, slots := 6, locals := 166 } : Room) (pcO D cyI cyZ sz [.ref (ad 0), .int 0, .int p1, .int p2, .int p3, .int p4] (wZ cyI cyZ ad zb zo zt zm zu zr zl zf)) (mI D A (wZ cyI cyZ ad zb zo zt zm zu zr zl zf) (-20003)) 1 6 A := by
  refine va_MetW (cc := cL_act) (maxL := 7) (ret := some .int) (hh := [(0, 288, 289, 72), (0, 288, 295, 74), (0, 288, 301, 76)]) (by decide) rfl ?_
  intro p e s m args below meth c s₁ B hml hv
  obtain ⟨rfl, hsz, hP, hG, ⟨hz, hn⟩, hD0⟩ := hv
  have hx := B.exec
  have hb := B.bytes
  have hr := B.returns
  have hts := atoms_spec (ws := wsL_act) B.pre
  have hown : s.vm.findClass RL = some m.cls := findClass_of_methodNamed B.named
  subst hsz
  have hD : va_D A (wZ cyI cyZ ad zb zo zt zm zu zr zl zf) := by rw [hAe]; exact hD0.self
  have hA : ∀ q : Nat, s.heap.size ≤ q → A q := fun q h => by rw [hAe]; exact Or.inr h
  clear hAe hD0
  have hz := hz.zq
  have hS : va_S A s.heap s.heap [] := va_S.rf
  have hl := lv_entry ([.ref (ad 0), .int 0, .int p1, .int p2, .int p3, .int p4]) (n := 7) (Nat.le_of_ble_eq_true rfl)
  rw [lg_entry_eq]
  generalize (lg_sl ([.ref (ad 0), .int 0, .int p1, .int p2, .int p3, .int p4]) ++ List.replicate (7 - (lg_sl ([.ref (ad 0), .int 0, .int p1, .int p2, .int p3, .int p4])).length) Slot.unset).toArray = ls at hl ⊢
  have hl : lv_has ls 7 [(0, .ref (ad 0)), (1, .int 0), (2, .int p1), (3, .int p2), (4, .int p3), (5, .int p4)] := hl
  have hP : va_P D vwCl (wZ cyI cyZ ad zb zo zt zm zu zr zl zf) s.heap := hP
  refine lv_iload_n hx hb dL_act_0 rfl (lv_at hl 1 rfl) ?_
  refine lv_if_ne (tgt := 15) hx hb dL_act_1 (by decide) (fun c9 => absurd (by decide) c9) (fun _ => ?_)
  refine lv_aload_n hx hb dL_act_4 rfl (lv_at hl 0 rfl) ?_
  refine lv_iload_n hx hb dL_act_5 rfl (lv_at hl 2 rfl) ?_
  refine lv_iload_n hx hb dL_act_6 rfl (lv_at hl 3 rfl) ?_
  refine lv_iload hx hb dL_act_7 (lv_at hl 4 rfl) ?_
  refine vx_calli (vx_runV (As := [.int p1, .int p2, .int p3]) (rest := []) ⟨hx, hb, hml, hown, hts⟩ (t_X2_addColumn l hlt D cyI cyZ ad zb zo zt zm zu zr zl zf p1 p2 p3 (by rw [hx9]; decide)) (cwV 3 hts gL_act_X2_addColumn rfl rfl rfl (by decide +kernel) ⟨Nat.le_of_ble_eq_true rfl, Nat.le_of_ble_eq_true rfl⟩) (ptV hG (hz.kept va_S.rf) hP (ci := 2) rfl rfl rfl) rfl rfl hl.1 rfl (lv_room (Nat.le_of_ble_eq_true rfl)) dL_act_9 ⟨Nat.le_of_ble_eq_true rfl, Nat.le_of_ble_eq_true rfl⟩) hS (fun _ _ h => h.elim) (fun _ h => h.elim) (fun _ _ h => h.elim) (fun E ce q9 u t H1 locs1 ht _ _ hE _ hk1 hS1 hce hcv hcl => ?_) (fun r u t H1 locs1 ht hvm h hb9 hz1 hk1 hS1 => h.elim)
  obtain rfl : E = "java/lang/IllegalStateException" := hE.trans (by rw [hx9]; rfl)
  have hP1 : va_P D vwCl (wZ cyI cyZ ad zb zo zt zm zu zr zl zf) H1 := hP.kept (fun k q hq => hk1 q.1 (hP k q hq).lt id)
  refine vx_catch (own := RL) (name := "java/lang/IllegalStateException") hown [(⟨0, 288, 289, 72⟩ : ExceptionTableEntry), (⟨0, 288, 295, 74⟩ : ExceptionTableEntry)] (⟨0, 288, 301, 76⟩ : ExceptionTableEntry) [] ((vx_table (x := yL_act) B (hts _ List.mem_cons_self)).trans rfl) (ps_cons (Or.inr ⟨by decide, "java/lang/IndexOutOfBoundsException", (hts (.classLink RL 72 "java/lang/IndexOutOfBoundsException") (List.mem_of_getElem? (i := 1) rfl)), hn.2.1⟩) (ps_cons (Or.inr ⟨by decide, "java/lang/IllegalArgumentException", (hts (.classLink RL 74 "java/lang/IllegalArgumentException") (List.mem_of_getElem? (i := 2) rfl)), hn.2.2⟩) ps_nil)) (by decide) (by decide) (hts (.classLink RL 76 "java/lang/IllegalStateException") (List.mem_of_getElem? (i := 3) rfl)) (va_Nw.use rfl (hz.2.2.2.1 "java/lang/IllegalStateException" (by decide))) hce hcv hcl ?_
  refine lv_astore (lv' := [(6, .ref q9)]) hx hb dL_act_301 (lv_sub hl [] rfl) (by decide) rfl (fun ls hl => ?_)
  refine lv_sipush (v := (-20003)) hx hb dL_act_303 (by decide) ?_
  exact W.iret (v := (-20003)) hx hb hr (fun t ht hW => ⟨⟨(-20003), (), rfl, rfl, by rw [ht]; exact hP1, hD⟩, hS1.F ht⟩) hS1.2.2 dL_act_306
set_option maxHeartbeats 4000000 in
set_option maxRecDepth 100000 in
theorem t_A1_1 (l : Launch) (hlt : l.stackTraces = false) (D : va_G) (cyI cyZ : ClassId) (ad : Nat → Nat) (zb : Tr) (zo : Tr) (zt : Tr) (zm : Tr) (zu : Nat → Int32) (zr : Nat → Int32) (zl : Lr) (zf : Int32) (p1 : Int32) (p2 : Int32) (p3 : Int32) (p4 : Int32) (A : Nat → Prop) (sz : Nat) (hAe : A = va_A (wZ cyI cyZ ad zb zo zt zm zu zr zl zf) sz) (hx9 : f_X2_dropColumn_x zb zo zt p1 p2 = 1) : Met l yL_act wsL_act ({ frames := 9, cells := 1, slots := 6, locals := 166 } : Room) (pcO D cyI cyZ sz [.ref (ad 0), .int 1, .int p1, .int p2, .int p3, .int p4] (wZ cyI cyZ ad zb zo zt zm zu zr zl zf)) (mI D A (wZ cyI cyZ ad zb zo zt zm zu zr zl zf) (-20001)) 1 6 A := by
  refine va_MetW (cc := cL_act) (maxL := 7) (ret := some .int) (hh := [(0, 288, 289, 72), (0, 288, 295, 74), (0, 288, 301, 76)]) (by decide) rfl ?_
  intro p e s m args below meth c s₁ B hml hv
  obtain ⟨rfl, hsz, hP, hG, ⟨hz, hn⟩, hD0⟩ := hv
  have hx := B.exec
  have hb := B.bytes
  have hr := B.returns
  have hts := atoms_spec (ws := wsL_act) B.pre
  have hown : s.vm.findClass RL = some m.cls := findClass_of_methodNamed B.named
  subst hsz
  have hD : va_D A (wZ cyI cyZ ad zb zo zt zm zu zr zl zf) := by rw [hAe]; exact hD0.self
  have hA : ∀ q : Nat, s.heap.size ≤ q → A q := fun q h => by rw [hAe]; exact Or.inr h
  clear hAe hD0
  have hz := hz.zq
  have hS : va_S A s.heap s.heap [] := va_S.rf
  have hl := lv_entry ([.ref (ad 0), .int 1, .int p1, .int p2, .int p3, .int p4]) (n := 7) (Nat.le_of_ble_eq_true rfl)
  rw [lg_entry_eq]
  generalize (lg_sl ([.ref (ad 0), .int 1, .int p1, .int p2, .int p3, .int p4]) ++ List.replicate (7 - (lg_sl ([.ref (ad 0), .int 1, .int p1, .int p2, .int p3, .int p4])).length) Slot.unset).toArray = ls at hl ⊢
  have hl : lv_has ls 7 [(0, .ref (ad 0)), (1, .int 1), (2, .int p1), (3, .int p2), (4, .int p3), (5, .int p4)] := hl
  have hP : va_P D vwCl (wZ cyI cyZ ad zb zo zt zm zu zr zl zf) s.heap := hP
  refine lv_iload_n hx hb dL_act_0 rfl (lv_at hl 1 rfl) ?_
  refine lv_if_ne (tgt := 15) hx hb dL_act_1 (by decide) (fun _ => ?_) (fun c9 => absurd c9 (by decide))
  refine lv_iload_n hx hb dL_act_15 rfl (lv_at hl 1 rfl) ?_
  refine lv_iconst (v := 1) hx hb dL_act_16 (by decide) ?_
  refine lv_icmp_ne (tgt := 29) hx hb dL_act_17 (by decide) (fun c9 => absurd (by decide) c9) (fun _ => ?_)
  refine lv_aload_n hx hb dL_act_20 rfl (lv_at hl 0 rfl) ?_
  refine lv_iload_n hx hb dL_act_21 rfl (lv_at hl 2 rfl) ?_
  refine lv_iload_n hx hb dL_act_22 rfl (lv_at hl 3 rfl) ?_
  refine vx_calli (vx_runV (As := [.int p1, .int p2]) (rest := []) ⟨hx, hb, hml, hown, hts⟩ (t_X2_dropColumn l hlt D cyI cyZ ad zb zo zt zm zu zr zl zf p1 p2 (by rw [hx9]; decide)) (cwV 2 hts gL_act_X2_dropColumn rfl rfl rfl (by decide +kernel) ⟨Nat.le_of_ble_eq_true rfl, Nat.le_of_ble_eq_true rfl⟩) (ptV hG (hz.kept va_S.rf) hP (ci := 2) rfl rfl rfl) rfl rfl hl.1 rfl (lv_room (Nat.le_of_ble_eq_true rfl)) dL_act_23 ⟨Nat.le_of_ble_eq_true rfl, Nat.le_of_ble_eq_true rfl⟩) hS (fun _ _ h => h.elim) (fun _ h => h.elim) (fun _ _ h => h.elim) (fun E ce q9 u t H1 locs1 ht _ _ hE _ hk1 hS1 hce hcv hcl => ?_) (fun r u t H1 locs1 ht hvm h hb9 hz1 hk1 hS1 => h.elim)
  obtain rfl : E = "java/lang/IndexOutOfBoundsException" := hE.trans (by rw [hx9]; rfl)
  have hP1 : va_P D vwCl (wZ cyI cyZ ad zb zo zt zm zu zr zl zf) H1 := hP.kept (fun k q hq => hk1 q.1 (hP k q hq).lt id)
  refine vx_catch (own := RL) (name := "java/lang/IndexOutOfBoundsException") hown [] (⟨0, 288, 289, 72⟩ : ExceptionTableEntry) [(⟨0, 288, 295, 74⟩ : ExceptionTableEntry), (⟨0, 288, 301, 76⟩ : ExceptionTableEntry)] ((vx_table (x := yL_act) B (hts _ List.mem_cons_self)).trans rfl) ps_nil (by decide) (by decide) (hts (.classLink RL 72 "java/lang/IndexOutOfBoundsException") (List.mem_of_getElem? (i := 1) rfl)) (va_Nw.use rfl (hz.2.2.2.1 "java/lang/IndexOutOfBoundsException" (by decide))) hce hcv hcl ?_
  refine lv_astore (lv' := [(6, .ref q9)]) hx hb dL_act_289 (lv_sub hl [] rfl) (by decide) rfl (fun ls hl => ?_)
  refine lv_sipush (v := (-20001)) hx hb dL_act_291 (by decide) ?_
  exact W.iret (v := (-20001)) hx hb hr (fun t ht hW => ⟨⟨(-20001), (), rfl, rfl, by rw [ht]; exact hP1, hD⟩, hS1.F ht⟩) hS1.2.2 dL_act_294
set_option maxHeartbeats 4000000 in
set_option maxRecDepth 100000 in
theorem t_A2_1 (l : Launch) (hlt : l.stackTraces = false) (D : va_G) (cyI cyZ : ClassId) (ad : Nat → Nat) (zb : Tr) (zo : Tr) (zt : Tr) (zm : Tr) (zu : Nat → Int32) (zr : Nat → Int32) (zl : Lr) (zf : Int32) (p1 : Int32) (p2 : Int32) (p3 : Int32) (p4 : Int32) (A : Nat → Prop) (sz : Nat) (hAe : A = va_A (wZ cyI cyZ ad zb zo zt zm zu zr zl zf) sz) (hx9 : f_X2_rename_x zb zo zt p1 p2 p3 = 1) : Met l yL_act wsL_act ({ frames := 9, cells := 1, slots := 6, locals := 167 } : Room) (pcO D cyI cyZ sz [.ref (ad 0), .int 2, .int p1, .int p2, .int p3, .int p4] (wZ cyI cyZ ad zb zo zt zm zu zr zl zf)) (mI D A (wZ cyI cyZ ad zb zo zt zm zu zr zl zf) (-20001)) 1 6 A := by
  refine va_MetW (cc := cL_act) (maxL := 7) (ret := some .int) (hh := [(0, 288, 289, 72), (0, 288, 295, 74), (0, 288, 301, 76)]) (by decide) rfl ?_
  intro p e s m args below meth c s₁ B hml hv
  obtain ⟨rfl, hsz, hP, hG, ⟨hz, hn⟩, hD0⟩ := hv
  have hx := B.exec
  have hb := B.bytes
  have hr := B.returns
  have hts := atoms_spec (ws := wsL_act) B.pre
  have hown : s.vm.findClass RL = some m.cls := findClass_of_methodNamed B.named
  subst hsz
  have hD : va_D A (wZ cyI cyZ ad zb zo zt zm zu zr zl zf) := by rw [hAe]; exact hD0.self
  have hA : ∀ q : Nat, s.heap.size ≤ q → A q := fun q h => by rw [hAe]; exact Or.inr h
  clear hAe hD0
  have hz := hz.zq
  have hS : va_S A s.heap s.heap [] := va_S.rf
  have hl := lv_entry ([.ref (ad 0), .int 2, .int p1, .int p2, .int p3, .int p4]) (n := 7) (Nat.le_of_ble_eq_true rfl)
  rw [lg_entry_eq]
  generalize (lg_sl ([.ref (ad 0), .int 2, .int p1, .int p2, .int p3, .int p4]) ++ List.replicate (7 - (lg_sl ([.ref (ad 0), .int 2, .int p1, .int p2, .int p3, .int p4])).length) Slot.unset).toArray = ls at hl ⊢
  have hl : lv_has ls 7 [(0, .ref (ad 0)), (1, .int 2), (2, .int p1), (3, .int p2), (4, .int p3), (5, .int p4)] := hl
  have hP : va_P D vwCl (wZ cyI cyZ ad zb zo zt zm zu zr zl zf) s.heap := hP
  refine lv_iload_n hx hb dL_act_0 rfl (lv_at hl 1 rfl) ?_
  refine lv_if_ne (tgt := 15) hx hb dL_act_1 (by decide) (fun _ => ?_) (fun c9 => absurd c9 (by decide))
  refine lv_iload_n hx hb dL_act_15 rfl (lv_at hl 1 rfl) ?_
  refine lv_iconst (v := 1) hx hb dL_act_16 (by decide) ?_
  refine lv_icmp_ne (tgt := 29) hx hb dL_act_17 (by decide) (fun _ => ?_) (fun c9 => absurd c9 (by decide))
  refine lv_iload_n hx hb dL_act_29 rfl (lv_at hl 1 rfl) ?_
  refine lv_iconst (v := 2) hx hb dL_act_30 (by decide) ?_
  refine lv_icmp_ne (tgt := 45) hx hb dL_act_31 (by decide) (fun c9 => absurd (by decide) c9) (fun _ => ?_)
  refine lv_aload_n hx hb dL_act_34 rfl (lv_at hl 0 rfl) ?_
  refine lv_iload_n hx hb dL_act_35 rfl (lv_at hl 2 rfl) ?_
  refine lv_iload_n hx hb dL_act_36 rfl (lv_at hl 3 rfl) ?_
  refine lv_iload hx hb dL_act_37 (lv_at hl 4 rfl) ?_
  refine vx_calli (vx_runV (As := [.int p1, .int p2, .int p3]) (rest := []) ⟨hx, hb, hml, hown, hts⟩ (t_X2_rename l hlt D cyI cyZ ad zb zo zt zm zu zr zl zf p1 p2 p3 (by rw [hx9]; decide)) (cwV 3 hts gL_act_X2_rename rfl rfl rfl (by decide +kernel) ⟨Nat.le_of_ble_eq_true rfl, Nat.le_of_ble_eq_true rfl⟩) (ptV hG (hz.kept va_S.rf) hP (ci := 2) rfl rfl rfl) rfl rfl hl.1 rfl (lv_room (Nat.le_of_ble_eq_true rfl)) dL_act_39 ⟨Nat.le_of_ble_eq_true rfl, Nat.le_of_ble_eq_true rfl⟩) hS (fun _ _ h => h.elim) (fun _ h => h.elim) (fun _ _ h => h.elim) (fun E ce q9 u t H1 locs1 ht _ _ hE _ hk1 hS1 hce hcv hcl => ?_) (fun r u t H1 locs1 ht hvm h hb9 hz1 hk1 hS1 => h.elim)
  obtain rfl : E = "java/lang/IndexOutOfBoundsException" := hE.trans (by rw [hx9]; rfl)
  have hP1 : va_P D vwCl (wZ cyI cyZ ad zb zo zt zm zu zr zl zf) H1 := hP.kept (fun k q hq => hk1 q.1 (hP k q hq).lt id)
  refine vx_catch (own := RL) (name := "java/lang/IndexOutOfBoundsException") hown [] (⟨0, 288, 289, 72⟩ : ExceptionTableEntry) [(⟨0, 288, 295, 74⟩ : ExceptionTableEntry), (⟨0, 288, 301, 76⟩ : ExceptionTableEntry)] ((vx_table (x := yL_act) B (hts _ List.mem_cons_self)).trans rfl) ps_nil (by decide) (by decide) (hts (.classLink RL 72 "java/lang/IndexOutOfBoundsException") (List.mem_of_getElem? (i := 1) rfl)) (va_Nw.use rfl (hz.2.2.2.1 "java/lang/IndexOutOfBoundsException" (by decide))) hce hcv hcl ?_
  refine lv_astore (lv' := [(6, .ref q9)]) hx hb dL_act_289 (lv_sub hl [] rfl) (by decide) rfl (fun ls hl => ?_)
  refine lv_sipush (v := (-20001)) hx hb dL_act_291 (by decide) ?_
  exact W.iret (v := (-20001)) hx hb hr (fun t ht hW => ⟨⟨(-20001), (), rfl, rfl, by rw [ht]; exact hP1, hD⟩, hS1.F ht⟩) hS1.2.2 dL_act_294
set_option maxHeartbeats 4000000 in
set_option maxRecDepth 100000 in
theorem t_A2_2 (l : Launch) (hlt : l.stackTraces = false) (D : va_G) (cyI cyZ : ClassId) (ad : Nat → Nat) (zb : Tr) (zo : Tr) (zt : Tr) (zm : Tr) (zu : Nat → Int32) (zr : Nat → Int32) (zl : Lr) (zf : Int32) (p1 : Int32) (p2 : Int32) (p3 : Int32) (p4 : Int32) (A : Nat → Prop) (sz : Nat) (hAe : A = va_A (wZ cyI cyZ ad zb zo zt zm zu zr zl zf) sz) (hx9 : f_X2_rename_x zb zo zt p1 p2 p3 = 2) : Met l yL_act wsL_act ({ frames := 9, cells := 1, slots := 6, locals := 167 } : Room) (pcO D cyI cyZ sz [.ref (ad 0), .int 2, .int p1, .int p2, .int p3, .int p4] (wZ cyI cyZ ad zb zo zt zm zu zr zl zf)) (mI D A (wZ cyI cyZ ad zb zo zt zm zu zr zl zf) (-20002)) 1 6 A := by
  refine va_MetW (cc := cL_act) (maxL := 7) (ret := some .int) (hh := [(0, 288, 289, 72), (0, 288, 295, 74), (0, 288, 301, 76)]) (by decide) rfl ?_
  intro p e s m args below meth c s₁ B hml hv
  obtain ⟨rfl, hsz, hP, hG, ⟨hz, hn⟩, hD0⟩ := hv
  have hx := B.exec
  have hb := B.bytes
  have hr := B.returns
  have hts := atoms_spec (ws := wsL_act) B.pre
  have hown : s.vm.findClass RL = some m.cls := findClass_of_methodNamed B.named
  subst hsz
  have hD : va_D A (wZ cyI cyZ ad zb zo zt zm zu zr zl zf) := by rw [hAe]; exact hD0.self
  have hA : ∀ q : Nat, s.heap.size ≤ q → A q := fun q h => by rw [hAe]; exact Or.inr h
  clear hAe hD0
  have hz := hz.zq
  have hS : va_S A s.heap s.heap [] := va_S.rf
  have hl := lv_entry ([.ref (ad 0), .int 2, .int p1, .int p2, .int p3, .int p4]) (n := 7) (Nat.le_of_ble_eq_true rfl)
  rw [lg_entry_eq]
  generalize (lg_sl ([.ref (ad 0), .int 2, .int p1, .int p2, .int p3, .int p4]) ++ List.replicate (7 - (lg_sl ([.ref (ad 0), .int 2, .int p1, .int p2, .int p3, .int p4])).length) Slot.unset).toArray = ls at hl ⊢
  have hl : lv_has ls 7 [(0, .ref (ad 0)), (1, .int 2), (2, .int p1), (3, .int p2), (4, .int p3), (5, .int p4)] := hl
  have hP : va_P D vwCl (wZ cyI cyZ ad zb zo zt zm zu zr zl zf) s.heap := hP
  refine lv_iload_n hx hb dL_act_0 rfl (lv_at hl 1 rfl) ?_
  refine lv_if_ne (tgt := 15) hx hb dL_act_1 (by decide) (fun _ => ?_) (fun c9 => absurd c9 (by decide))
  refine lv_iload_n hx hb dL_act_15 rfl (lv_at hl 1 rfl) ?_
  refine lv_iconst (v := 1) hx hb dL_act_16 (by decide) ?_
  refine lv_icmp_ne (tgt := 29) hx hb dL_act_17 (by decide) (fun _ => ?_) (fun c9 => absurd c9 (by decide))
  refine lv_iload_n hx hb dL_act_29 rfl (lv_at hl 1 rfl) ?_
  refine lv_iconst (v := 2) hx hb dL_act_30 (by decide) ?_
  refine lv_icmp_ne (tgt := 45) hx hb dL_act_31 (by decide) (fun c9 => absurd (by decide) c9) (fun _ => ?_)
  refine lv_aload_n hx hb dL_act_34 rfl (lv_at hl 0 rfl) ?_
  refine lv_iload_n hx hb dL_act_35 rfl (lv_at hl 2 rfl) ?_
  refine lv_iload_n hx hb dL_act_36 rfl (lv_at hl 3 rfl) ?_
  refine lv_iload hx hb dL_act_37 (lv_at hl 4 rfl) ?_
  refine vx_calli (vx_runV (As := [.int p1, .int p2, .int p3]) (rest := []) ⟨hx, hb, hml, hown, hts⟩ (t_X2_rename l hlt D cyI cyZ ad zb zo zt zm zu zr zl zf p1 p2 p3 (by rw [hx9]; decide)) (cwV 3 hts gL_act_X2_rename rfl rfl rfl (by decide +kernel) ⟨Nat.le_of_ble_eq_true rfl, Nat.le_of_ble_eq_true rfl⟩) (ptV hG (hz.kept va_S.rf) hP (ci := 2) rfl rfl rfl) rfl rfl hl.1 rfl (lv_room (Nat.le_of_ble_eq_true rfl)) dL_act_39 ⟨Nat.le_of_ble_eq_true rfl, Nat.le_of_ble_eq_true rfl⟩) hS (fun _ _ h => h.elim) (fun _ h => h.elim) (fun _ _ h => h.elim) (fun E ce q9 u t H1 locs1 ht _ _ hE _ hk1 hS1 hce hcv hcl => ?_) (fun r u t H1 locs1 ht hvm h hb9 hz1 hk1 hS1 => h.elim)
  obtain rfl : E = "java/lang/IllegalArgumentException" := hE.trans (by rw [hx9]; rfl)
  have hP1 : va_P D vwCl (wZ cyI cyZ ad zb zo zt zm zu zr zl zf) H1 := hP.kept (fun k q hq => hk1 q.1 (hP k q hq).lt id)
  refine vx_catch (own := RL) (name := "java/lang/IllegalArgumentException") hown [(⟨0, 288, 289, 72⟩ : ExceptionTableEntry)] (⟨0, 288, 295, 74⟩ : ExceptionTableEntry) [(⟨0, 288, 301, 76⟩ : ExceptionTableEntry)] ((vx_table (x := yL_act) B (hts _ List.mem_cons_self)).trans rfl) (ps_cons (Or.inr ⟨by decide, "java/lang/IndexOutOfBoundsException", (hts (.classLink RL 72 "java/lang/IndexOutOfBoundsException") (List.mem_of_getElem? (i := 1) rfl)), hn.1⟩) ps_nil) (by decide) (by decide) (hts (.classLink RL 74 "java/lang/IllegalArgumentException") (List.mem_of_getElem? (i := 2) rfl)) (va_Nw.use rfl (hz.2.2.2.1 "java/lang/IllegalArgumentException" (by decide))) hce hcv hcl ?_
  refine lv_astore (lv' := [(6, .ref q9)]) hx hb dL_act_295 (lv_sub hl [] rfl) (by decide) rfl (fun ls hl => ?_)
  refine lv_sipush (v := (-20002)) hx hb dL_act_297 (by decide) ?_
  exact W.iret (v := (-20002)) hx hb hr (fun t ht hW => ⟨⟨(-20002), (), rfl, rfl, by rw [ht]; exact hP1, hD⟩, hS1.F ht⟩) hS1.2.2 dL_act_300
set_option maxHeartbeats 4000000 in
set_option maxRecDepth 100000 in
theorem k_A3 (l : Launch) (D : va_G) (cyI cyZ : ClassId) (ad : Nat → Nat) (zb : Tr) (zo : Tr) (zt : Tr) (zm : Tr) (zu : Nat → Int32) (zr : Nat → Int32) (zl : Lr) (zf : Int32) (p1 : Int32) (p2 : Int32) (p3 : Int32) (p4 : Int32) (A : Nat → Prop) (sz : Nat) (hAe : A = va_A (wZ cyI cyZ ad zb zo zt zm zu zr zl zf) sz) (hx9 : f_X2_addRow_x zb zo zt p1 p2 = 0) : Met l yL_act wsL_act ({ frames := 3, cells := 0, slots := 0, locals := 65 } : Room) (pcO D cyI cyZ sz [.ref (ad 0), .int 3, .int p1, .int p2, .int p3, .int p4] (wZ cyI cyZ ad zb zo zt zm zu zr zl zf)) (mI D A (wZ cyI cyZ ad (f_X2_addRow zb zo zt zf p1 p2).2.1 (f_X2_addRow zb zo zt zf p1 p2).2.2.1 (f_X2_addRow zb zo zt zf p1 p2).2.2.2.1 zm zu zr zl (f_X2_addRow zb zo zt zf p1 p2).2.2.2.2) (f_X2_addRow zb zo zt zf p1 p2).1) 0 0 A := by
  refine va_MetW (cc := cL_act) (maxL := 7) (ret := some .int) (hh := [(0, 288, 289, 72), (0, 288, 295, 74), (0, 288, 301, 76)]) (by decide) rfl ?_
  intro p e s m args below meth c s₁ B hml hv
  obtain ⟨rfl, hsz, hP, hG, ⟨hz, hn⟩, hD0⟩ := hv
  have hx := B.exec
  have hb := B.bytes
  have hr := B.returns
  have hts := atoms_spec (ws := wsL_act) B.pre
  have hown : s.vm.findClass RL = some m.cls := findClass_of_methodNamed B.named
  subst hsz
  have hD : va_D A (wZ cyI cyZ ad zb zo zt zm zu zr zl zf) := by rw [hAe]; exact hD0.self
  have hA : ∀ q : Nat, s.heap.size ≤ q → A q := fun q h => by rw [hAe]; exact Or.inr h
  clear hAe hD0
  have hz := hz.zq
  have hS : va_S A s.heap s.heap [] := va_S.rf
  have hl := lv_entry ([.ref (ad 0), .int 3, .int p1, .int p2, .int p3, .int p4]) (n := 7) (Nat.le_of_ble_eq_true rfl)
  rw [lg_entry_eq]
  generalize (lg_sl ([.ref (ad 0), .int 3, .int p1, .int p2, .int p3, .int p4]) ++ List.replicate (7 - (lg_sl ([.ref (ad 0), .int 3, .int p1, .int p2, .int p3, .int p4])).length) Slot.unset).toArray = ls at hl ⊢
  have hl : lv_has ls 7 [(0, .ref (ad 0)), (1, .int 3), (2, .int p1), (3, .int p2), (4, .int p3), (5, .int p4)] := hl
  have hP : va_P D vwCl (wZ cyI cyZ ad zb zo zt zm zu zr zl zf) s.heap := hP
  refine lv_iload_n hx hb dL_act_0 rfl (lv_at hl 1 rfl) ?_
  refine lv_if_ne (tgt := 15) hx hb dL_act_1 (by decide) (fun _ => ?_) (fun c9 => absurd c9 (by decide))
  refine lv_iload_n hx hb dL_act_15 rfl (lv_at hl 1 rfl) ?_
  refine lv_iconst (v := 1) hx hb dL_act_16 (by decide) ?_
  refine lv_icmp_ne (tgt := 29) hx hb dL_act_17 (by decide) (fun _ => ?_) (fun c9 => absurd c9 (by decide))
  refine lv_iload_n hx hb dL_act_29 rfl (lv_at hl 1 rfl) ?_
  refine lv_iconst (v := 2) hx hb dL_act_30 (by decide) ?_
  refine lv_icmp_ne (tgt := 45) hx hb dL_act_31 (by decide) (fun _ => ?_) (fun c9 => absurd c9 (by decide))
  refine lv_iload_n hx hb dL_act_45 rfl (lv_at hl 1 rfl) ?_
  refine lv_iconst (v := 3) hx hb dL_act_46 (by decide) ?_
  refine lv_icmp_ne (tgt := 59) hx hb dL_act_47 (by decide) (fun c9 => absurd (by decide) c9) (fun _ => ?_)
  refine lv_aload_n hx hb dL_act_50 rfl (lv_at hl 0 rfl) ?_
  refine lv_iload_n hx hb dL_act_51 rfl (lv_at hl 2 rfl) ?_
  refine lv_iload_n hx hb dL_act_52 rfl (lv_at hl 3 rfl) ?_
  refine mr_i0 (va_runV (As := [.int p1, .int p2]) (rest := []) ⟨hx, hb, hml, hown, hts⟩ (k_X2_addRow l D cyI cyZ ad zb zo zt zm zu zr zl zf p1 p2 _ _ rfl hx9) (cwV 2 hts gL_act_X2_addRow rfl rfl rfl (by decide +kernel) ⟨Nat.le_of_ble_eq_true rfl, Nat.le_of_ble_eq_true rfl⟩) (pmV hG hP hD (ci := 2) rfl rfl rfl) rfl rfl hl.1 rfl (lv_room (Nat.le_of_ble_eq_true rfl)) dL_act_53 ⟨Nat.zero_le _, Nat.zero_le _⟩) hD hS hA (fun H locs hP hD hS => ?_)
  have hP : va_P D vwCl (wZ cyI cyZ ad (f_X2_addRow zb zo zt zf p1 p2).2.1 (f_X2_addRow zb zo zt zf p1 p2).2.2.1 (f_X2_addRow zb zo zt zf p1 p2).2.2.2.1 zm zu zr zl (f_X2_addRow zb zo zt zf p1 p2).2.2.2.2) H := hP
  have hD : va_D A (wZ cyI cyZ ad (f_X2_addRow zb zo zt zf p1 p2).2.1 (f_X2_addRow zb zo zt zf p1 p2).2.2.1 (f_X2_addRow zb zo zt zf p1 p2).2.2.2.1 zm zu zr zl (f_X2_addRow zb zo zt zf p1 p2).2.2.2.2) := hD
  refine lv_goto (tgt := 288) hx hb dL_act_56 (by decide) ?_
  exact W.iret (v := (f_X2_addRow zb zo zt zf p1 p2).1) hx hb hr (fun t ht hW => ⟨⟨(f_X2_addRow zb zo zt zf p1 p2).1, (), rfl, rfl, by rw [ht]; exact hP, hD⟩, hS.F ht⟩) hS.2.2 dL_act_288
set_option maxHeartbeats 4000000 in
set_option maxRecDepth 100000 in
theorem t_A3_1 (l : Launch) (hlt : l.stackTraces = false) (D : va_G) (cyI cyZ : ClassId) (ad : Nat → Nat) (zb : Tr) (zo : Tr) (zt : Tr) (zm : Tr) (zu : Nat → Int32) (zr : Nat → Int32) (zl : Lr) (zf : Int32) (p1 : Int32) (p2 : Int32) (p3 : Int32) (p4 : Int32) (A : Nat → Prop) (sz : Nat) (hAe : A = va_A (wZ cyI cyZ ad zb zo zt zm zu zr zl zf) sz) (hx9 : f_X2_addRow_x zb zo zt p1 p2 = 1) : Met l yL_act wsL_act ({ frames := 9, cells := 1, slots := 6, locals := 165 } : Room) (pcO D cyI cyZ sz [.ref (ad 0), .int 3, .int p1, .int p2, .int p3, .int p4] (wZ cyI cyZ ad zb zo zt zm zu zr zl zf)) (mI D A (wZ cyI cyZ ad zb zo zt zm zu zr zl zf) (-20001)) 1 6 A := by
  refine va_MetW (cc := cL_act) (maxL := 7) (ret := some .int) (hh := [(0, 288, 289, 72), (0, 288, 295, 74), (0, 288, 301, 76)]) (by decide) rfl ?_
  intro p e s m args below meth c s₁ B hml hv
  obtain ⟨rfl, hsz, hP, hG, ⟨hz, hn⟩, hD0⟩ := hv
  have hx := B.exec
  have hb := B.bytes
  have hr := B.returns
  have hts := atoms_spec (ws := wsL_act) B.pre
  have hown : s.vm.findClass RL = some m.cls := findClass_of_methodNamed B.named
  subst hsz
  have hD : va_D A (wZ cyI cyZ ad zb zo zt zm zu zr zl zf) := by rw [hAe]; exact hD0.self
  have hA : ∀ q : Nat, s.heap.size ≤ q → A q := fun q h => by rw [hAe]; exact Or.inr h
  clear hAe hD0
  have hz := hz.zq
  have hS : va_S A s.heap s.heap [] := va_S.rf
  have hl := lv_entry ([.ref (ad 0), .int 3, .int p1, .int p2, .int p3, .int p4]) (n := 7) (Nat.le_of_ble_eq_true rfl)
  rw [lg_entry_eq]
  generalize (lg_sl ([.ref (ad 0), .int 3, .int p1, .int p2, .int p3, .int p4]) ++ List.replicate (7 - (lg_sl ([.ref (ad 0), .int 3, .int p1, .int p2, .int p3, .int p4])).length) Slot.unset).toArray = ls at hl ⊢
  have hl : lv_has ls 7 [(0, .ref (ad 0)), (1, .int 3), (2, .int p1), (3, .int p2), (4, .int p3), (5, .int p4)] := hl
  have hP : va_P D vwCl (wZ cyI cyZ ad zb zo zt zm zu zr zl zf) s.heap := hP
  refine lv_iload_n hx hb dL_act_0 rfl (lv_at hl 1 rfl) ?_
  refine lv_if_ne (tgt := 15) hx hb dL_act_1 (by decide) (fun _ => ?_) (fun c9 => absurd c9 (by decide))
  refine lv_iload_n hx hb dL_act_15 rfl (lv_at hl 1 rfl) ?_
  refine lv_iconst (v := 1) hx hb dL_act_16 (by decide) ?_
  refine lv_icmp_ne (tgt := 29) hx hb dL_act_17 (by decide) (fun _ => ?_) (fun c9 => absurd c9 (by decide))
  refine lv_iload_n hx hb dL_act_29 rfl (lv_at hl 1 rfl) ?_
  refine lv_iconst (v := 2) hx hb dL_act_30 (by decide) ?_
  refine lv_icmp_ne (tgt := 45) hx hb dL_act_31 (by decide) (fun _ => ?_) (fun c9 => absurd c9 (by decide))
  refine lv_iload_n hx hb dL_act_45 rfl (lv_at hl 1 rfl) ?_
  refine lv_iconst (v := 3) hx hb dL_act_46 (by decide) ?_
  refine lv_icmp_ne (tgt := 59) hx hb dL_act_47 (by decide) (fun c9 => absurd (by decide) c9) (fun _ => ?_)
  refine lv_aload_n hx hb dL_act_50 rfl (lv_at hl 0 rfl) ?_
  refine lv_iload_n hx hb dL_act_51 rfl (lv_at hl 2 rfl) ?_
  refine lv_iload_n hx hb dL_act_52 rfl (lv_at hl 3 rfl) ?_
  refine vx_calli (vx_runV (As := [.int p1, .int p2]) (rest := []) ⟨hx, hb, hml, hown, hts⟩ (t_X2_addRow l hlt D cyI cyZ ad zb zo zt zm zu zr zl zf p1 p2 (by rw [hx9]; decide)) (cwV 2 hts gL_act_X2_addRow rfl rfl rfl (by decide +kernel) ⟨Nat.le_of_ble_eq_true rfl, Nat.le_of_ble_eq_true rfl⟩) (ptV hG (hz.kept va_S.rf) hP (ci := 2) rfl rfl rfl) rfl rfl hl.1 rfl (lv_room (Nat.le_of_ble_eq_true rfl)) dL_act_53 ⟨Nat.le_of_ble_eq_true rfl, Nat.le_of_ble_eq_true rfl⟩) hS (fun _ _ h => h.elim) (fun _ h => h.elim) (fun _ _ h => h.elim) (fun E ce q9 u t H1 locs1 ht _ _ hE _ hk1 hS1 hce hcv hcl => ?_) (fun r u t H1 locs1 ht hvm h hb9 hz1 hk1 hS1 => h.elim)
  obtain rfl : E = "java/lang/IndexOutOfBoundsException" := hE.trans (by rw [hx9]; rfl)
  have hP1 : va_P D vwCl (wZ cyI cyZ ad zb zo zt zm zu zr zl zf) H1 := hP.kept (fun k q hq => hk1 q.1 (hP k q hq).lt id)
  refine vx_catch (own := RL) (name := "java/lang/IndexOutOfBoundsException") hown [] (⟨0, 288, 289, 72⟩ : ExceptionTableEntry) [(⟨0, 288, 295, 74⟩ : ExceptionTableEntry), (⟨0, 288, 301, 76⟩ : ExceptionTableEntry)] ((vx_table (x := yL_act) B (hts _ List.mem_cons_self)).trans rfl) ps_nil (by decide) (by decide) (hts (.classLink RL 72 "java/lang/IndexOutOfBoundsException") (List.mem_of_getElem? (i := 1) rfl)) (va_Nw.use rfl (hz.2.2.2.1 "java/lang/IndexOutOfBoundsException" (by decide))) hce hcv hcl ?_
  refine lv_astore (lv' := [(6, .ref q9)]) hx hb dL_act_289 (lv_sub hl [] rfl) (by decide) rfl (fun ls hl => ?_)
  refine lv_sipush (v := (-20001)) hx hb dL_act_291 (by decide) ?_
  exact W.iret (v := (-20001)) hx hb hr (fun t ht hW => ⟨⟨(-20001), (), rfl, rfl, by rw [ht]; exact hP1, hD⟩, hS1.F ht⟩) hS1.2.2 dL_act_294
set_option maxHeartbeats 4000000 in
set_option maxRecDepth 100000 in
theorem t_A3_3 (l : Launch) (hlt : l.stackTraces = false) (D : va_G) (cyI cyZ : ClassId) (ad : Nat → Nat) (zb : Tr) (zo : Tr) (zt : Tr) (zm : Tr) (zu : Nat → Int32) (zr : Nat → Int32) (zl : Lr) (zf : Int32) (p1 : Int32) (p2 : Int32) (p3 : Int32) (p4 : Int32) (A : Nat → Prop) (sz : Nat) (hAe : A = va_A (wZ cyI cyZ ad zb zo zt zm zu zr zl zf) sz) (hx9 : f_X2_addRow_x zb zo zt p1 p2 = 3) : Met l yL_act wsL_act ({ frames := 9, cells := 1, slots := 6, locals := 165 } : Room) (pcO D cyI cyZ sz [.ref (ad 0), .int 3, .int p1, .int p2, .int p3, .int p4] (wZ cyI cyZ ad zb zo zt zm zu zr zl zf)) (mI D A (wZ cyI cyZ ad zb zo zt zm zu zr zl zf) (-20003)) 1 6 A := by
  refine va_MetW (cc := cL_act) (maxL := 7) (ret := some .int) (hh := [(0, 288, 289, 72), (0, 288, 295, 74), (0, 288, 301, 76)]) (by decide) rfl ?_
  intro p e s m args below meth c s₁ B hml hv
  obtain ⟨rfl, hsz, hP, hG, ⟨hz, hn⟩, hD0⟩ := hv
  have hx := B.exec
  have hb := B.bytes
  have hr := B.returns
  have hts := atoms_spec (ws := wsL_act) B.pre
  have hown : s.vm.findClass RL = some m.cls := findClass_of_methodNamed B.named
  subst hsz
  have hD : va_D A (wZ cyI cyZ ad zb zo zt zm zu zr zl zf) := by rw [hAe]; exact hD0.self
  have hA : ∀ q : Nat, s.heap.size ≤ q → A q := fun q h => by rw [hAe]; exact Or.inr h
  clear hAe hD0
  have hz := hz.zq
  have hS : va_S A s.heap s.heap [] := va_S.rf
  have hl := lv_entry ([.ref (ad 0), .int 3, .int p1, .int p2, .int p3, .int p4]) (n := 7) (Nat.le_of_ble_eq_true rfl)
  rw [lg_entry_eq]
  generalize (lg_sl ([.ref (ad 0), .int 3, .int p1, .int p2, .int p3, .int p4]) ++ List.replicate (7 - (lg_sl ([.ref (ad 0), .int 3, .int p1, .int p2, .int p3, .int p4])).length) Slot.unset).toArray = ls at hl ⊢
  have hl : lv_has ls 7 [(0, .ref (ad 0)), (1, .int 3), (2, .int p1), (3, .int p2), (4, .int p3), (5, .int p4)] := hl
  have hP : va_P D vwCl (wZ cyI cyZ ad zb zo zt zm zu zr zl zf) s.heap := hP
  refine lv_iload_n hx hb dL_act_0 rfl (lv_at hl 1 rfl) ?_
  refine lv_if_ne (tgt := 15) hx hb dL_act_1 (by decide) (fun _ => ?_) (fun c9 => absurd c9 (by decide))
  refine lv_iload_n hx hb dL_act_15 rfl (lv_at hl 1 rfl) ?_
  refine lv_iconst (v := 1) hx hb dL_act_16 (by decide) ?_
  refine lv_icmp_ne (tgt := 29) hx hb dL_act_17 (by decide) (fun _ => ?_) (fun c9 => absurd c9 (by decide))
  refine lv_iload_n hx hb dL_act_29 rfl (lv_at hl 1 rfl) ?_
  refine lv_iconst (v := 2) hx hb dL_act_30 (by decide) ?_
  refine lv_icmp_ne (tgt := 45) hx hb dL_act_31 (by decide) (fun _ => ?_) (fun c9 => absurd c9 (by decide))
  refine lv_iload_n hx hb dL_act_45 rfl (lv_at hl 1 rfl) ?_
  refine lv_iconst (v := 3) hx hb dL_act_46 (by decide) ?_
  refine lv_icmp_ne (tgt := 59) hx hb dL_act_47 (by decide) (fun c9 => absurd (by decide) c9) (fun _ => ?_)
  refine lv_aload_n hx hb dL_act_50 rfl (lv_at hl 0 rfl) ?_
  refine lv_iload_n hx hb dL_act_51 rfl (lv_at hl 2 rfl) ?_
  refine lv_iload_n hx hb dL_act_52 rfl (lv_at hl 3 rfl) ?_
  refine vx_calli (vx_runV (As := [.int p1, .int p2]) (rest := []) ⟨hx, hb, hml, hown, hts⟩ (t_X2_addRow l hlt D cyI cyZ ad zb zo zt zm zu zr zl zf p1 p2 (by rw [hx9]; decide)) (cwV 2 hts gL_act_X2_addRow rfl rfl rfl (by decide +kernel) ⟨Nat.le_of_ble_eq_true rfl, Nat.le_of_ble_eq_true rfl⟩) (ptV hG (hz.kept va_S.rf) hP (ci := 2) rfl rfl rfl) rfl rfl hl.1 rfl (lv_room (Nat.le_of_ble_eq_true rfl)) dL_act_53 ⟨Nat.le_of_ble_eq_true rfl, Nat.le_of_ble_eq_true rfl⟩) hS (fun _ _ h => h.elim) (fun _ h => h.elim) (fun _ _ h => h.elim) (fun E ce q9 u t H1 locs1 ht _ _ hE _ hk1 hS1 hce hcv hcl => ?_) (fun r u t H1 locs1 ht hvm h hb9 hz1 hk1 hS1 => h.elim)
  obtain rfl : E = "java/lang/IllegalStateException" := hE.trans (by rw [hx9]; rfl)
  have hP1 : va_P D vwCl (wZ cyI cyZ ad zb zo zt zm zu zr zl zf) H1 := hP.kept (fun k q hq => hk1 q.1 (hP k q hq).lt id)
  refine vx_catch (own := RL) (name := "java/lang/IllegalStateException") hown [(⟨0, 288, 289, 72⟩ : ExceptionTableEntry), (⟨0, 288, 295, 74⟩ : ExceptionTableEntry)] (⟨0, 288, 301, 76⟩ : ExceptionTableEntry) [] ((vx_table (x := yL_act) B (hts _ List.mem_cons_self)).trans rfl) (ps_cons (Or.inr ⟨by decide, "java/lang/IndexOutOfBoundsException", (hts (.classLink RL 72 "java/lang/IndexOutOfBoundsException") (List.mem_of_getElem? (i := 1) rfl)), hn.2.1⟩) (ps_cons (Or.inr ⟨by decide, "java/lang/IllegalArgumentException", (hts (.classLink RL 74 "java/lang/IllegalArgumentException") (List.mem_of_getElem? (i := 2) rfl)), hn.2.2⟩) ps_nil)) (by decide) (by decide) (hts (.classLink RL 76 "java/lang/IllegalStateException") (List.mem_of_getElem? (i := 3) rfl)) (va_Nw.use rfl (hz.2.2.2.1 "java/lang/IllegalStateException" (by decide))) hce hcv hcl ?_
  refine lv_astore (lv' := [(6, .ref q9)]) hx hb dL_act_301 (lv_sub hl [] rfl) (by decide) rfl (fun ls hl => ?_)
  refine lv_sipush (v := (-20003)) hx hb dL_act_303 (by decide) ?_
  exact W.iret (v := (-20003)) hx hb hr (fun t ht hW => ⟨⟨(-20003), (), rfl, rfl, by rw [ht]; exact hP1, hD⟩, hS1.F ht⟩) hS1.2.2 dL_act_306
set_option maxHeartbeats 4000000 in
set_option maxRecDepth 100000 in
theorem t_A4_1 (l : Launch) (hlt : l.stackTraces = false) (D : va_G) (cyI cyZ : ClassId) (ad : Nat → Nat) (zb : Tr) (zo : Tr) (zt : Tr) (zm : Tr) (zu : Nat → Int32) (zr : Nat → Int32) (zl : Lr) (zf : Int32) (p1 : Int32) (p2 : Int32) (p3 : Int32) (p4 : Int32) (A : Nat → Prop) (sz : Nat) (hAe : A = va_A (wZ cyI cyZ ad zb zo zt zm zu zr zl zf) sz) (hx9 : f_X2_removeRow_x zb zo zt p1 p2 = 1) : Met l yL_act wsL_act ({ frames := 9, cells := 1, slots := 6, locals := 165 } : Room) (pcO D cyI cyZ sz [.ref (ad 0), .int 4, .int p1, .int p2, .int p3, .int p4] (wZ cyI cyZ ad zb zo zt zm zu zr zl zf)) (mI D A (wZ cyI cyZ ad zb zo zt zm zu zr zl zf) (-20001)) 1 6 A := by
  refine va_MetW (cc := cL_act) (maxL := 7) (ret := some .int) (hh := [(0, 288, 289, 72), (0, 288, 295, 74), (0, 288, 301, 76)]) (by decide) rfl ?_
  intro p e s m args below meth c s₁ B hml hv
  obtain ⟨rfl, hsz, hP, hG, ⟨hz, hn⟩, hD0⟩ := hv
  have hx := B.exec
  have hb := B.bytes
  have hr := B.returns
  have hts := atoms_spec (ws := wsL_act) B.pre
  have hown : s.vm.findClass RL = some m.cls := findClass_of_methodNamed B.named
  subst hsz
  have hD : va_D A (wZ cyI cyZ ad zb zo zt zm zu zr zl zf) := by rw [hAe]; exact hD0.self
  have hA : ∀ q : Nat, s.heap.size ≤ q → A q := fun q h => by rw [hAe]; exact Or.inr h
  clear hAe hD0
  have hz := hz.zq
  have hS : va_S A s.heap s.heap [] := va_S.rf
  have hl := lv_entry ([.ref (ad 0), .int 4, .int p1, .int p2, .int p3, .int p4]) (n := 7) (Nat.le_of_ble_eq_true rfl)
  rw [lg_entry_eq]
  generalize (lg_sl ([.ref (ad 0), .int 4, .int p1, .int p2, .int p3, .int p4]) ++ List.replicate (7 - (lg_sl ([.ref (ad 0), .int 4, .int p1, .int p2, .int p3, .int p4])).length) Slot.unset).toArray = ls at hl ⊢
  have hl : lv_has ls 7 [(0, .ref (ad 0)), (1, .int 4), (2, .int p1), (3, .int p2), (4, .int p3), (5, .int p4)] := hl
  have hP : va_P D vwCl (wZ cyI cyZ ad zb zo zt zm zu zr zl zf) s.heap := hP
  refine lv_iload_n hx hb dL_act_0 rfl (lv_at hl 1 rfl) ?_
  refine lv_if_ne (tgt := 15) hx hb dL_act_1 (by decide) (fun _ => ?_) (fun c9 => absurd c9 (by decide))
  refine lv_iload_n hx hb dL_act_15 rfl (lv_at hl 1 rfl) ?_
  refine lv_iconst (v := 1) hx hb dL_act_16 (by decide) ?_
  refine lv_icmp_ne (tgt := 29) hx hb dL_act_17 (by decide) (fun _ => ?_) (fun c9 => absurd c9 (by decide))
  refine lv_iload_n hx hb dL_act_29 rfl (lv_at hl 1 rfl) ?_
  refine lv_iconst (v := 2) hx hb dL_act_30 (by decide) ?_
  refine lv_icmp_ne (tgt := 45) hx hb dL_act_31 (by decide) (fun _ => ?_) (fun c9 => absurd c9 (by decide))
  refine lv_iload_n hx hb dL_act_45 rfl (lv_at hl 1 rfl) ?_
  refine lv_iconst (v := 3) hx hb dL_act_46 (by decide) ?_
  refine lv_icmp_ne (tgt := 59) hx hb dL_act_47 (by decide) (fun _ => ?_) (fun c9 => absurd c9 (by decide))
  refine lv_iload_n hx hb dL_act_59 rfl (lv_at hl 1 rfl) ?_
  refine lv_iconst (v := 4) hx hb dL_act_60 (by decide) ?_
  refine lv_icmp_ne (tgt := 73) hx hb dL_act_61 (by decide) (fun c9 => absurd (by decide) c9) (fun _ => ?_)
  refine lv_aload_n hx hb dL_act_64 rfl (lv_at hl 0 rfl) ?_
  refine lv_iload_n hx hb dL_act_65 rfl (lv_at hl 2 rfl) ?_
  refine lv_iload_n hx hb dL_act_66 rfl (lv_at hl 3 rfl) ?_
  refine vx_calli (vx_runV (As := [.int p1, .int p2]) (rest := []) ⟨hx, hb, hml, hown, hts⟩ (t_X2_removeRow l hlt D cyI cyZ ad zb zo zt zm zu zr zl zf p1 p2 (by rw [hx9]; decide)) (cwV 2 hts gL_act_X2_removeRow rfl rfl rfl (by decide +kernel) ⟨Nat.le_of_ble_eq_true rfl, Nat.le_of_ble_eq_true rfl⟩) (ptV hG (hz.kept va_S.rf) hP (ci := 2) rfl rfl rfl) rfl rfl hl.1 rfl (lv_room (Nat.le_of_ble_eq_true rfl)) dL_act_67 ⟨Nat.le_of_ble_eq_true rfl, Nat.le_of_ble_eq_true rfl⟩) hS (fun _ _ h => h.elim) (fun _ h => h.elim) (fun _ _ h => h.elim) (fun E ce q9 u t H1 locs1 ht _ _ hE _ hk1 hS1 hce hcv hcl => ?_) (fun r u t H1 locs1 ht hvm h hb9 hz1 hk1 hS1 => h.elim)
  obtain rfl : E = "java/lang/IndexOutOfBoundsException" := hE.trans (by rw [hx9]; rfl)
  have hP1 : va_P D vwCl (wZ cyI cyZ ad zb zo zt zm zu zr zl zf) H1 := hP.kept (fun k q hq => hk1 q.1 (hP k q hq).lt id)
  refine vx_catch (own := RL) (name := "java/lang/IndexOutOfBoundsException") hown [] (⟨0, 288, 289, 72⟩ : ExceptionTableEntry) [(⟨0, 288, 295, 74⟩ : ExceptionTableEntry), (⟨0, 288, 301, 76⟩ : ExceptionTableEntry)] ((vx_table (x := yL_act) B (hts _ List.mem_cons_self)).trans rfl) ps_nil (by decide) (by decide) (hts (.classLink RL 72 "java/lang/IndexOutOfBoundsException") (List.mem_of_getElem? (i := 1) rfl)) (va_Nw.use rfl (hz.2.2.2.1 "java/lang/IndexOutOfBoundsException" (by decide))) hce hcv hcl ?_
  refine lv_astore (lv' := [(6, .ref q9)]) hx hb dL_act_289 (lv_sub hl [] rfl) (by decide) rfl (fun ls hl => ?_)
  refine lv_sipush (v := (-20001)) hx hb dL_act_291 (by decide) ?_
  exact W.iret (v := (-20001)) hx hb hr (fun t ht hW => ⟨⟨(-20001), (), rfl, rfl, by rw [ht]; exact hP1, hD⟩, hS1.F ht⟩) hS1.2.2 dL_act_294
set_option maxHeartbeats 4000000 in
set_option maxRecDepth 100000 in
theorem t_A5_1 (l : Launch) (hlt : l.stackTraces = false) (D : va_G) (cyI cyZ : ClassId) (ad : Nat → Nat) (zb : Tr) (zo : Tr) (zt : Tr) (zm : Tr) (zu : Nat → Int32) (zr : Nat → Int32) (zl : Lr) (zf : Int32) (p1 : Int32) (p2 : Int32) (p3 : Int32) (p4 : Int32) (A : Nat → Prop) (sz : Nat) (hAe : A = va_A (wZ cyI cyZ ad zb zo zt zm zu zr zl zf) sz) (hx9 : f_X2_set_x zb zo zt p1 p2 p3 p4 = 1) : Met l yL_act wsL_act ({ frames := 9, cells := 1, slots := 6, locals := 168 } : Room) (pcO D cyI cyZ sz [.ref (ad 0), .int 5, .int p1, .int p2, .int p3, .int p4] (wZ cyI cyZ ad zb zo zt zm zu zr zl zf)) (mI D A (wZ cyI cyZ ad zb zo zt zm zu zr zl zf) (-20001)) 1 6 A := by
  refine va_MetW (cc := cL_act) (maxL := 7) (ret := some .int) (hh := [(0, 288, 289, 72), (0, 288, 295, 74), (0, 288, 301, 76)]) (by decide) rfl ?_
  intro p e s m args below meth c s₁ B hml hv
  obtain ⟨rfl, hsz, hP, hG, ⟨hz, hn⟩, hD0⟩ := hv
  have hx := B.exec
  have hb := B.bytes
  have hr := B.returns
  have hts := atoms_spec (ws := wsL_act) B.pre
  have hown : s.vm.findClass RL = some m.cls := findClass_of_methodNamed B.named
  subst hsz
  have hD : va_D A (wZ cyI cyZ ad zb zo zt zm zu zr zl zf) := by rw [hAe]; exact hD0.self
  have hA : ∀ q : Nat, s.heap.size ≤ q → A q := fun q h => by rw [hAe]; exact Or.inr h
  clear hAe hD0
  have hz := hz.zq
  have hS : va_S A s.heap s.heap [] := va_S.rf
  have hl := lv_entry ([.ref (ad 0), .int 5, .int p1, .int p2, .int p3, .int p4]) (n := 7) (Nat.le_of_ble_eq_true rfl)
  rw [lg_entry_eq]
  generalize (lg_sl ([.ref (ad 0), .int 5, .int p1, .int p2, .int p3, .int p4]) ++ List.replicate (7 - (lg_sl ([.ref (ad 0), .int 5, .int p1, .int p2, .int p3, .int p4])).length) Slot.unset).toArray = ls at hl ⊢
  have hl : lv_has ls 7 [(0, .ref (ad 0)), (1, .int 5), (2, .int p1), (3, .int p2), (4, .int p3), (5, .int p4)] := hl
  have hP : va_P D vwCl (wZ cyI cyZ ad zb zo zt zm zu zr zl zf) s.heap := hP
  refine lv_iload_n hx hb dL_act_0 rfl (lv_at hl 1 rfl) ?_
  refine lv_if_ne (tgt := 15) hx hb dL_act_1 (by decide) (fun _ => ?_) (fun c9 => absurd c9 (by decide))
  refine lv_iload_n hx hb dL_act_15 rfl (lv_at hl 1 rfl) ?_
  refine lv_iconst (v := 1) hx hb dL_act_16 (by decide) ?_
  refine lv_icmp_ne (tgt := 29) hx hb dL_act_17 (by decide) (fun _ => ?_) (fun c9 => absurd c9 (by decide))
  refine lv_iload_n hx hb dL_act_29 rfl (lv_at hl 1 rfl) ?_
  refine lv_iconst (v := 2) hx hb dL_act_30 (by decide) ?_
  refine lv_icmp_ne (tgt := 45) hx hb dL_act_31 (by decide) (fun _ => ?_) (fun c9 => absurd c9 (by decide))
  refine lv_iload_n hx hb dL_act_45 rfl (lv_at hl 1 rfl) ?_
  refine lv_iconst (v := 3) hx hb dL_act_46 (by decide) ?_
  refine lv_icmp_ne (tgt := 59) hx hb dL_act_47 (by decide) (fun _ => ?_) (fun c9 => absurd c9 (by decide))
  refine lv_iload_n hx hb dL_act_59 rfl (lv_at hl 1 rfl) ?_
  refine lv_iconst (v := 4) hx hb dL_act_60 (by decide) ?_
  refine lv_icmp_ne (tgt := 73) hx hb dL_act_61 (by decide) (fun _ => ?_) (fun c9 => absurd c9 (by decide))
  refine lv_iload_n hx hb dL_act_73 rfl (lv_at hl 1 rfl) ?_
  refine lv_iconst (v := 5) hx hb dL_act_74 (by decide) ?_
  refine lv_icmp_ne (tgt := 91) hx hb dL_act_75 (by decide) (fun c9 => absurd (by decide) c9) (fun _ => ?_)
  refine lv_aload_n hx hb dL_act_78 rfl (lv_at hl 0 rfl) ?_
  refine lv_iload_n hx hb dL_act_79 rfl (lv_at hl 2 rfl) ?_
  refine lv_iload_n hx hb dL_act_80 rfl (lv_at hl 3 rfl) ?_
  refine lv_iload hx hb dL_act_81 (lv_at hl 4 rfl) ?_
  refine lv_iload hx hb dL_act_83 (lv_at hl 5 rfl) ?_
  refine vx_calli (vx_runV (As := [.int p1, .int p2, .int p3, .int p4]) (rest := []) ⟨hx, hb, hml, hown, hts⟩ (t_X2_set l hlt D cyI cyZ ad zb zo zt zm zu zr zl zf p1 p2 p3 p4 (by rw [hx9]; decide)) (cwV 4 hts gL_act_X2_set rfl rfl rfl (by decide +kernel) ⟨Nat.le_of_ble_eq_true rfl, Nat.le_of_ble_eq_true rfl⟩) (ptV hG (hz.kept va_S.rf) hP (ci := 2) rfl rfl rfl) rfl rfl hl.1 rfl (lv_room (Nat.le_of_ble_eq_true rfl)) dL_act_85 ⟨Nat.le_of_ble_eq_true rfl, Nat.le_of_ble_eq_true rfl⟩) hS (fun _ _ h => h.elim) (fun _ h => h.elim) (fun _ _ h => h.elim) (fun E ce q9 u t H1 locs1 ht _ _ hE _ hk1 hS1 hce hcv hcl => ?_) (fun r u t H1 locs1 ht hvm h hb9 hz1 hk1 hS1 => h.elim)
  obtain rfl : E = "java/lang/IndexOutOfBoundsException" := hE.trans (by rw [hx9]; rfl)
  have hP1 : va_P D vwCl (wZ cyI cyZ ad zb zo zt zm zu zr zl zf) H1 := hP.kept (fun k q hq => hk1 q.1 (hP k q hq).lt id)
  refine vx_catch (own := RL) (name := "java/lang/IndexOutOfBoundsException") hown [] (⟨0, 288, 289, 72⟩ : ExceptionTableEntry) [(⟨0, 288, 295, 74⟩ : ExceptionTableEntry), (⟨0, 288, 301, 76⟩ : ExceptionTableEntry)] ((vx_table (x := yL_act) B (hts _ List.mem_cons_self)).trans rfl) ps_nil (by decide) (by decide) (hts (.classLink RL 72 "java/lang/IndexOutOfBoundsException") (List.mem_of_getElem? (i := 1) rfl)) (va_Nw.use rfl (hz.2.2.2.1 "java/lang/IndexOutOfBoundsException" (by decide))) hce hcv hcl ?_
  refine lv_astore (lv' := [(6, .ref q9)]) hx hb dL_act_289 (lv_sub hl [] rfl) (by decide) rfl (fun ls hl => ?_)
  refine lv_sipush (v := (-20001)) hx hb dL_act_291 (by decide) ?_
  exact W.iret (v := (-20001)) hx hb hr (fun t ht hW => ⟨⟨(-20001), (), rfl, rfl, by rw [ht]; exact hP1, hD⟩, hS1.F ht⟩) hS1.2.2 dL_act_294
set_option maxHeartbeats 4000000 in
set_option maxRecDepth 100000 in
theorem t_A5_2 (l : Launch) (hlt : l.stackTraces = false) (D : va_G) (cyI cyZ : ClassId) (ad : Nat → Nat) (zb : Tr) (zo : Tr) (zt : Tr) (zm : Tr) (zu : Nat → Int32) (zr : Nat → Int32) (zl : Lr) (zf : Int32) (p1 : Int32) (p2 : Int32) (p3 : Int32) (p4 : Int32) (A : Nat → Prop) (sz : Nat) (hAe : A = va_A (wZ cyI cyZ ad zb zo zt zm zu zr zl zf) sz) (hx9 : f_X2_set_x zb zo zt p1 p2 p3 p4 = 2) : Met l yL_act wsL_act ({ frames := 9, cells := 1, slots := 6, locals := 168 } : Room) (pcO D cyI cyZ sz [.ref (ad 0), .int 5, .int p1, .int p2, .int p3, .int p4] (wZ cyI cyZ ad zb zo zt zm zu zr zl zf)) (mI D A (wZ cyI cyZ ad zb zo zt zm zu zr zl zf) (-20002)) 1 6 A := by
  refine va_MetW (cc := cL_act) (maxL := 7) (ret := some .int) (hh := [(0, 288, 289, 72), (0, 288, 295, 74), (0, 288, 301, 76)]) (by decide) rfl ?_
  intro p e s m args below meth c s₁ B hml hv
  obtain ⟨rfl, hsz, hP, hG, ⟨hz, hn⟩, hD0⟩ := hv
  have hx := B.exec
  have hb := B.bytes
  have hr := B.returns
  have hts := atoms_spec (ws := wsL_act) B.pre
  have hown : s.vm.findClass RL = some m.cls := findClass_of_methodNamed B.named
  subst hsz
  have hD : va_D A (wZ cyI cyZ ad zb zo zt zm zu zr zl zf) := by rw [hAe]; exact hD0.self
  have hA : ∀ q : Nat, s.heap.size ≤ q → A q := fun q h => by rw [hAe]; exact Or.inr h
  clear hAe hD0
  have hz := hz.zq
  have hS : va_S A s.heap s.heap [] := va_S.rf
  have hl := lv_entry ([.ref (ad 0), .int 5, .int p1, .int p2, .int p3, .int p4]) (n := 7) (Nat.le_of_ble_eq_true rfl)
  rw [lg_entry_eq]
  generalize (lg_sl ([.ref (ad 0), .int 5, .int p1, .int p2, .int p3, .int p4]) ++ List.replicate (7 - (lg_sl ([.ref (ad 0), .int 5, .int p1, .int p2, .int p3, .int p4])).length) Slot.unset).toArray = ls at hl ⊢
  have hl : lv_has ls 7 [(0, .ref (ad 0)), (1, .int 5), (2, .int p1), (3, .int p2), (4, .int p3), (5, .int p4)] := hl
  have hP : va_P D vwCl (wZ cyI cyZ ad zb zo zt zm zu zr zl zf) s.heap := hP
  refine lv_iload_n hx hb dL_act_0 rfl (lv_at hl 1 rfl) ?_
  refine lv_if_ne (tgt := 15) hx hb dL_act_1 (by decide) (fun _ => ?_) (fun c9 => absurd c9 (by decide))
  refine lv_iload_n hx hb dL_act_15 rfl (lv_at hl 1 rfl) ?_
  refine lv_iconst (v := 1) hx hb dL_act_16 (by decide) ?_
  refine lv_icmp_ne (tgt := 29) hx hb dL_act_17 (by decide) (fun _ => ?_) (fun c9 => absurd c9 (by decide))
  refine lv_iload_n hx hb dL_act_29 rfl (lv_at hl 1 rfl) ?_
  refine lv_iconst (v := 2) hx hb dL_act_30 (by decide) ?_
  refine lv_icmp_ne (tgt := 45) hx hb dL_act_31 (by decide) (fun _ => ?_) (fun c9 => absurd c9 (by decide))
  refine lv_iload_n hx hb dL_act_45 rfl (lv_at hl 1 rfl) ?_
  refine lv_iconst (v := 3) hx hb dL_act_46 (by decide) ?_
  refine lv_icmp_ne (tgt := 59) hx hb dL_act_47 (by decide) (fun _ => ?_) (fun c9 => absurd c9 (by decide))
  refine lv_iload_n hx hb dL_act_59 rfl (lv_at hl 1 rfl) ?_
  refine lv_iconst (v := 4) hx hb dL_act_60 (by decide) ?_
  refine lv_icmp_ne (tgt := 73) hx hb dL_act_61 (by decide) (fun _ => ?_) (fun c9 => absurd c9 (by decide))
  refine lv_iload_n hx hb dL_act_73 rfl (lv_at hl 1 rfl) ?_
  refine lv_iconst (v := 5) hx hb dL_act_74 (by decide) ?_
  refine lv_icmp_ne (tgt := 91) hx hb dL_act_75 (by decide) (fun c9 => absurd (by decide) c9) (fun _ => ?_)
  refine lv_aload_n hx hb dL_act_78 rfl (lv_at hl 0 rfl) ?_
  refine lv_iload_n hx hb dL_act_79 rfl (lv_at hl 2 rfl) ?_
  refine lv_iload_n hx hb dL_act_80 rfl (lv_at hl 3 rfl) ?_
  refine lv_iload hx hb dL_act_81 (lv_at hl 4 rfl) ?_
  refine lv_iload hx hb dL_act_83 (lv_at hl 5 rfl) ?_
  refine vx_calli (vx_runV (As := [.int p1, .int p2, .int p3, .int p4]) (rest := []) ⟨hx, hb, hml, hown, hts⟩ (t_X2_set l hlt D cyI cyZ ad zb zo zt zm zu zr zl zf p1 p2 p3 p4 (by rw [hx9]; decide)) (cwV 4 hts gL_act_X2_set rfl rfl rfl (by decide +kernel) ⟨Nat.le_of_ble_eq_true rfl, Nat.le_of_ble_eq_true rfl⟩) (ptV hG (hz.kept va_S.rf) hP (ci := 2) rfl rfl rfl) rfl rfl hl.1 rfl (lv_room (Nat.le_of_ble_eq_true rfl)) dL_act_85 ⟨Nat.le_of_ble_eq_true rfl, Nat.le_of_ble_eq_true rfl⟩) hS (fun _ _ h => h.elim) (fun _ h => h.elim) (fun _ _ h => h.elim) (fun E ce q9 u t H1 locs1 ht _ _ hE _ hk1 hS1 hce hcv hcl => ?_) (fun r u t H1 locs1 ht hvm h hb9 hz1 hk1 hS1 => h.elim)
  obtain rfl : E = "java/lang/IllegalArgumentException" := hE.trans (by rw [hx9]; rfl)
  have hP1 : va_P D vwCl (wZ cyI cyZ ad zb zo zt zm zu zr zl zf) H1 := hP.kept (fun k q hq => hk1 q.1 (hP k q hq).lt id)
  refine vx_catch (own := RL) (name := "java/lang/IllegalArgumentException") hown [(⟨0, 288, 289, 72⟩ : ExceptionTableEntry)] (⟨0, 288, 295, 74⟩ : ExceptionTableEntry) [(⟨0, 288, 301, 76⟩ : ExceptionTableEntry)] ((vx_table (x := yL_act) B (hts _ List.mem_cons_self)).trans rfl) (ps_cons (Or.inr ⟨by decide, "java/lang/IndexOutOfBoundsException", (hts (.classLink RL 72 "java/lang/IndexOutOfBoundsException") (List.mem_of_getElem? (i := 1) rfl)), hn.1⟩) ps_nil) (by decide) (by decide) (hts (.classLink RL 74 "java/lang/IllegalArgumentException") (List.mem_of_getElem? (i := 2) rfl)) (va_Nw.use rfl (hz.2.2.2.1 "java/lang/IllegalArgumentException" (by decide))) hce hcv hcl ?_
  refine lv_astore (lv' := [(6, .ref q9)]) hx hb dL_act_295 (lv_sub hl [] rfl) (by decide) rfl (fun ls hl => ?_)
  refine lv_sipush (v := (-20002)) hx hb dL_act_297 (by decide) ?_
  exact W.iret (v := (-20002)) hx hb hr (fun t ht hW => ⟨⟨(-20002), (), rfl, rfl, by rw [ht]; exact hP1, hD⟩, hS1.F ht⟩) hS1.2.2 dL_act_300
set_option maxHeartbeats 4000000 in
set_option maxRecDepth 100000 in
theorem t_A6_1 (l : Launch) (hlt : l.stackTraces = false) (D : va_G) (cyI cyZ : ClassId) (ad : Nat → Nat) (zb : Tr) (zo : Tr) (zt : Tr) (zm : Tr) (zu : Nat → Int32) (zr : Nat → Int32) (zl : Lr) (zf : Int32) (p1 : Int32) (p2 : Int32) (p3 : Int32) (p4 : Int32) (A : Nat → Prop) (sz : Nat) (hAe : A = va_A (wZ cyI cyZ ad zb zo zt zm zu zr zl zf) sz) (hx9 : f_X2_setRule_x p1 p2 = 1) : Met l yL_act wsL_act ({ frames := 8, cells := 1, slots := 6, locals := 143 } : Room) (pcO D cyI cyZ sz [.ref (ad 0), .int 6, .int p1, .int p2, .int p3, .int p4] (wZ cyI cyZ ad zb zo zt zm zu zr zl zf)) (mI D A (wZ cyI cyZ ad zb zo zt zm zu zr zl zf) (-20001)) 1 6 A := by
  refine va_MetW (cc := cL_act) (maxL := 7) (ret := some .int) (hh := [(0, 288, 289, 72), (0, 288, 295, 74), (0, 288, 301, 76)]) (by decide) rfl ?_
  intro p e s m args below meth c s₁ B hml hv
  obtain ⟨rfl, hsz, hP, hG, ⟨hz, hn⟩, hD0⟩ := hv
  have hx := B.exec
  have hb := B.bytes
  have hr := B.returns
  have hts := atoms_spec (ws := wsL_act) B.pre
  have hown : s.vm.findClass RL = some m.cls := findClass_of_methodNamed B.named
  subst hsz
  have hD : va_D A (wZ cyI cyZ ad zb zo zt zm zu zr zl zf) := by rw [hAe]; exact hD0.self
  have hA : ∀ q : Nat, s.heap.size ≤ q → A q := fun q h => by rw [hAe]; exact Or.inr h
  clear hAe hD0
  have hz := hz.zq
  have hS : va_S A s.heap s.heap [] := va_S.rf
  have hl := lv_entry ([.ref (ad 0), .int 6, .int p1, .int p2, .int p3, .int p4]) (n := 7) (Nat.le_of_ble_eq_true rfl)
  rw [lg_entry_eq]
  generalize (lg_sl ([.ref (ad 0), .int 6, .int p1, .int p2, .int p3, .int p4]) ++ List.replicate (7 - (lg_sl ([.ref (ad 0), .int 6, .int p1, .int p2, .int p3, .int p4])).length) Slot.unset).toArray = ls at hl ⊢
  have hl : lv_has ls 7 [(0, .ref (ad 0)), (1, .int 6), (2, .int p1), (3, .int p2), (4, .int p3), (5, .int p4)] := hl
  have hP : va_P D vwCl (wZ cyI cyZ ad zb zo zt zm zu zr zl zf) s.heap := hP
  refine lv_iload_n hx hb dL_act_0 rfl (lv_at hl 1 rfl) ?_
  refine lv_if_ne (tgt := 15) hx hb dL_act_1 (by decide) (fun _ => ?_) (fun c9 => absurd c9 (by decide))
  refine lv_iload_n hx hb dL_act_15 rfl (lv_at hl 1 rfl) ?_
  refine lv_iconst (v := 1) hx hb dL_act_16 (by decide) ?_
  refine lv_icmp_ne (tgt := 29) hx hb dL_act_17 (by decide) (fun _ => ?_) (fun c9 => absurd c9 (by decide))
  refine lv_iload_n hx hb dL_act_29 rfl (lv_at hl 1 rfl) ?_
  refine lv_iconst (v := 2) hx hb dL_act_30 (by decide) ?_
  refine lv_icmp_ne (tgt := 45) hx hb dL_act_31 (by decide) (fun _ => ?_) (fun c9 => absurd c9 (by decide))
  refine lv_iload_n hx hb dL_act_45 rfl (lv_at hl 1 rfl) ?_
  refine lv_iconst (v := 3) hx hb dL_act_46 (by decide) ?_
  refine lv_icmp_ne (tgt := 59) hx hb dL_act_47 (by decide) (fun _ => ?_) (fun c9 => absurd c9 (by decide))
  refine lv_iload_n hx hb dL_act_59 rfl (lv_at hl 1 rfl) ?_
  refine lv_iconst (v := 4) hx hb dL_act_60 (by decide) ?_
  refine lv_icmp_ne (tgt := 73) hx hb dL_act_61 (by decide) (fun _ => ?_) (fun c9 => absurd c9 (by decide))
  refine lv_iload_n hx hb dL_act_73 rfl (lv_at hl 1 rfl) ?_
  refine lv_iconst (v := 5) hx hb dL_act_74 (by decide) ?_
  refine lv_icmp_ne (tgt := 91) hx hb dL_act_75 (by decide) (fun _ => ?_) (fun c9 => absurd c9 (by decide))
  refine lv_iload_n hx hb dL_act_91 rfl (lv_at hl 1 rfl) ?_
  refine lv_bipush (v := 6) hx hb dL_act_92 (by decide) ?_
  refine lv_icmp_ne (tgt := 106) hx hb dL_act_94 (by decide) (fun c9 => absurd (by decide) c9) (fun _ => ?_)
  refine lv_aload_n hx hb dL_act_97 rfl (lv_at hl 0 rfl) ?_
  refine lv_iload_n hx hb dL_act_98 rfl (lv_at hl 2 rfl) ?_
  refine lv_iload_n hx hb dL_act_99 rfl (lv_at hl 3 rfl) ?_
  refine vx_calli (vx_runV (As := [.int p1, .int p2]) (rest := []) ⟨hx, hb, hml, hown, hts⟩ (t_X2_setRule l hlt D cyI cyZ ad zb zo zt zm zu zr zl zf p1 p2 (by rw [hx9]; decide)) (cwV 2 hts gL_act_X2_setRule rfl rfl rfl (by decide +kernel) ⟨Nat.le_of_ble_eq_true rfl, Nat.le_of_ble_eq_true rfl⟩) (ptV hG (hz.kept va_S.rf) hP (ci := 2) rfl rfl rfl) rfl rfl hl.1 rfl (lv_room (Nat.le_of_ble_eq_true rfl)) dL_act_100 ⟨Nat.le_of_ble_eq_true rfl, Nat.le_of_ble_eq_true rfl⟩) hS (fun _ _ h => h.elim) (fun _ h => h.elim) (fun _ _ h => h.elim) (fun E ce q9 u t H1 locs1 ht _ _ hE _ hk1 hS1 hce hcv hcl => ?_) (fun r u t H1 locs1 ht hvm h hb9 hz1 hk1 hS1 => h.elim)
  obtain rfl : E = "java/lang/IndexOutOfBoundsException" := hE.trans (by rw [hx9]; rfl)
  have hP1 : va_P D vwCl (wZ cyI cyZ ad zb zo zt zm zu zr zl zf) H1 := hP.kept (fun k q hq => hk1 q.1 (hP k q hq).lt id)
  refine vx_catch (own := RL) (name := "java/lang/IndexOutOfBoundsException") hown [] (⟨0, 288, 289, 72⟩ : ExceptionTableEntry) [(⟨0, 288, 295, 74⟩ : ExceptionTableEntry), (⟨0, 288, 301, 76⟩ : ExceptionTableEntry)] ((vx_table (x := yL_act) B (hts _ List.mem_cons_self)).trans rfl) ps_nil (by decide) (by decide) (hts (.classLink RL 72 "java/lang/IndexOutOfBoundsException") (List.mem_of_getElem? (i := 1) rfl)) (va_Nw.use rfl (hz.2.2.2.1 "java/lang/IndexOutOfBoundsException" (by decide))) hce hcv hcl ?_
  refine lv_astore (lv' := [(6, .ref q9)]) hx hb dL_act_289 (lv_sub hl [] rfl) (by decide) rfl (fun ls hl => ?_)
  refine lv_sipush (v := (-20001)) hx hb dL_act_291 (by decide) ?_
  exact W.iret (v := (-20001)) hx hb hr (fun t ht hW => ⟨⟨(-20001), (), rfl, rfl, by rw [ht]; exact hP1, hD⟩, hS1.F ht⟩) hS1.2.2 dL_act_294
set_option maxHeartbeats 4000000 in
set_option maxRecDepth 100000 in
theorem t_A6_2 (l : Launch) (hlt : l.stackTraces = false) (D : va_G) (cyI cyZ : ClassId) (ad : Nat → Nat) (zb : Tr) (zo : Tr) (zt : Tr) (zm : Tr) (zu : Nat → Int32) (zr : Nat → Int32) (zl : Lr) (zf : Int32) (p1 : Int32) (p2 : Int32) (p3 : Int32) (p4 : Int32) (A : Nat → Prop) (sz : Nat) (hAe : A = va_A (wZ cyI cyZ ad zb zo zt zm zu zr zl zf) sz) (hx9 : f_X2_setRule_x p1 p2 = 2) : Met l yL_act wsL_act ({ frames := 8, cells := 1, slots := 6, locals := 143 } : Room) (pcO D cyI cyZ sz [.ref (ad 0), .int 6, .int p1, .int p2, .int p3, .int p4] (wZ cyI cyZ ad zb zo zt zm zu zr zl zf)) (mI D A (wZ cyI cyZ ad zb zo zt zm zu zr zl zf) (-20002)) 1 6 A := by
  refine va_MetW (cc := cL_act) (maxL := 7) (ret := some .int) (hh := [(0, 288, 289, 72), (0, 288, 295, 74), (0, 288, 301, 76)]) (by decide) rfl ?_
  intro p e s m args below meth c s₁ B hml hv
  obtain ⟨rfl, hsz, hP, hG, ⟨hz, hn⟩, hD0⟩ := hv
  have hx := B.exec
  have hb := B.bytes
  have hr := B.returns
  have hts := atoms_spec (ws := wsL_act) B.pre
  have hown : s.vm.findClass RL = some m.cls := findClass_of_methodNamed B.named
  subst hsz
  have hD : va_D A (wZ cyI cyZ ad zb zo zt zm zu zr zl zf) := by rw [hAe]; exact hD0.self
  have hA : ∀ q : Nat, s.heap.size ≤ q → A q := fun q h => by rw [hAe]; exact Or.inr h
  clear hAe hD0
  have hz := hz.zq
  have hS : va_S A s.heap s.heap [] := va_S.rf
  have hl := lv_entry ([.ref (ad 0), .int 6, .int p1, .int p2, .int p3, .int p4]) (n := 7) (Nat.le_of_ble_eq_true rfl)
  rw [lg_entry_eq]
  generalize (lg_sl ([.ref (ad 0), .int 6, .int p1, .int p2, .int p3, .int p4]) ++ List.replicate (7 - (lg_sl ([.ref (ad 0), .int 6, .int p1, .int p2, .int p3, .int p4])).length) Slot.unset).toArray = ls at hl ⊢
  have hl : lv_has ls 7 [(0, .ref (ad 0)), (1, .int 6), (2, .int p1), (3, .int p2), (4, .int p3), (5, .int p4)] := hl
  have hP : va_P D vwCl (wZ cyI cyZ ad zb zo zt zm zu zr zl zf) s.heap := hP
  refine lv_iload_n hx hb dL_act_0 rfl (lv_at hl 1 rfl) ?_
  refine lv_if_ne (tgt := 15) hx hb dL_act_1 (by decide) (fun _ => ?_) (fun c9 => absurd c9 (by decide))
  refine lv_iload_n hx hb dL_act_15 rfl (lv_at hl 1 rfl) ?_
  refine lv_iconst (v := 1) hx hb dL_act_16 (by decide) ?_
  refine lv_icmp_ne (tgt := 29) hx hb dL_act_17 (by decide) (fun _ => ?_) (fun c9 => absurd c9 (by decide))
  refine lv_iload_n hx hb dL_act_29 rfl (lv_at hl 1 rfl) ?_
  refine lv_iconst (v := 2) hx hb dL_act_30 (by decide) ?_
  refine lv_icmp_ne (tgt := 45) hx hb dL_act_31 (by decide) (fun _ => ?_) (fun c9 => absurd c9 (by decide))
  refine lv_iload_n hx hb dL_act_45 rfl (lv_at hl 1 rfl) ?_
  refine lv_iconst (v := 3) hx hb dL_act_46 (by decide) ?_
  refine lv_icmp_ne (tgt := 59) hx hb dL_act_47 (by decide) (fun _ => ?_) (fun c9 => absurd c9 (by decide))
  refine lv_iload_n hx hb dL_act_59 rfl (lv_at hl 1 rfl) ?_
  refine lv_iconst (v := 4) hx hb dL_act_60 (by decide) ?_
  refine lv_icmp_ne (tgt := 73) hx hb dL_act_61 (by decide) (fun _ => ?_) (fun c9 => absurd c9 (by decide))
  refine lv_iload_n hx hb dL_act_73 rfl (lv_at hl 1 rfl) ?_
  refine lv_iconst (v := 5) hx hb dL_act_74 (by decide) ?_
  refine lv_icmp_ne (tgt := 91) hx hb dL_act_75 (by decide) (fun _ => ?_) (fun c9 => absurd c9 (by decide))
  refine lv_iload_n hx hb dL_act_91 rfl (lv_at hl 1 rfl) ?_
  refine lv_bipush (v := 6) hx hb dL_act_92 (by decide) ?_
  refine lv_icmp_ne (tgt := 106) hx hb dL_act_94 (by decide) (fun c9 => absurd (by decide) c9) (fun _ => ?_)
  refine lv_aload_n hx hb dL_act_97 rfl (lv_at hl 0 rfl) ?_
  refine lv_iload_n hx hb dL_act_98 rfl (lv_at hl 2 rfl) ?_
  refine lv_iload_n hx hb dL_act_99 rfl (lv_at hl 3 rfl) ?_
  refine vx_calli (vx_runV (As := [.int p1, .int p2]) (rest := []) ⟨hx, hb, hml, hown, hts⟩ (t_X2_setRule l hlt D cyI cyZ ad zb zo zt zm zu zr zl zf p1 p2 (by rw [hx9]; decide)) (cwV 2 hts gL_act_X2_setRule rfl rfl rfl (by decide +kernel) ⟨Nat.le_of_ble_eq_true rfl, Nat.le_of_ble_eq_true rfl⟩) (ptV hG (hz.kept va_S.rf) hP (ci := 2) rfl rfl rfl) rfl rfl hl.1 rfl (lv_room (Nat.le_of_ble_eq_true rfl)) dL_act_100 ⟨Nat.le_of_ble_eq_true rfl, Nat.le_of_ble_eq_true rfl⟩) hS (fun _ _ h => h.elim) (fun _ h => h.elim) (fun _ _ h => h.elim) (fun E ce q9 u t H1 locs1 ht _ _ hE _ hk1 hS1 hce hcv hcl => ?_) (fun r u t H1 locs1 ht hvm h hb9 hz1 hk1 hS1 => h.elim)
  obtain rfl : E = "java/lang/IllegalArgumentException" := hE.trans (by rw [hx9]; rfl)
  have hP1 : va_P D vwCl (wZ cyI cyZ ad zb zo zt zm zu zr zl zf) H1 := hP.kept (fun k q hq => hk1 q.1 (hP k q hq).lt id)
  refine vx_catch (own := RL) (name := "java/lang/IllegalArgumentException") hown [(⟨0, 288, 289, 72⟩ : ExceptionTableEntry)] (⟨0, 288, 295, 74⟩ : ExceptionTableEntry) [(⟨0, 288, 301, 76⟩ : ExceptionTableEntry)] ((vx_table (x := yL_act) B (hts _ List.mem_cons_self)).trans rfl) (ps_cons (Or.inr ⟨by decide, "java/lang/IndexOutOfBoundsException", (hts (.classLink RL 72 "java/lang/IndexOutOfBoundsException") (List.mem_of_getElem? (i := 1) rfl)), hn.1⟩) ps_nil) (by decide) (by decide) (hts (.classLink RL 74 "java/lang/IllegalArgumentException") (List.mem_of_getElem? (i := 2) rfl)) (va_Nw.use rfl (hz.2.2.2.1 "java/lang/IllegalArgumentException" (by decide))) hce hcv hcl ?_
  refine lv_astore (lv' := [(6, .ref q9)]) hx hb dL_act_295 (lv_sub hl [] rfl) (by decide) rfl (fun ls hl => ?_)
  refine lv_sipush (v := (-20002)) hx hb dL_act_297 (by decide) ?_
  exact W.iret (v := (-20002)) hx hb hr (fun t ht hW => ⟨⟨(-20002), (), rfl, rfl, by rw [ht]; exact hP1, hD⟩, hS1.F ht⟩) hS1.2.2 dL_act_300
set_option maxHeartbeats 4000000 in
set_option maxRecDepth 100000 in
theorem t_A7_1 (l : Launch) (hlt : l.stackTraces = false) (D : va_G) (cyI cyZ : ClassId) (ad : Nat → Nat) (zb : Tr) (zo : Tr) (zt : Tr) (zm : Tr) (zu : Nat → Int32) (zr : Nat → Int32) (zl : Lr) (zf : Int32) (p1 : Int32) (p3 : Int32) (p4 : Int32) (A : Nat → Prop) (sz : Nat) (hAe : A = va_A (wZ cyI cyZ ad zb zo zt zm zu zr zl zf) sz) (hx9 : f_X2_setReference_x p1 = 1) : Met l yL_act wsL_act ({ frames := 8, cells := 1, slots := 6, locals := 143 } : Room) (pcO D cyI cyZ sz [.ref (ad 0), .int 7, .int p1, .int 1, .int p3, .int p4] (wZ cyI cyZ ad zb zo zt zm zu zr zl zf)) (mI D A (wZ cyI cyZ ad zb zo zt zm zu zr zl zf) (-20001)) 1 6 A := by
  refine va_MetW (cc := cL_act) (maxL := 7) (ret := some .int) (hh := [(0, 288, 289, 72), (0, 288, 295, 74), (0, 288, 301, 76)]) (by decide) rfl ?_
  intro p e s m args below meth c s₁ B hml hv
  obtain ⟨rfl, hsz, hP, hG, ⟨hz, hn⟩, hD0⟩ := hv
  have hx := B.exec
  have hb := B.bytes
  have hr := B.returns
  have hts := atoms_spec (ws := wsL_act) B.pre
  have hown : s.vm.findClass RL = some m.cls := findClass_of_methodNamed B.named
  subst hsz
  have hD : va_D A (wZ cyI cyZ ad zb zo zt zm zu zr zl zf) := by rw [hAe]; exact hD0.self
  have hA : ∀ q : Nat, s.heap.size ≤ q → A q := fun q h => by rw [hAe]; exact Or.inr h
  clear hAe hD0
  have hz := hz.zq
  have hS : va_S A s.heap s.heap [] := va_S.rf
  have hl := lv_entry ([.ref (ad 0), .int 7, .int p1, .int 1, .int p3, .int p4]) (n := 7) (Nat.le_of_ble_eq_true rfl)
  rw [lg_entry_eq]
  generalize (lg_sl ([.ref (ad 0), .int 7, .int p1, .int 1, .int p3, .int p4]) ++ List.replicate (7 - (lg_sl ([.ref (ad 0), .int 7, .int p1, .int 1, .int p3, .int p4])).length) Slot.unset).toArray = ls at hl ⊢
  have hl : lv_has ls 7 [(0, .ref (ad 0)), (1, .int 7), (2, .int p1), (3, .int 1), (4, .int p3), (5, .int p4)] := hl
  have hP : va_P D vwCl (wZ cyI cyZ ad zb zo zt zm zu zr zl zf) s.heap := hP
  refine lv_iload_n hx hb dL_act_0 rfl (lv_at hl 1 rfl) ?_
  refine lv_if_ne (tgt := 15) hx hb dL_act_1 (by decide) (fun _ => ?_) (fun c9 => absurd c9 (by decide))
  refine lv_iload_n hx hb dL_act_15 rfl (lv_at hl 1 rfl) ?_
  refine lv_iconst (v := 1) hx hb dL_act_16 (by decide) ?_
  refine lv_icmp_ne (tgt := 29) hx hb dL_act_17 (by decide) (fun _ => ?_) (fun c9 => absurd c9 (by decide))
  refine lv_iload_n hx hb dL_act_29 rfl (lv_at hl 1 rfl) ?_
  refine lv_iconst (v := 2) hx hb dL_act_30 (by decide) ?_
  refine lv_icmp_ne (tgt := 45) hx hb dL_act_31 (by decide) (fun _ => ?_) (fun c9 => absurd c9 (by decide))
  refine lv_iload_n hx hb dL_act_45 rfl (lv_at hl 1 rfl) ?_
  refine lv_iconst (v := 3) hx hb dL_act_46 (by decide) ?_
  refine lv_icmp_ne (tgt := 59) hx hb dL_act_47 (by decide) (fun _ => ?_) (fun c9 => absurd c9 (by decide))
  refine lv_iload_n hx hb dL_act_59 rfl (lv_at hl 1 rfl) ?_
  refine lv_iconst (v := 4) hx hb dL_act_60 (by decide) ?_
  refine lv_icmp_ne (tgt := 73) hx hb dL_act_61 (by decide) (fun _ => ?_) (fun c9 => absurd c9 (by decide))
  refine lv_iload_n hx hb dL_act_73 rfl (lv_at hl 1 rfl) ?_
  refine lv_iconst (v := 5) hx hb dL_act_74 (by decide) ?_
  refine lv_icmp_ne (tgt := 91) hx hb dL_act_75 (by decide) (fun _ => ?_) (fun c9 => absurd c9 (by decide))
  refine lv_iload_n hx hb dL_act_91 rfl (lv_at hl 1 rfl) ?_
  refine lv_bipush (v := 6) hx hb dL_act_92 (by decide) ?_
  refine lv_icmp_ne (tgt := 106) hx hb dL_act_94 (by decide) (fun _ => ?_) (fun c9 => absurd c9 (by decide))
  refine lv_iload_n hx hb dL_act_106 rfl (lv_at hl 1 rfl) ?_
  refine lv_bipush (v := 7) hx hb dL_act_107 (by decide) ?_
  refine lv_icmp_ne (tgt := 138) hx hb dL_act_109 (by decide) (fun c9 => absurd (by decide) c9) (fun _ => ?_)
  refine lv_aload_n hx hb dL_act_112 rfl (lv_at hl 0 rfl) ?_
  refine lv_iload_n hx hb dL_act_113 rfl (lv_at hl 2 rfl) ?_
  refine lv_iload_n hx hb dL_act_114 rfl (lv_at hl 3 rfl) ?_
  refine lv_iconst (v := 1) hx hb dL_act_115 (by decide) ?_
  refine lv_icmp_ne (tgt := 123) hx hb dL_act_116 (by decide) (fun c9 => absurd (by decide) c9) (fun _ => ?_)
  refine lv_iconst (v := 1) hx hb dL_act_119 (by decide) ?_
  refine lv_goto (tgt := 124) hx hb dL_act_120 (by decide) ?_
  refine vx_calli (vx_runV (As := [.int p1, .int 1]) (rest := []) ⟨hx, hb, hml, hown, hts⟩ (t_X2_setReference l hlt D cyI cyZ ad zb zo zt zm zu zr zl zf p1 1 (Or.inr rfl) (by rw [hx9]; decide)) (cwV 2 hts gL_act_X2_setReference rfl rfl rfl (by decide +kernel) ⟨Nat.le_of_ble_eq_true rfl, Nat.le_of_ble_eq_true rfl⟩) (ptV hG (hz.kept va_S.rf) hP (ci := 2) rfl rfl rfl) rfl rfl hl.1 rfl (lv_room (Nat.le_of_ble_eq_true rfl)) dL_act_124 ⟨Nat.le_of_ble_eq_true rfl, Nat.le_of_ble_eq_true rfl⟩) hS (fun _ _ h => h.elim) (fun _ h => h.elim) (fun _ _ h => h.elim) (fun E ce q9 u t H1 locs1 ht _ _ hE _ hk1 hS1 hce hcv hcl => ?_) (fun r u t H1 locs1 ht hvm h hb9 hz1 hk1 hS1 => h.elim)
  obtain rfl : E = "java/lang/IndexOutOfBoundsException" := hE.trans (by rw [hx9]; rfl)
  have hP1 : va_P D vwCl (wZ cyI cyZ ad zb zo zt zm zu zr zl zf) H1 := hP.kept (fun k q hq => hk1 q.1 (hP k q hq).lt id)
  refine vx_catch (own := RL) (name := "java/lang/IndexOutOfBoundsException") hown [] (⟨0, 288, 289, 72⟩ : ExceptionTableEntry) [(⟨0, 288, 295, 74⟩ : ExceptionTableEntry), (⟨0, 288, 301, 76⟩ : ExceptionTableEntry)] ((vx_table (x := yL_act) B (hts _ List.mem_cons_self)).trans rfl) ps_nil (by decide) (by decide) (hts (.classLink RL 72 "java/lang/IndexOutOfBoundsException") (List.mem_of_getElem? (i := 1) rfl)) (va_Nw.use rfl (hz.2.2.2.1 "java/lang/IndexOutOfBoundsException" (by decide))) hce hcv hcl ?_
  refine lv_astore (lv' := [(6, .ref q9)]) hx hb dL_act_289 (lv_sub hl [] rfl) (by decide) rfl (fun ls hl => ?_)
  refine lv_sipush (v := (-20001)) hx hb dL_act_291 (by decide) ?_
  exact W.iret (v := (-20001)) hx hb hr (fun t ht hW => ⟨⟨(-20001), (), rfl, rfl, by rw [ht]; exact hP1, hD⟩, hS1.F ht⟩) hS1.2.2 dL_act_294
set_option maxHeartbeats 4000000 in
set_option maxRecDepth 100000 in
theorem t_A8_1 (l : Launch) (hlt : l.stackTraces = false) (D : va_G) (cyI cyZ : ClassId) (ad : Nat → Nat) (zb : Tr) (zo : Tr) (zt : Tr) (zm : Tr) (zu : Nat → Int32) (zr : Nat → Int32) (zl : Lr) (zf : Int32) (p1 : Int32) (p2 : Int32) (p3 : Int32) (p4 : Int32) (A : Nat → Prop) (sz : Nat) (hAe : A = va_A (wZ cyI cyZ ad zb zo zt zm zu zr zl zf) sz) (hx9 : f_X2_columns_x p1 = 1) : Met l yL_act wsL_act ({ frames := 8, cells := 1, slots := 6, locals := 142 } : Room) (pcO D cyI cyZ sz [.ref (ad 0), .int 8, .int p1, .int p2, .int p3, .int p4] (wZ cyI cyZ ad zb zo zt zm zu zr zl zf)) (mI D A (wZ cyI cyZ ad zb zo zt zm zu zr zl zf) (-20001)) 1 6 A := by
  refine va_MetW (cc := cL_act) (maxL := 7) (ret := some .int) (hh := [(0, 288, 289, 72), (0, 288, 295, 74), (0, 288, 301, 76)]) (by decide) rfl ?_
  intro p e s m args below meth c s₁ B hml hv
  obtain ⟨rfl, hsz, hP, hG, ⟨hz, hn⟩, hD0⟩ := hv
  have hx := B.exec
  have hb := B.bytes
  have hr := B.returns
  have hts := atoms_spec (ws := wsL_act) B.pre
  have hown : s.vm.findClass RL = some m.cls := findClass_of_methodNamed B.named
  subst hsz
  have hD : va_D A (wZ cyI cyZ ad zb zo zt zm zu zr zl zf) := by rw [hAe]; exact hD0.self
  have hA : ∀ q : Nat, s.heap.size ≤ q → A q := fun q h => by rw [hAe]; exact Or.inr h
  clear hAe hD0
  have hz := hz.zq
  have hS : va_S A s.heap s.heap [] := va_S.rf
  have hl := lv_entry ([.ref (ad 0), .int 8, .int p1, .int p2, .int p3, .int p4]) (n := 7) (Nat.le_of_ble_eq_true rfl)
  rw [lg_entry_eq]
  generalize (lg_sl ([.ref (ad 0), .int 8, .int p1, .int p2, .int p3, .int p4]) ++ List.replicate (7 - (lg_sl ([.ref (ad 0), .int 8, .int p1, .int p2, .int p3, .int p4])).length) Slot.unset).toArray = ls at hl ⊢
  have hl : lv_has ls 7 [(0, .ref (ad 0)), (1, .int 8), (2, .int p1), (3, .int p2), (4, .int p3), (5, .int p4)] := hl
  have hP : va_P D vwCl (wZ cyI cyZ ad zb zo zt zm zu zr zl zf) s.heap := hP
  refine lv_iload_n hx hb dL_act_0 rfl (lv_at hl 1 rfl) ?_
  refine lv_if_ne (tgt := 15) hx hb dL_act_1 (by decide) (fun _ => ?_) (fun c9 => absurd c9 (by decide))
  refine lv_iload_n hx hb dL_act_15 rfl (lv_at hl 1 rfl) ?_
  refine lv_iconst (v := 1) hx hb dL_act_16 (by decide) ?_
  refine lv_icmp_ne (tgt := 29) hx hb dL_act_17 (by decide) (fun _ => ?_) (fun c9 => absurd c9 (by decide))
  refine lv_iload_n hx hb dL_act_29 rfl (lv_at hl 1 rfl) ?_
  refine lv_iconst (v := 2) hx hb dL_act_30 (by decide) ?_
  refine lv_icmp_ne (tgt := 45) hx hb dL_act_31 (by decide) (fun _ => ?_) (fun c9 => absurd c9 (by decide))
  refine lv_iload_n hx hb dL_act_45 rfl (lv_at hl 1 rfl) ?_
  refine lv_iconst (v := 3) hx hb dL_act_46 (by decide) ?_
  refine lv_icmp_ne (tgt := 59) hx hb dL_act_47 (by decide) (fun _ => ?_) (fun c9 => absurd c9 (by decide))
  refine lv_iload_n hx hb dL_act_59 rfl (lv_at hl 1 rfl) ?_
  refine lv_iconst (v := 4) hx hb dL_act_60 (by decide) ?_
  refine lv_icmp_ne (tgt := 73) hx hb dL_act_61 (by decide) (fun _ => ?_) (fun c9 => absurd c9 (by decide))
  refine lv_iload_n hx hb dL_act_73 rfl (lv_at hl 1 rfl) ?_
  refine lv_iconst (v := 5) hx hb dL_act_74 (by decide) ?_
  refine lv_icmp_ne (tgt := 91) hx hb dL_act_75 (by decide) (fun _ => ?_) (fun c9 => absurd c9 (by decide))
  refine lv_iload_n hx hb dL_act_91 rfl (lv_at hl 1 rfl) ?_
  refine lv_bipush (v := 6) hx hb dL_act_92 (by decide) ?_
  refine lv_icmp_ne (tgt := 106) hx hb dL_act_94 (by decide) (fun _ => ?_) (fun c9 => absurd c9 (by decide))
  refine lv_iload_n hx hb dL_act_106 rfl (lv_at hl 1 rfl) ?_
  refine lv_bipush (v := 7) hx hb dL_act_107 (by decide) ?_
  refine lv_icmp_ne (tgt := 138) hx hb dL_act_109 (by decide) (fun _ => ?_) (fun c9 => absurd c9 (by decide))
  refine lv_iload_n hx hb dL_act_138 rfl (lv_at hl 1 rfl) ?_
  refine lv_bipush (v := 8) hx hb dL_act_139 (by decide) ?_
  refine lv_icmp_ne (tgt := 152) hx hb dL_act_141 (by decide) (fun c9 => absurd (by decide) c9) (fun _ => ?_)
  refine lv_aload_n hx hb dL_act_144 rfl (lv_at hl 0 rfl) ?_
  refine lv_iload_n hx hb dL_act_145 rfl (lv_at hl 2 rfl) ?_
  refine vx_calli (vx_runV (As := [.int p1]) (rest := []) ⟨hx, hb, hml, hown, hts⟩ (t_X2_columns l hlt D cyI cyZ ad zb zo zt zm zu zr zl zf p1 (by rw [hx9]; decide)) (cwV 1 hts gL_act_X2_columns rfl rfl rfl (by decide +kernel) ⟨Nat.le_of_ble_eq_true rfl, Nat.le_of_ble_eq_true rfl⟩) (ptV hG (hz.kept va_S.rf) hP (ci := 2) rfl rfl rfl) rfl rfl hl.1 rfl (lv_room (Nat.le_of_ble_eq_true rfl)) dL_act_146 ⟨Nat.le_of_ble_eq_true rfl, Nat.le_of_ble_eq_true rfl⟩) hS (fun _ _ h => h.elim) (fun _ h => h.elim) (fun _ _ h => h.elim) (fun E ce q9 u t H1 locs1 ht _ _ hE _ hk1 hS1 hce hcv hcl => ?_) (fun r u t H1 locs1 ht hvm h hb9 hz1 hk1 hS1 => h.elim)
  obtain rfl : E = "java/lang/IndexOutOfBoundsException" := hE.trans (by rw [hx9]; rfl)
  have hP1 : va_P D vwCl (wZ cyI cyZ ad zb zo zt zm zu zr zl zf) H1 := hP.kept (fun k q hq => hk1 q.1 (hP k q hq).lt id)
  refine vx_catch (own := RL) (name := "java/lang/IndexOutOfBoundsException") hown [] (⟨0, 288, 289, 72⟩ : ExceptionTableEntry) [(⟨0, 288, 295, 74⟩ : ExceptionTableEntry), (⟨0, 288, 301, 76⟩ : ExceptionTableEntry)] ((vx_table (x := yL_act) B (hts _ List.mem_cons_self)).trans rfl) ps_nil (by decide) (by decide) (hts (.classLink RL 72 "java/lang/IndexOutOfBoundsException") (List.mem_of_getElem? (i := 1) rfl)) (va_Nw.use rfl (hz.2.2.2.1 "java/lang/IndexOutOfBoundsException" (by decide))) hce hcv hcl ?_
  refine lv_astore (lv' := [(6, .ref q9)]) hx hb dL_act_289 (lv_sub hl [] rfl) (by decide) rfl (fun ls hl => ?_)
  refine lv_sipush (v := (-20001)) hx hb dL_act_291 (by decide) ?_
  exact W.iret (v := (-20001)) hx hb hr (fun t ht hW => ⟨⟨(-20001), (), rfl, rfl, by rw [ht]; exact hP1, hD⟩, hS1.F ht⟩) hS1.2.2 dL_act_294
set_option maxHeartbeats 4000000 in
set_option maxRecDepth 100000 in
theorem t_A9_1 (l : Launch) (hlt : l.stackTraces = false) (D : va_G) (cyI cyZ : ClassId) (ad : Nat → Nat) (zb : Tr) (zo : Tr) (zt : Tr) (zm : Tr) (zu : Nat → Int32) (zr : Nat → Int32) (zl : Lr) (zf : Int32) (p1 : Int32) (p2 : Int32) (p3 : Int32) (p4 : Int32) (A : Nat → Prop) (sz : Nat) (hAe : A = va_A (wZ cyI cyZ ad zb zo zt zm zu zr zl zf) sz) (hx9 : f_X2_rows_x p1 = 1) : Met l yL_act wsL_act ({ frames := 8, cells := 1, slots := 6, locals := 142 } : Room) (pcO D cyI cyZ sz [.ref (ad 0), .int 9, .int p1, .int p2, .int p3, .int p4] (wZ cyI cyZ ad zb zo zt zm zu zr zl zf)) (mI D A (wZ cyI cyZ ad zb zo zt zm zu zr zl zf) (-20001)) 1 6 A := by
  refine va_MetW (cc := cL_act) (maxL := 7) (ret := some .int) (hh := [(0, 288, 289, 72), (0, 288, 295, 74), (0, 288, 301, 76)]) (by decide) rfl ?_
  intro p e s m args below meth c s₁ B hml hv
  obtain ⟨rfl, hsz, hP, hG, ⟨hz, hn⟩, hD0⟩ := hv
  have hx := B.exec
  have hb := B.bytes
  have hr := B.returns
  have hts := atoms_spec (ws := wsL_act) B.pre
  have hown : s.vm.findClass RL = some m.cls := findClass_of_methodNamed B.named
  subst hsz
  have hD : va_D A (wZ cyI cyZ ad zb zo zt zm zu zr zl zf) := by rw [hAe]; exact hD0.self
  have hA : ∀ q : Nat, s.heap.size ≤ q → A q := fun q h => by rw [hAe]; exact Or.inr h
  clear hAe hD0
  have hz := hz.zq
  have hS : va_S A s.heap s.heap [] := va_S.rf
  have hl := lv_entry ([.ref (ad 0), .int 9, .int p1, .int p2, .int p3, .int p4]) (n := 7) (Nat.le_of_ble_eq_true rfl)
  rw [lg_entry_eq]
  generalize (lg_sl ([.ref (ad 0), .int 9, .int p1, .int p2, .int p3, .int p4]) ++ List.replicate (7 - (lg_sl ([.ref (ad 0), .int 9, .int p1, .int p2, .int p3, .int p4])).length) Slot.unset).toArray = ls at hl ⊢
  have hl : lv_has ls 7 [(0, .ref (ad 0)), (1, .int 9), (2, .int p1), (3, .int p2), (4, .int p3), (5, .int p4)] := hl
  have hP : va_P D vwCl (wZ cyI cyZ ad zb zo zt zm zu zr zl zf) s.heap := hP
  refine lv_iload_n hx hb dL_act_0 rfl (lv_at hl 1 rfl) ?_
  refine lv_if_ne (tgt := 15) hx hb dL_act_1 (by decide) (fun _ => ?_) (fun c9 => absurd c9 (by decide))
  refine lv_iload_n hx hb dL_act_15 rfl (lv_at hl 1 rfl) ?_
  refine lv_iconst (v := 1) hx hb dL_act_16 (by decide) ?_
  refine lv_icmp_ne (tgt := 29) hx hb dL_act_17 (by decide) (fun _ => ?_) (fun c9 => absurd c9 (by decide))
  refine lv_iload_n hx hb dL_act_29 rfl (lv_at hl 1 rfl) ?_
  refine lv_iconst (v := 2) hx hb dL_act_30 (by decide) ?_
  refine lv_icmp_ne (tgt := 45) hx hb dL_act_31 (by decide) (fun _ => ?_) (fun c9 => absurd c9 (by decide))
  refine lv_iload_n hx hb dL_act_45 rfl (lv_at hl 1 rfl) ?_
  refine lv_iconst (v := 3) hx hb dL_act_46 (by decide) ?_
  refine lv_icmp_ne (tgt := 59) hx hb dL_act_47 (by decide) (fun _ => ?_) (fun c9 => absurd c9 (by decide))
  refine lv_iload_n hx hb dL_act_59 rfl (lv_at hl 1 rfl) ?_
  refine lv_iconst (v := 4) hx hb dL_act_60 (by decide) ?_
  refine lv_icmp_ne (tgt := 73) hx hb dL_act_61 (by decide) (fun _ => ?_) (fun c9 => absurd c9 (by decide))
  refine lv_iload_n hx hb dL_act_73 rfl (lv_at hl 1 rfl) ?_
  refine lv_iconst (v := 5) hx hb dL_act_74 (by decide) ?_
  refine lv_icmp_ne (tgt := 91) hx hb dL_act_75 (by decide) (fun _ => ?_) (fun c9 => absurd c9 (by decide))
  refine lv_iload_n hx hb dL_act_91 rfl (lv_at hl 1 rfl) ?_
  refine lv_bipush (v := 6) hx hb dL_act_92 (by decide) ?_
  refine lv_icmp_ne (tgt := 106) hx hb dL_act_94 (by decide) (fun _ => ?_) (fun c9 => absurd c9 (by decide))
  refine lv_iload_n hx hb dL_act_106 rfl (lv_at hl 1 rfl) ?_
  refine lv_bipush (v := 7) hx hb dL_act_107 (by decide) ?_
  refine lv_icmp_ne (tgt := 138) hx hb dL_act_109 (by decide) (fun _ => ?_) (fun c9 => absurd c9 (by decide))
  refine lv_iload_n hx hb dL_act_138 rfl (lv_at hl 1 rfl) ?_
  refine lv_bipush (v := 8) hx hb dL_act_139 (by decide) ?_
  refine lv_icmp_ne (tgt := 152) hx hb dL_act_141 (by decide) (fun _ => ?_) (fun c9 => absurd c9 (by decide))
  refine lv_iload_n hx hb dL_act_152 rfl (lv_at hl 1 rfl) ?_
  refine lv_bipush (v := 9) hx hb dL_act_153 (by decide) ?_
  refine lv_icmp_ne (tgt := 166) hx hb dL_act_155 (by decide) (fun c9 => absurd (by decide) c9) (fun _ => ?_)
  refine lv_aload_n hx hb dL_act_158 rfl (lv_at hl 0 rfl) ?_
  refine lv_iload_n hx hb dL_act_159 rfl (lv_at hl 2 rfl) ?_
  refine vx_calli (vx_runV (As := [.int p1]) (rest := []) ⟨hx, hb, hml, hown, hts⟩ (t_X2_rows l hlt D cyI cyZ ad zb zo zt zm zu zr zl zf p1 (by rw [hx9]; decide)) (cwV 1 hts gL_act_X2_rows rfl rfl rfl (by decide +kernel) ⟨Nat.le_of_ble_eq_true rfl, Nat.le_of_ble_eq_true rfl⟩) (ptV hG (hz.kept va_S.rf) hP (ci := 2) rfl rfl rfl) rfl rfl hl.1 rfl (lv_room (Nat.le_of_ble_eq_true rfl)) dL_act_160 ⟨Nat.le_of_ble_eq_true rfl, Nat.le_of_ble_eq_true rfl⟩) hS (fun _ _ h => h.elim) (fun _ h => h.elim) (fun _ _ h => h.elim) (fun E ce q9 u t H1 locs1 ht _ _ hE _ hk1 hS1 hce hcv hcl => ?_) (fun r u t H1 locs1 ht hvm h hb9 hz1 hk1 hS1 => h.elim)
  obtain rfl : E = "java/lang/IndexOutOfBoundsException" := hE.trans (by rw [hx9]; rfl)
  have hP1 : va_P D vwCl (wZ cyI cyZ ad zb zo zt zm zu zr zl zf) H1 := hP.kept (fun k q hq => hk1 q.1 (hP k q hq).lt id)
  refine vx_catch (own := RL) (name := "java/lang/IndexOutOfBoundsException") hown [] (⟨0, 288, 289, 72⟩ : ExceptionTableEntry) [(⟨0, 288, 295, 74⟩ : ExceptionTableEntry), (⟨0, 288, 301, 76⟩ : ExceptionTableEntry)] ((vx_table (x := yL_act) B (hts _ List.mem_cons_self)).trans rfl) ps_nil (by decide) (by decide) (hts (.classLink RL 72 "java/lang/IndexOutOfBoundsException") (List.mem_of_getElem? (i := 1) rfl)) (va_Nw.use rfl (hz.2.2.2.1 "java/lang/IndexOutOfBoundsException" (by decide))) hce hcv hcl ?_
  refine lv_astore (lv' := [(6, .ref q9)]) hx hb dL_act_289 (lv_sub hl [] rfl) (by decide) rfl (fun ls hl => ?_)
  refine lv_sipush (v := (-20001)) hx hb dL_act_291 (by decide) ?_
  exact W.iret (v := (-20001)) hx hb hr (fun t ht hW => ⟨⟨(-20001), (), rfl, rfl, by rw [ht]; exact hP1, hD⟩, hS1.F ht⟩) hS1.2.2 dL_act_294
set_option maxHeartbeats 4000000 in
set_option maxRecDepth 100000 in
theorem t_A10_1 (l : Launch) (hlt : l.stackTraces = false) (D : va_G) (cyI cyZ : ClassId) (ad : Nat → Nat) (zb : Tr) (zo : Tr) (zt : Tr) (zm : Tr) (zu : Nat → Int32) (zr : Nat → Int32) (zl : Lr) (zf : Int32) (p1 : Int32) (p2 : Int32) (p3 : Int32) (p4 : Int32) (A : Nat → Prop) (sz : Nat) (hAe : A = va_A (wZ cyI cyZ ad zb zo zt zm zu zr zl zf) sz) (hx9 : f_X2_name_x zb zo zt zm p1 p2 = 1) : Met l yL_act wsL_act ({ frames := 8, cells := 1, slots := 6, locals := 144 } : Room) (pcO D cyI cyZ sz [.ref (ad 0), .int 10, .int p1, .int p2, .int p3, .int p4] (wZ cyI cyZ ad zb zo zt zm zu zr zl zf)) (mI D A (wZ cyI cyZ ad zb zo zt zm zu zr zl zf) (-20001)) 1 6 A := by
  refine va_MetW (cc := cL_act) (maxL := 7) (ret := some .int) (hh := [(0, 288, 289, 72), (0, 288, 295, 74), (0, 288, 301, 76)]) (by decide) rfl ?_
  intro p e s m args below meth c s₁ B hml hv
  obtain ⟨rfl, hsz, hP, hG, ⟨hz, hn⟩, hD0⟩ := hv
  have hx := B.exec
  have hb := B.bytes
  have hr := B.returns
  have hts := atoms_spec (ws := wsL_act) B.pre
  have hown : s.vm.findClass RL = some m.cls := findClass_of_methodNamed B.named
  subst hsz
  have hD : va_D A (wZ cyI cyZ ad zb zo zt zm zu zr zl zf) := by rw [hAe]; exact hD0.self
  have hA : ∀ q : Nat, s.heap.size ≤ q → A q := fun q h => by rw [hAe]; exact Or.inr h
  clear hAe hD0
  have hz := hz.zq
  have hS : va_S A s.heap s.heap [] := va_S.rf
  have hl := lv_entry ([.ref (ad 0), .int 10, .int p1, .int p2, .int p3, .int p4]) (n := 7) (Nat.le_of_ble_eq_true rfl)
  rw [lg_entry_eq]
  generalize (lg_sl ([.ref (ad 0), .int 10, .int p1, .int p2, .int p3, .int p4]) ++ List.replicate (7 - (lg_sl ([.ref (ad 0), .int 10, .int p1, .int p2, .int p3, .int p4])).length) Slot.unset).toArray = ls at hl ⊢
  have hl : lv_has ls 7 [(0, .ref (ad 0)), (1, .int 10), (2, .int p1), (3, .int p2), (4, .int p3), (5, .int p4)] := hl
  have hP : va_P D vwCl (wZ cyI cyZ ad zb zo zt zm zu zr zl zf) s.heap := hP
  refine lv_iload_n hx hb dL_act_0 rfl (lv_at hl 1 rfl) ?_
  refine lv_if_ne (tgt := 15) hx hb dL_act_1 (by decide) (fun _ => ?_) (fun c9 => absurd c9 (by decide))
  refine lv_iload_n hx hb dL_act_15 rfl (lv_at hl 1 rfl) ?_
  refine lv_iconst (v := 1) hx hb dL_act_16 (by decide) ?_
  refine lv_icmp_ne (tgt := 29) hx hb dL_act_17 (by decide) (fun _ => ?_) (fun c9 => absurd c9 (by decide))
  refine lv_iload_n hx hb dL_act_29 rfl (lv_at hl 1 rfl) ?_
  refine lv_iconst (v := 2) hx hb dL_act_30 (by decide) ?_
  refine lv_icmp_ne (tgt := 45) hx hb dL_act_31 (by decide) (fun _ => ?_) (fun c9 => absurd c9 (by decide))
  refine lv_iload_n hx hb dL_act_45 rfl (lv_at hl 1 rfl) ?_
  refine lv_iconst (v := 3) hx hb dL_act_46 (by decide) ?_
  refine lv_icmp_ne (tgt := 59) hx hb dL_act_47 (by decide) (fun _ => ?_) (fun c9 => absurd c9 (by decide))
  refine lv_iload_n hx hb dL_act_59 rfl (lv_at hl 1 rfl) ?_
  refine lv_iconst (v := 4) hx hb dL_act_60 (by decide) ?_
  refine lv_icmp_ne (tgt := 73) hx hb dL_act_61 (by decide) (fun _ => ?_) (fun c9 => absurd c9 (by decide))
  refine lv_iload_n hx hb dL_act_73 rfl (lv_at hl 1 rfl) ?_
  refine lv_iconst (v := 5) hx hb dL_act_74 (by decide) ?_
  refine lv_icmp_ne (tgt := 91) hx hb dL_act_75 (by decide) (fun _ => ?_) (fun c9 => absurd c9 (by decide))
  refine lv_iload_n hx hb dL_act_91 rfl (lv_at hl 1 rfl) ?_
  refine lv_bipush (v := 6) hx hb dL_act_92 (by decide) ?_
  refine lv_icmp_ne (tgt := 106) hx hb dL_act_94 (by decide) (fun _ => ?_) (fun c9 => absurd c9 (by decide))
  refine lv_iload_n hx hb dL_act_106 rfl (lv_at hl 1 rfl) ?_
  refine lv_bipush (v := 7) hx hb dL_act_107 (by decide) ?_
  refine lv_icmp_ne (tgt := 138) hx hb dL_act_109 (by decide) (fun _ => ?_) (fun c9 => absurd c9 (by decide))
  refine lv_iload_n hx hb dL_act_138 rfl (lv_at hl 1 rfl) ?_
  refine lv_bipush (v := 8) hx hb dL_act_139 (by decide) ?_
  refine lv_icmp_ne (tgt := 152) hx hb dL_act_141 (by decide) (fun _ => ?_) (fun c9 => absurd c9 (by decide))
  refine lv_iload_n hx hb dL_act_152 rfl (lv_at hl 1 rfl) ?_
  refine lv_bipush (v := 9) hx hb dL_act_153 (by decide) ?_
  refine lv_icmp_ne (tgt := 166) hx hb dL_act_155 (by decide) (fun _ => ?_) (fun c9 => absurd c9 (by decide))
  refine lv_iload_n hx hb dL_act_166 rfl (lv_at hl 1 rfl) ?_
  refine lv_bipush (v := 10) hx hb dL_act_167 (by decide) ?_
  refine lv_icmp_ne (tgt := 181) hx hb dL_act_169 (by decide) (fun c9 => absurd (by decide) c9) (fun _ => ?_)
  refine lv_aload_n hx hb dL_act_172 rfl (lv_at hl 0 rfl) ?_
  refine lv_iload_n hx hb dL_act_173 rfl (lv_at hl 2 rfl) ?_
  refine lv_iload_n hx hb dL_act_174 rfl (lv_at hl 3 rfl) ?_
  refine vx_calli (vx_runV (As := [.int p1, .int p2]) (rest := []) ⟨hx, hb, hml, hown, hts⟩ (t_X2_name l hlt D cyI cyZ ad zb zo zt zm zu zr zl zf p1 p2 (by rw [hx9]; decide)) (cwV 2 hts gL_act_X2_name rfl rfl rfl (by decide +kernel) ⟨Nat.le_of_ble_eq_true rfl, Nat.le_of_ble_eq_true rfl⟩) (ptV hG (hz.kept va_S.rf) hP (ci := 2) rfl rfl rfl) rfl rfl hl.1 rfl (lv_room (Nat.le_of_ble_eq_true rfl)) dL_act_175 ⟨Nat.le_of_ble_eq_true rfl, Nat.le_of_ble_eq_true rfl⟩) hS (fun _ _ h => h.elim) (fun _ h => h.elim) (fun _ _ h => h.elim) (fun E ce q9 u t H1 locs1 ht _ _ hE _ hk1 hS1 hce hcv hcl => ?_) (fun r u t H1 locs1 ht hvm h hb9 hz1 hk1 hS1 => h.elim)
  obtain rfl : E = "java/lang/IndexOutOfBoundsException" := hE.trans (by rw [hx9]; rfl)
  have hP1 : va_P D vwCl (wZ cyI cyZ ad zb zo zt zm zu zr zl zf) H1 := hP.kept (fun k q hq => hk1 q.1 (hP k q hq).lt id)
  refine vx_catch (own := RL) (name := "java/lang/IndexOutOfBoundsException") hown [] (⟨0, 288, 289, 72⟩ : ExceptionTableEntry) [(⟨0, 288, 295, 74⟩ : ExceptionTableEntry), (⟨0, 288, 301, 76⟩ : ExceptionTableEntry)] ((vx_table (x := yL_act) B (hts _ List.mem_cons_self)).trans rfl) ps_nil (by decide) (by decide) (hts (.classLink RL 72 "java/lang/IndexOutOfBoundsException") (List.mem_of_getElem? (i := 1) rfl)) (va_Nw.use rfl (hz.2.2.2.1 "java/lang/IndexOutOfBoundsException" (by decide))) hce hcv hcl ?_
  refine lv_astore (lv' := [(6, .ref q9)]) hx hb dL_act_289 (lv_sub hl [] rfl) (by decide) rfl (fun ls hl => ?_)
  refine lv_sipush (v := (-20001)) hx hb dL_act_291 (by decide) ?_
  exact W.iret (v := (-20001)) hx hb hr (fun t ht hW => ⟨⟨(-20001), (), rfl, rfl, by rw [ht]; exact hP1, hD⟩, hS1.F ht⟩) hS1.2.2 dL_act_294
set_option maxHeartbeats 4000000 in
set_option maxRecDepth 100000 in
theorem k_A11 (l : Launch) (D : va_G) (cyI cyZ : ClassId) (ad : Nat → Nat) (zb : Tr) (zo : Tr) (zt : Tr) (zm : Tr) (zu : Nat → Int32) (zr : Nat → Int32) (zl : Lr) (zf : Int32) (p1 : Int32) (p2 : Int32) (p3 : Int32) (p4 : Int32) (A : Nat → Prop) (sz : Nat) (hAe : A = va_A (wZ cyI cyZ ad zb zo zt zm zu zr zl zf) sz) (hx9 : f_X2_get_x zb zo zt zm p1 p2 p3 = 0) : Met l yL_act wsL_act ({ frames := 4, cells := 0, slots := 0, locals := 89 } : Room) (pcO D cyI cyZ sz [.ref (ad 0), .int 11, .int p1, .int p2, .int p3, .int p4] (wZ cyI cyZ ad zb zo zt zm zu zr zl zf)) (mI D A (wZ cyI cyZ ad zb zo zt zm zu zr zl zf) (f_X2_get zb zo zt zm p1 p2 p3)) 0 0 A := by
  refine va_MetW (cc := cL_act) (maxL := 7) (ret := some .int) (hh := [(0, 288, 289, 72), (0, 288, 295, 74), (0, 288, 301, 76)]) (by decide) rfl ?_
  intro p e s m args below meth c s₁ B hml hv
  obtain ⟨rfl, hsz, hP, hG, ⟨hz, hn⟩, hD0⟩ := hv
  have hx := B.exec
  have hb := B.bytes
  have hr := B.returns
  have hts := atoms_spec (ws := wsL_act) B.pre
  have hown : s.vm.findClass RL = some m.cls := findClass_of_methodNamed B.named
  subst hsz
  have hD : va_D A (wZ cyI cyZ ad zb zo zt zm zu zr zl zf) := by rw [hAe]; exact hD0.self
  have hA : ∀ q : Nat, s.heap.size ≤ q → A q := fun q h => by rw [hAe]; exact Or.inr h
  clear hAe hD0
  have hz := hz.zq
  have hS : va_S A s.heap s.heap [] := va_S.rf
  have hl := lv_entry ([.ref (ad 0), .int 11, .int p1, .int p2, .int p3, .int p4]) (n := 7) (Nat.le_of_ble_eq_true rfl)
  rw [lg_entry_eq]
  generalize (lg_sl ([.ref (ad 0), .int 11, .int p1, .int p2, .int p3, .int p4]) ++ List.replicate (7 - (lg_sl ([.ref (ad 0), .int 11, .int p1, .int p2, .int p3, .int p4])).length) Slot.unset).toArray = ls at hl ⊢
  have hl : lv_has ls 7 [(0, .ref (ad 0)), (1, .int 11), (2, .int p1), (3, .int p2), (4, .int p3), (5, .int p4)] := hl
  have hP : va_P D vwCl (wZ cyI cyZ ad zb zo zt zm zu zr zl zf) s.heap := hP
  refine lv_iload_n hx hb dL_act_0 rfl (lv_at hl 1 rfl) ?_
  refine lv_if_ne (tgt := 15) hx hb dL_act_1 (by decide) (fun _ => ?_) (fun c9 => absurd c9 (by decide))
  refine lv_iload_n hx hb dL_act_15 rfl (lv_at hl 1 rfl) ?_
  refine lv_iconst (v := 1) hx hb dL_act_16 (by decide) ?_
  refine lv_icmp_ne (tgt := 29) hx hb dL_act_17 (by decide) (fun _ => ?_) (fun c9 => absurd c9 (by decide))
  refine lv_iload_n hx hb dL_act_29 rfl (lv_at hl 1 rfl) ?_
  refine lv_iconst (v := 2) hx hb dL_act_30 (by decide) ?_
  refine lv_icmp_ne (tgt := 45) hx hb dL_act_31 (by decide) (fun _ => ?_) (fun c9 => absurd c9 (by decide))
  refine lv_iload_n hx hb dL_act_45 rfl (lv_at hl 1 rfl) ?_
  refine lv_iconst (v := 3) hx hb dL_act_46 (by decide) ?_
  refine lv_icmp_ne (tgt := 59) hx hb dL_act_47 (by decide) (fun _ => ?_) (fun c9 => absurd c9 (by decide))
  refine lv_iload_n hx hb dL_act_59 rfl (lv_at hl 1 rfl) ?_
  refine lv_iconst (v := 4) hx hb dL_act_60 (by decide) ?_
  refine lv_icmp_ne (tgt := 73) hx hb dL_act_61 (by decide) (fun _ => ?_) (fun c9 => absurd c9 (by decide))
  refine lv_iload_n hx hb dL_act_73 rfl (lv_at hl 1 rfl) ?_
  refine lv_iconst (v := 5) hx hb dL_act_74 (by decide) ?_
  refine lv_icmp_ne (tgt := 91) hx hb dL_act_75 (by decide) (fun _ => ?_) (fun c9 => absurd c9 (by decide))
  refine lv_iload_n hx hb dL_act_91 rfl (lv_at hl 1 rfl) ?_
  refine lv_bipush (v := 6) hx hb dL_act_92 (by decide) ?_
  refine lv_icmp_ne (tgt := 106) hx hb dL_act_94 (by decide) (fun _ => ?_) (fun c9 => absurd c9 (by decide))
  refine lv_iload_n hx hb dL_act_106 rfl (lv_at hl 1 rfl) ?_
  refine lv_bipush (v := 7) hx hb dL_act_107 (by decide) ?_
  refine lv_icmp_ne (tgt := 138) hx hb dL_act_109 (by decide) (fun _ => ?_) (fun c9 => absurd c9 (by decide))
  refine lv_iload_n hx hb dL_act_138 rfl (lv_at hl 1 rfl) ?_
  refine lv_bipush (v := 8) hx hb dL_act_139 (by decide) ?_
  refine lv_icmp_ne (tgt := 152) hx hb dL_act_141 (by decide) (fun _ => ?_) (fun c9 => absurd c9 (by decide))
  refine lv_iload_n hx hb dL_act_152 rfl (lv_at hl 1 rfl) ?_
  refine lv_bipush (v := 9) hx hb dL_act_153 (by decide) ?_
  refine lv_icmp_ne (tgt := 166) hx hb dL_act_155 (by decide) (fun _ => ?_) (fun c9 => absurd c9 (by decide))
  refine lv_iload_n hx hb dL_act_166 rfl (lv_at hl 1 rfl) ?_
  refine lv_bipush (v := 10) hx hb dL_act_167 (by decide) ?_
  refine lv_icmp_ne (tgt := 181) hx hb dL_act_169 (by decide) (fun _ => ?_) (fun c9 => absurd c9 (by decide))
  refine lv_iload_n hx hb dL_act_181 rfl (lv_at hl 1 rfl) ?_
  refine lv_bipush (v := 11) hx hb dL_act_182 (by decide) ?_
  refine lv_icmp_ne (tgt := 198) hx hb dL_act_184 (by decide) (fun c9 => absurd (by decide) c9) (fun _ => ?_)
  refine lv_aload_n hx hb dL_act_187 rfl (lv_at hl 0 rfl) ?_
  refine lv_iload_n hx hb dL_act_188 rfl (lv_at hl 2 rfl) ?_
  refine lv_iload_n hx hb dL_act_189 rfl (lv_at hl 3 rfl) ?_
  refine lv_iload hx hb dL_act_190 (lv_at hl 4 rfl) ?_
  refine pr_i (va_runV (As := [.int p1, .int p2, .int p3]) (rest := []) ⟨hx, hb, hml, hown, hts⟩ (k_X2_get l D cyI cyZ ad zb zo zt zm zu zr zl zf p1 p2 p3 hx9) (cwV 3 hts gL_act_X2_get rfl rfl rfl (by decide +kernel) ⟨Nat.le_of_ble_eq_true rfl, Nat.le_of_ble_eq_true rfl⟩) (prV hG hP (ci := 2) rfl rfl rfl) rfl rfl hl.1 rfl (lv_room (Nat.le_of_ble_eq_true rfl)) dL_act_192 ⟨Nat.zero_le _, Nat.zero_le _⟩) hS hP (fun H locs hP hS => ?_)
  refine lv_goto (tgt := 288) hx hb dL_act_195 (by decide) ?_
  exact W.iret (v := (f_X2_get zb zo zt zm p1 p2 p3)) hx hb hr (fun t ht hW => ⟨⟨(f_X2_get zb zo zt zm p1 p2 p3), (), rfl, rfl, by rw [ht]; exact hP, hD⟩, hS.F ht⟩) hS.2.2 dL_act_288
set_option maxHeartbeats 4000000 in
set_option maxRecDepth 100000 in
theorem t_A11_1 (l : Launch) (hlt : l.stackTraces = false) (D : va_G) (cyI cyZ : ClassId) (ad : Nat → Nat) (zb : Tr) (zo : Tr) (zt : Tr) (zm : Tr) (zu : Nat → Int32) (zr : Nat → Int32) (zl : Lr) (zf : Int32) (p1 : Int32) (p2 : Int32) (p3 : Int32) (p4 : Int32) (A : Nat → Prop) (sz : Nat) (hAe : A = va_A (wZ cyI cyZ ad zb zo zt zm zu zr zl zf) sz) (hx9 : f_X2_get_x zb zo zt zm p1 p2 p3 = 1) : Met l yL_act wsL_act ({ frames := 8, cells := 1, slots := 6, locals := 145 } : Room) (pcO D cyI cyZ sz [.ref (ad 0), .int 11, .int p1, .int p2, .int p3, .int p4] (wZ cyI cyZ ad zb zo zt zm zu zr zl zf)) (mI D A (wZ cyI cyZ ad zb zo zt zm zu zr zl zf) (-20001)) 1 6 A := by
  refine va_MetW (cc := cL_act) (maxL := 7) (ret := some .int) (hh := [(0, 288, 289, 72), (0, 288, 295, 74), (0, 288, 301, 76)]) (by decide) rfl ?_
  intro p e s m args below meth c s₁ B hml hv
  obtain ⟨rfl, hsz, hP, hG, ⟨hz, hn⟩, hD0⟩ := hv
  have hx := B.exec
  have hb := B.bytes
  have hr := B.returns
  have hts := atoms_spec (ws := wsL_act) B.pre
  have hown : s.vm.findClass RL = some m.cls := findClass_of_methodNamed B.named
  subst hsz
  have hD : va_D A (wZ cyI cyZ ad zb zo zt zm zu zr zl zf) := by rw [hAe]; exact hD0.self
  have hA : ∀ q : Nat, s.heap.size ≤ q → A q := fun q h => by rw [hAe]; exact Or.inr h
  clear hAe hD0
  have hz := hz.zq
  have hS : va_S A s.heap s.heap [] := va_S.rf
  have hl := lv_entry ([.ref (ad 0), .int 11, .int p1, .int p2, .int p3, .int p4]) (n := 7) (Nat.le_of_ble_eq_true rfl)
  rw [lg_entry_eq]
  generalize (lg_sl ([.ref (ad 0), .int 11, .int p1, .int p2, .int p3, .int p4]) ++ List.replicate (7 - (lg_sl ([.ref (ad 0), .int 11, .int p1, .int p2, .int p3, .int p4])).length) Slot.unset).toArray = ls at hl ⊢
  have hl : lv_has ls 7 [(0, .ref (ad 0)), (1, .int 11), (2, .int p1), (3, .int p2), (4, .int p3), (5, .int p4)] := hl
  have hP : va_P D vwCl (wZ cyI cyZ ad zb zo zt zm zu zr zl zf) s.heap := hP
  refine lv_iload_n hx hb dL_act_0 rfl (lv_at hl 1 rfl) ?_
  refine lv_if_ne (tgt := 15) hx hb dL_act_1 (by decide) (fun _ => ?_) (fun c9 => absurd c9 (by decide))
  refine lv_iload_n hx hb dL_act_15 rfl (lv_at hl 1 rfl) ?_
  refine lv_iconst (v := 1) hx hb dL_act_16 (by decide) ?_
  refine lv_icmp_ne (tgt := 29) hx hb dL_act_17 (by decide) (fun _ => ?_) (fun c9 => absurd c9 (by decide))
  refine lv_iload_n hx hb dL_act_29 rfl (lv_at hl 1 rfl) ?_
  refine lv_iconst (v := 2) hx hb dL_act_30 (by decide) ?_
  refine lv_icmp_ne (tgt := 45) hx hb dL_act_31 (by decide) (fun _ => ?_) (fun c9 => absurd c9 (by decide))
  refine lv_iload_n hx hb dL_act_45 rfl (lv_at hl 1 rfl) ?_
  refine lv_iconst (v := 3) hx hb dL_act_46 (by decide) ?_
  refine lv_icmp_ne (tgt := 59) hx hb dL_act_47 (by decide) (fun _ => ?_) (fun c9 => absurd c9 (by decide))
  refine lv_iload_n hx hb dL_act_59 rfl (lv_at hl 1 rfl) ?_
  refine lv_iconst (v := 4) hx hb dL_act_60 (by decide) ?_
  refine lv_icmp_ne (tgt := 73) hx hb dL_act_61 (by decide) (fun _ => ?_) (fun c9 => absurd c9 (by decide))
  refine lv_iload_n hx hb dL_act_73 rfl (lv_at hl 1 rfl) ?_
  refine lv_iconst (v := 5) hx hb dL_act_74 (by decide) ?_
  refine lv_icmp_ne (tgt := 91) hx hb dL_act_75 (by decide) (fun _ => ?_) (fun c9 => absurd c9 (by decide))
  refine lv_iload_n hx hb dL_act_91 rfl (lv_at hl 1 rfl) ?_
  refine lv_bipush (v := 6) hx hb dL_act_92 (by decide) ?_
  refine lv_icmp_ne (tgt := 106) hx hb dL_act_94 (by decide) (fun _ => ?_) (fun c9 => absurd c9 (by decide))
  refine lv_iload_n hx hb dL_act_106 rfl (lv_at hl 1 rfl) ?_
  refine lv_bipush (v := 7) hx hb dL_act_107 (by decide) ?_
  refine lv_icmp_ne (tgt := 138) hx hb dL_act_109 (by decide) (fun _ => ?_) (fun c9 => absurd c9 (by decide))
  refine lv_iload_n hx hb dL_act_138 rfl (lv_at hl 1 rfl) ?_
  refine lv_bipush (v := 8) hx hb dL_act_139 (by decide) ?_
  refine lv_icmp_ne (tgt := 152) hx hb dL_act_141 (by decide) (fun _ => ?_) (fun c9 => absurd c9 (by decide))
  refine lv_iload_n hx hb dL_act_152 rfl (lv_at hl 1 rfl) ?_
  refine lv_bipush (v := 9) hx hb dL_act_153 (by decide) ?_
  refine lv_icmp_ne (tgt := 166) hx hb dL_act_155 (by decide) (fun _ => ?_) (fun c9 => absurd c9 (by decide))
  refine lv_iload_n hx hb dL_act_166 rfl (lv_at hl 1 rfl) ?_
  refine lv_bipush (v := 10) hx hb dL_act_167 (by decide) ?_
  refine lv_icmp_ne (tgt := 181) hx hb dL_act_169 (by decide) (fun _ => ?_) (fun c9 => absurd c9 (by decide))
  refine lv_iload_n hx hb dL_act_181 rfl (lv_at hl 1 rfl) ?_
  refine lv_bipush (v := 11) hx hb dL_act_182 (by decide) ?_
  refine lv_icmp_ne (tgt := 198) hx hb dL_act_184 (by decide) (fun c9 => absurd (by decide) c9) (fun _ => ?_)
  refine lv_aload_n hx hb dL_act_187 rfl (lv_at hl 0 rfl) ?_
  refine lv_iload_n hx hb dL_act_188 rfl (lv_at hl 2 rfl) ?_
  refine lv_iload_n hx hb dL_act_189 rfl (lv_at hl 3 rfl) ?_
  refine lv_iload hx hb dL_act_190 (lv_at hl 4 rfl) ?_
  refine vx_calli (vx_runV (As := [.int p1, .int p2, .int p3]) (rest := []) ⟨hx, hb, hml, hown, hts⟩ (t_X2_get l hlt D cyI cyZ ad zb zo zt zm zu zr zl zf p1 p2 p3 (by rw [hx9]; decide)) (cwV 3 hts gL_act_X2_get rfl rfl rfl (by decide +kernel) ⟨Nat.le_of_ble_eq_true rfl, Nat.le_of_ble_eq_true rfl⟩) (ptV hG (hz.kept va_S.rf) hP (ci := 2) rfl rfl rfl) rfl rfl hl.1 rfl (lv_room (Nat.le_of_ble_eq_true rfl)) dL_act_192 ⟨Nat.le_of_ble_eq_true rfl, Nat.le_of_ble_eq_true rfl⟩) hS (fun _ _ h => h.elim) (fun _ h => h.elim) (fun _ _ h => h.elim) (fun E ce q9 u t H1 locs1 ht _ _ hE _ hk1 hS1 hce hcv hcl => ?_) (fun r u t H1 locs1 ht hvm h hb9 hz1 hk1 hS1 => h.elim)
  obtain rfl : E = "java/lang/IndexOutOfBoundsException" := hE.trans (by rw [hx9]; rfl)
  have hP1 : va_P D vwCl (wZ cyI cyZ ad zb zo zt zm zu zr zl zf) H1 := hP.kept (fun k q hq => hk1 q.1 (hP k q hq).lt id)
  refine vx_catch (own := RL) (name := "java/lang/IndexOutOfBoundsException") hown [] (⟨0, 288, 289, 72⟩ : ExceptionTableEntry) [(⟨0, 288, 295, 74⟩ : ExceptionTableEntry), (⟨0, 288, 301, 76⟩ : ExceptionTableEntry)] ((vx_table (x := yL_act) B (hts _ List.mem_cons_self)).trans rfl) ps_nil (by decide) (by decide) (hts (.classLink RL 72 "java/lang/IndexOutOfBoundsException") (List.mem_of_getElem? (i := 1) rfl)) (va_Nw.use rfl (hz.2.2.2.1 "java/lang/IndexOutOfBoundsException" (by decide))) hce hcv hcl ?_
  refine lv_astore (lv' := [(6, .ref q9)]) hx hb dL_act_289 (lv_sub hl [] rfl) (by decide) rfl (fun ls hl => ?_)
  refine lv_sipush (v := (-20001)) hx hb dL_act_291 (by decide) ?_
  exact W.iret (v := (-20001)) hx hb hr (fun t ht hW => ⟨⟨(-20001), (), rfl, rfl, by rw [ht]; exact hP1, hD⟩, hS1.F ht⟩) hS1.2.2 dL_act_294
set_option maxHeartbeats 4000000 in
set_option maxRecDepth 100000 in
theorem t_A12_1 (l : Launch) (hlt : l.stackTraces = false) (D : va_G) (cyI cyZ : ClassId) (ad : Nat → Nat) (zb : Tr) (zo : Tr) (zt : Tr) (zm : Tr) (zu : Nat → Int32) (zr : Nat → Int32) (zl : Lr) (zf : Int32) (p1 : Int32) (p2 : Int32) (p3 : Int32) (p4 : Int32) (A : Nat → Prop) (sz : Nat) (hAe : A = va_A (wZ cyI cyZ ad zb zo zt zm zu zr zl zf) sz) (hx9 : f_X2_changes_x p1 = 1) : Met l yL_act wsL_act ({ frames := 8, cells := 1, slots := 6, locals := 142 } : Room) (pcO D cyI cyZ sz [.ref (ad 0), .int 12, .int p1, .int p2, .int p3, .int p4] (wZ cyI cyZ ad zb zo zt zm zu zr zl zf)) (mI D A (wZ cyI cyZ ad zb zo zt zm zu zr zl zf) (-20001)) 1 6 A := by
  refine va_MetW (cc := cL_act) (maxL := 7) (ret := some .int) (hh := [(0, 288, 289, 72), (0, 288, 295, 74), (0, 288, 301, 76)]) (by decide) rfl ?_
  intro p e s m args below meth c s₁ B hml hv
  obtain ⟨rfl, hsz, hP, hG, ⟨hz, hn⟩, hD0⟩ := hv
  have hx := B.exec
  have hb := B.bytes
  have hr := B.returns
  have hts := atoms_spec (ws := wsL_act) B.pre
  have hown : s.vm.findClass RL = some m.cls := findClass_of_methodNamed B.named
  subst hsz
  have hD : va_D A (wZ cyI cyZ ad zb zo zt zm zu zr zl zf) := by rw [hAe]; exact hD0.self
  have hA : ∀ q : Nat, s.heap.size ≤ q → A q := fun q h => by rw [hAe]; exact Or.inr h
  clear hAe hD0
  have hz := hz.zq
  have hS : va_S A s.heap s.heap [] := va_S.rf
  have hl := lv_entry ([.ref (ad 0), .int 12, .int p1, .int p2, .int p3, .int p4]) (n := 7) (Nat.le_of_ble_eq_true rfl)
  rw [lg_entry_eq]
  generalize (lg_sl ([.ref (ad 0), .int 12, .int p1, .int p2, .int p3, .int p4]) ++ List.replicate (7 - (lg_sl ([.ref (ad 0), .int 12, .int p1, .int p2, .int p3, .int p4])).length) Slot.unset).toArray = ls at hl ⊢
  have hl : lv_has ls 7 [(0, .ref (ad 0)), (1, .int 12), (2, .int p1), (3, .int p2), (4, .int p3), (5, .int p4)] := hl
  have hP : va_P D vwCl (wZ cyI cyZ ad zb zo zt zm zu zr zl zf) s.heap := hP
  refine lv_iload_n hx hb dL_act_0 rfl (lv_at hl 1 rfl) ?_
  refine lv_if_ne (tgt := 15) hx hb dL_act_1 (by decide) (fun _ => ?_) (fun c9 => absurd c9 (by decide))
  refine lv_iload_n hx hb dL_act_15 rfl (lv_at hl 1 rfl) ?_
  refine lv_iconst (v := 1) hx hb dL_act_16 (by decide) ?_
  refine lv_icmp_ne (tgt := 29) hx hb dL_act_17 (by decide) (fun _ => ?_) (fun c9 => absurd c9 (by decide))
  refine lv_iload_n hx hb dL_act_29 rfl (lv_at hl 1 rfl) ?_
  refine lv_iconst (v := 2) hx hb dL_act_30 (by decide) ?_
  refine lv_icmp_ne (tgt := 45) hx hb dL_act_31 (by decide) (fun _ => ?_) (fun c9 => absurd c9 (by decide))
  refine lv_iload_n hx hb dL_act_45 rfl (lv_at hl 1 rfl) ?_
  refine lv_iconst (v := 3) hx hb dL_act_46 (by decide) ?_
  refine lv_icmp_ne (tgt := 59) hx hb dL_act_47 (by decide) (fun _ => ?_) (fun c9 => absurd c9 (by decide))
  refine lv_iload_n hx hb dL_act_59 rfl (lv_at hl 1 rfl) ?_
  refine lv_iconst (v := 4) hx hb dL_act_60 (by decide) ?_
  refine lv_icmp_ne (tgt := 73) hx hb dL_act_61 (by decide) (fun _ => ?_) (fun c9 => absurd c9 (by decide))
  refine lv_iload_n hx hb dL_act_73 rfl (lv_at hl 1 rfl) ?_
  refine lv_iconst (v := 5) hx hb dL_act_74 (by decide) ?_
  refine lv_icmp_ne (tgt := 91) hx hb dL_act_75 (by decide) (fun _ => ?_) (fun c9 => absurd c9 (by decide))
  refine lv_iload_n hx hb dL_act_91 rfl (lv_at hl 1 rfl) ?_
  refine lv_bipush (v := 6) hx hb dL_act_92 (by decide) ?_
  refine lv_icmp_ne (tgt := 106) hx hb dL_act_94 (by decide) (fun _ => ?_) (fun c9 => absurd c9 (by decide))
  refine lv_iload_n hx hb dL_act_106 rfl (lv_at hl 1 rfl) ?_
  refine lv_bipush (v := 7) hx hb dL_act_107 (by decide) ?_
  refine lv_icmp_ne (tgt := 138) hx hb dL_act_109 (by decide) (fun _ => ?_) (fun c9 => absurd c9 (by decide))
  refine lv_iload_n hx hb dL_act_138 rfl (lv_at hl 1 rfl) ?_
  refine lv_bipush (v := 8) hx hb dL_act_139 (by decide) ?_
  refine lv_icmp_ne (tgt := 152) hx hb dL_act_141 (by decide) (fun _ => ?_) (fun c9 => absurd c9 (by decide))
  refine lv_iload_n hx hb dL_act_152 rfl (lv_at hl 1 rfl) ?_
  refine lv_bipush (v := 9) hx hb dL_act_153 (by decide) ?_
  refine lv_icmp_ne (tgt := 166) hx hb dL_act_155 (by decide) (fun _ => ?_) (fun c9 => absurd c9 (by decide))
  refine lv_iload_n hx hb dL_act_166 rfl (lv_at hl 1 rfl) ?_
  refine lv_bipush (v := 10) hx hb dL_act_167 (by decide) ?_
  refine lv_icmp_ne (tgt := 181) hx hb dL_act_169 (by decide) (fun _ => ?_) (fun c9 => absurd c9 (by decide))
  refine lv_iload_n hx hb dL_act_181 rfl (lv_at hl 1 rfl) ?_
  refine lv_bipush (v := 11) hx hb dL_act_182 (by decide) ?_
  refine lv_icmp_ne (tgt := 198) hx hb dL_act_184 (by decide) (fun _ => ?_) (fun c9 => absurd c9 (by decide))
  refine lv_iload_n hx hb dL_act_198 rfl (lv_at hl 1 rfl) ?_
  refine lv_bipush (v := 12) hx hb dL_act_199 (by decide) ?_
  refine lv_icmp_ne (tgt := 212) hx hb dL_act_201 (by decide) (fun c9 => absurd (by decide) c9) (fun _ => ?_)
  refine lv_aload_n hx hb dL_act_204 rfl (lv_at hl 0 rfl) ?_
  refine lv_iload_n hx hb dL_act_205 rfl (lv_at hl 2 rfl) ?_
  refine vx_calli (vx_runV (As := [.int p1]) (rest := []) ⟨hx, hb, hml, hown, hts⟩ (t_X2_changes l hlt D cyI cyZ ad zb zo zt zm zu zr zl zf p1 (by rw [hx9]; decide)) (cwV 1 hts gL_act_X2_changes rfl rfl rfl (by decide +kernel) ⟨Nat.le_of_ble_eq_true rfl, Nat.le_of_ble_eq_true rfl⟩) (ptV hG (hz.kept va_S.rf) hP (ci := 2) rfl rfl rfl) rfl rfl hl.1 rfl (lv_room (Nat.le_of_ble_eq_true rfl)) dL_act_206 ⟨Nat.le_of_ble_eq_true rfl, Nat.le_of_ble_eq_true rfl⟩) hS (fun _ _ h => h.elim) (fun _ h => h.elim) (fun _ _ h => h.elim) (fun E ce q9 u t H1 locs1 ht _ _ hE _ hk1 hS1 hce hcv hcl => ?_) (fun r u t H1 locs1 ht hvm h hb9 hz1 hk1 hS1 => h.elim)
  obtain rfl : E = "java/lang/IndexOutOfBoundsException" := hE.trans (by rw [hx9]; rfl)
  have hP1 : va_P D vwCl (wZ cyI cyZ ad zb zo zt zm zu zr zl zf) H1 := hP.kept (fun k q hq => hk1 q.1 (hP k q hq).lt id)
  refine vx_catch (own := RL) (name := "java/lang/IndexOutOfBoundsException") hown [] (⟨0, 288, 289, 72⟩ : ExceptionTableEntry) [(⟨0, 288, 295, 74⟩ : ExceptionTableEntry), (⟨0, 288, 301, 76⟩ : ExceptionTableEntry)] ((vx_table (x := yL_act) B (hts _ List.mem_cons_self)).trans rfl) ps_nil (by decide) (by decide) (hts (.classLink RL 72 "java/lang/IndexOutOfBoundsException") (List.mem_of_getElem? (i := 1) rfl)) (va_Nw.use rfl (hz.2.2.2.1 "java/lang/IndexOutOfBoundsException" (by decide))) hce hcv hcl ?_
  refine lv_astore (lv' := [(6, .ref q9)]) hx hb dL_act_289 (lv_sub hl [] rfl) (by decide) rfl (fun ls hl => ?_)
  refine lv_sipush (v := (-20001)) hx hb dL_act_291 (by decide) ?_
  exact W.iret (v := (-20001)) hx hb hr (fun t ht hW => ⟨⟨(-20001), (), rfl, rfl, by rw [ht]; exact hP1, hD⟩, hS1.F ht⟩) hS1.2.2 dL_act_294
set_option maxHeartbeats 4000000 in
set_option maxRecDepth 100000 in
theorem t_A13_3 (l : Launch) (hlt : l.stackTraces = false) (D : va_G) (cyI cyZ : ClassId) (ad : Nat → Nat) (zb : Tr) (zo : Tr) (zt : Tr) (zm : Tr) (zu : Nat → Int32) (zr : Nat → Int32) (zl : Lr) (zf : Int32) (p1 : Int32) (p2 : Int32) (p3 : Int32) (p4 : Int32) (A : Nat → Prop) (sz : Nat) (hAe : A = va_A (wZ cyI cyZ ad zb zo zt zm zu zr zl zf) sz) (hx9 : f_X2_accept_x zl zf = 3) : Met l yL_act wsL_act ({ frames := 7, cells := 1, slots := 6, locals := 120 } : Room) (pcO D cyI cyZ sz [.ref (ad 0), .int 13, .int p1, .int p2, .int p3, .int p4] (wZ cyI cyZ ad zb zo zt zm zu zr zl zf)) (mI D A (wZ cyI cyZ ad zb zo zt zm zu zr zl zf) (-20003)) 1 6 A := by
  refine va_MetW (cc := cL_act) (maxL := 7) (ret := some .int) (hh := [(0, 288, 289, 72), (0, 288, 295, 74), (0, 288, 301, 76)]) (by decide) rfl ?_
  intro p e s m args below meth c s₁ B hml hv
  obtain ⟨rfl, hsz, hP, hG, ⟨hz, hn⟩, hD0⟩ := hv
  have hx := B.exec
  have hb := B.bytes
  have hr := B.returns
  have hts := atoms_spec (ws := wsL_act) B.pre
  have hown : s.vm.findClass RL = some m.cls := findClass_of_methodNamed B.named
  subst hsz
  have hD : va_D A (wZ cyI cyZ ad zb zo zt zm zu zr zl zf) := by rw [hAe]; exact hD0.self
  have hA : ∀ q : Nat, s.heap.size ≤ q → A q := fun q h => by rw [hAe]; exact Or.inr h
  clear hAe hD0
  have hz := hz.zq
  have hS : va_S A s.heap s.heap [] := va_S.rf
  have hl := lv_entry ([.ref (ad 0), .int 13, .int p1, .int p2, .int p3, .int p4]) (n := 7) (Nat.le_of_ble_eq_true rfl)
  rw [lg_entry_eq]
  generalize (lg_sl ([.ref (ad 0), .int 13, .int p1, .int p2, .int p3, .int p4]) ++ List.replicate (7 - (lg_sl ([.ref (ad 0), .int 13, .int p1, .int p2, .int p3, .int p4])).length) Slot.unset).toArray = ls at hl ⊢
  have hl : lv_has ls 7 [(0, .ref (ad 0)), (1, .int 13), (2, .int p1), (3, .int p2), (4, .int p3), (5, .int p4)] := hl
  have hP : va_P D vwCl (wZ cyI cyZ ad zb zo zt zm zu zr zl zf) s.heap := hP
  refine lv_iload_n hx hb dL_act_0 rfl (lv_at hl 1 rfl) ?_
  refine lv_if_ne (tgt := 15) hx hb dL_act_1 (by decide) (fun _ => ?_) (fun c9 => absurd c9 (by decide))
  refine lv_iload_n hx hb dL_act_15 rfl (lv_at hl 1 rfl) ?_
  refine lv_iconst (v := 1) hx hb dL_act_16 (by decide) ?_
  refine lv_icmp_ne (tgt := 29) hx hb dL_act_17 (by decide) (fun _ => ?_) (fun c9 => absurd c9 (by decide))
  refine lv_iload_n hx hb dL_act_29 rfl (lv_at hl 1 rfl) ?_
  refine lv_iconst (v := 2) hx hb dL_act_30 (by decide) ?_
  refine lv_icmp_ne (tgt := 45) hx hb dL_act_31 (by decide) (fun _ => ?_) (fun c9 => absurd c9 (by decide))
  refine lv_iload_n hx hb dL_act_45 rfl (lv_at hl 1 rfl) ?_
  refine lv_iconst (v := 3) hx hb dL_act_46 (by decide) ?_
  refine lv_icmp_ne (tgt := 59) hx hb dL_act_47 (by decide) (fun _ => ?_) (fun c9 => absurd c9 (by decide))
  refine lv_iload_n hx hb dL_act_59 rfl (lv_at hl 1 rfl) ?_
  refine lv_iconst (v := 4) hx hb dL_act_60 (by decide) ?_
  refine lv_icmp_ne (tgt := 73) hx hb dL_act_61 (by decide) (fun _ => ?_) (fun c9 => absurd c9 (by decide))
  refine lv_iload_n hx hb dL_act_73 rfl (lv_at hl 1 rfl) ?_
  refine lv_iconst (v := 5) hx hb dL_act_74 (by decide) ?_
  refine lv_icmp_ne (tgt := 91) hx hb dL_act_75 (by decide) (fun _ => ?_) (fun c9 => absurd c9 (by decide))
  refine lv_iload_n hx hb dL_act_91 rfl (lv_at hl 1 rfl) ?_
  refine lv_bipush (v := 6) hx hb dL_act_92 (by decide) ?_
  refine lv_icmp_ne (tgt := 106) hx hb dL_act_94 (by decide) (fun _ => ?_) (fun c9 => absurd c9 (by decide))
  refine lv_iload_n hx hb dL_act_106 rfl (lv_at hl 1 rfl) ?_
  refine lv_bipush (v := 7) hx hb dL_act_107 (by decide) ?_
  refine lv_icmp_ne (tgt := 138) hx hb dL_act_109 (by decide) (fun _ => ?_) (fun c9 => absurd c9 (by decide))
  refine lv_iload_n hx hb dL_act_138 rfl (lv_at hl 1 rfl) ?_
  refine lv_bipush (v := 8) hx hb dL_act_139 (by decide) ?_
  refine lv_icmp_ne (tgt := 152) hx hb dL_act_141 (by decide) (fun _ => ?_) (fun c9 => absurd c9 (by decide))
  refine lv_iload_n hx hb dL_act_152 rfl (lv_at hl 1 rfl) ?_
  refine lv_bipush (v := 9) hx hb dL_act_153 (by decide) ?_
  refine lv_icmp_ne (tgt := 166) hx hb dL_act_155 (by decide) (fun _ => ?_) (fun c9 => absurd c9 (by decide))
  refine lv_iload_n hx hb dL_act_166 rfl (lv_at hl 1 rfl) ?_
  refine lv_bipush (v := 10) hx hb dL_act_167 (by decide) ?_
  refine lv_icmp_ne (tgt := 181) hx hb dL_act_169 (by decide) (fun _ => ?_) (fun c9 => absurd c9 (by decide))
  refine lv_iload_n hx hb dL_act_181 rfl (lv_at hl 1 rfl) ?_
  refine lv_bipush (v := 11) hx hb dL_act_182 (by decide) ?_
  refine lv_icmp_ne (tgt := 198) hx hb dL_act_184 (by decide) (fun _ => ?_) (fun c9 => absurd c9 (by decide))
  refine lv_iload_n hx hb dL_act_198 rfl (lv_at hl 1 rfl) ?_
  refine lv_bipush (v := 12) hx hb dL_act_199 (by decide) ?_
  refine lv_icmp_ne (tgt := 212) hx hb dL_act_201 (by decide) (fun _ => ?_) (fun c9 => absurd c9 (by decide))
  refine lv_iload_n hx hb dL_act_212 rfl (lv_at hl 1 rfl) ?_
  refine lv_bipush (v := 13) hx hb dL_act_213 (by decide) ?_
  refine lv_icmp_ne (tgt := 225) hx hb dL_act_215 (by decide) (fun c9 => absurd (by decide) c9) (fun _ => ?_)
  refine lv_aload_n hx hb dL_act_218 rfl (lv_at hl 0 rfl) ?_
  refine vx_calli (vx_runV (As := []) (rest := []) ⟨hx, hb, hml, hown, hts⟩ (t_X2_accept l hlt D cyI cyZ ad zb zo zt zm zu zr zl zf (by rw [hx9]; decide)) (cwV 0 hts gL_act_X2_accept rfl rfl rfl (by decide +kernel) ⟨Nat.le_of_ble_eq_true rfl, Nat.le_of_ble_eq_true rfl⟩) (ptV hG (hz.kept va_S.rf) hP (ci := 2) rfl rfl rfl) rfl rfl hl.1 rfl (lv_room (Nat.le_of_ble_eq_true rfl)) dL_act_219 ⟨Nat.le_of_ble_eq_true rfl, Nat.le_of_ble_eq_true rfl⟩) hS (fun _ _ h => h.elim) (fun _ h => h.elim) (fun _ _ h => h.elim) (fun E ce q9 u t H1 locs1 ht _ _ hE _ hk1 hS1 hce hcv hcl => ?_) (fun r u t H1 locs1 ht hvm h hb9 hz1 hk1 hS1 => h.elim)
  obtain rfl : E = "java/lang/IllegalStateException" := hE.trans (by rw [hx9]; rfl)
  have hP1 : va_P D vwCl (wZ cyI cyZ ad zb zo zt zm zu zr zl zf) H1 := hP.kept (fun k q hq => hk1 q.1 (hP k q hq).lt id)
  refine vx_catch (own := RL) (name := "java/lang/IllegalStateException") hown [(⟨0, 288, 289, 72⟩ : ExceptionTableEntry), (⟨0, 288, 295, 74⟩ : ExceptionTableEntry)] (⟨0, 288, 301, 76⟩ : ExceptionTableEntry) [] ((vx_table (x := yL_act) B (hts _ List.mem_cons_self)).trans rfl) (ps_cons (Or.inr ⟨by decide, "java/lang/IndexOutOfBoundsException", (hts (.classLink RL 72 "java/lang/IndexOutOfBoundsException") (List.mem_of_getElem? (i := 1) rfl)), hn.2.1⟩) (ps_cons (Or.inr ⟨by decide, "java/lang/IllegalArgumentException", (hts (.classLink RL 74 "java/lang/IllegalArgumentException") (List.mem_of_getElem? (i := 2) rfl)), hn.2.2⟩) ps_nil)) (by decide) (by decide) (hts (.classLink RL 76 "java/lang/IllegalStateException") (List.mem_of_getElem? (i := 3) rfl)) (va_Nw.use rfl (hz.2.2.2.1 "java/lang/IllegalStateException" (by decide))) hce hcv hcl ?_
  refine lv_astore (lv' := [(6, .ref q9)]) hx hb dL_act_301 (lv_sub hl [] rfl) (by decide) rfl (fun ls hl => ?_)
  refine lv_sipush (v := (-20003)) hx hb dL_act_303 (by decide) ?_
  exact W.iret (v := (-20003)) hx hb hr (fun t ht hW => ⟨⟨(-20003), (), rfl, rfl, by rw [ht]; exact hP1, hD⟩, hS1.F ht⟩) hS1.2.2 dL_act_306
set_option maxHeartbeats 4000000 in
set_option maxRecDepth 100000 in
theorem t_A14_1 (l : Launch) (hlt : l.stackTraces = false) (D : va_G) (cyI cyZ : ClassId) (ad : Nat → Nat) (zb : Tr) (zo : Tr) (zt : Tr) (zm : Tr) (zu : Nat → Int32) (zr : Nat → Int32) (zl : Lr) (zf : Int32) (p1 : Int32) (p2 : Int32) (p3 : Int32) (p4 : Int32) (A : Nat → Prop) (sz : Nat) (hAe : A = va_A (wZ cyI cyZ ad zb zo zt zm zu zr zl zf) sz) (hx9 : f_X2_cellByChanges_x zb zo zt zu p1 p2 = 1) : Met l yL_act wsL_act ({ frames := 8, cells := 1, slots := 6, locals := 159 } : Room) (pcO D cyI cyZ sz [.ref (ad 0), .int 14, .int p1, .int p2, .int p3, .int p4] (wZ cyI cyZ ad zb zo zt zm zu zr zl zf)) (mI D A (wZ cyI cyZ ad zb zo zt zm zu zr zl zf) (-20001)) 1 6 A := by
  refine va_MetW (cc := cL_act) (maxL := 7) (ret := some .int) (hh := [(0, 288, 289, 72), (0, 288, 295, 74), (0, 288, 301, 76)]) (by decide) rfl ?_
  intro p e s m args below meth c s₁ B hml hv
  obtain ⟨rfl, hsz, hP, hG, ⟨hz, hn⟩, hD0⟩ := hv
  have hx := B.exec
  have hb := B.bytes
  have hr := B.returns
  have hts := atoms_spec (ws := wsL_act) B.pre
  have hown : s.vm.findClass RL = some m.cls := findClass_of_methodNamed B.named
  subst hsz
  have hD : va_D A (wZ cyI cyZ ad zb zo zt zm zu zr zl zf) := by rw [hAe]; exact hD0.self
  have hA : ∀ q : Nat, s.heap.size ≤ q → A q := fun q h => by rw [hAe]; exact Or.inr h
  clear hAe hD0
  have hz := hz.zq
  have hS : va_S A s.heap s.heap [] := va_S.rf
  have hl := lv_entry ([.ref (ad 0), .int 14, .int p1, .int p2, .int p3, .int p4]) (n := 7) (Nat.le_of_ble_eq_true rfl)
  rw [lg_entry_eq]
  generalize (lg_sl ([.ref (ad 0), .int 14, .int p1, .int p2, .int p3, .int p4]) ++ List.replicate (7 - (lg_sl ([.ref (ad 0), .int 14, .int p1, .int p2, .int p3, .int p4])).length) Slot.unset).toArray = ls at hl ⊢
  have hl : lv_has ls 7 [(0, .ref (ad 0)), (1, .int 14), (2, .int p1), (3, .int p2), (4, .int p3), (5, .int p4)] := hl
  have hP : va_P D vwCl (wZ cyI cyZ ad zb zo zt zm zu zr zl zf) s.heap := hP
  refine lv_iload_n hx hb dL_act_0 rfl (lv_at hl 1 rfl) ?_
  refine lv_if_ne (tgt := 15) hx hb dL_act_1 (by decide) (fun _ => ?_) (fun c9 => absurd c9 (by decide))
  refine lv_iload_n hx hb dL_act_15 rfl (lv_at hl 1 rfl) ?_
  refine lv_iconst (v := 1) hx hb dL_act_16 (by decide) ?_
  refine lv_icmp_ne (tgt := 29) hx hb dL_act_17 (by decide) (fun _ => ?_) (fun c9 => absurd c9 (by decide))
  refine lv_iload_n hx hb dL_act_29 rfl (lv_at hl 1 rfl) ?_
  refine lv_iconst (v := 2) hx hb dL_act_30 (by decide) ?_
  refine lv_icmp_ne (tgt := 45) hx hb dL_act_31 (by decide) (fun _ => ?_) (fun c9 => absurd c9 (by decide))
  refine lv_iload_n hx hb dL_act_45 rfl (lv_at hl 1 rfl) ?_
  refine lv_iconst (v := 3) hx hb dL_act_46 (by decide) ?_
  refine lv_icmp_ne (tgt := 59) hx hb dL_act_47 (by decide) (fun _ => ?_) (fun c9 => absurd c9 (by decide))
  refine lv_iload_n hx hb dL_act_59 rfl (lv_at hl 1 rfl) ?_
  refine lv_iconst (v := 4) hx hb dL_act_60 (by decide) ?_
  refine lv_icmp_ne (tgt := 73) hx hb dL_act_61 (by decide) (fun _ => ?_) (fun c9 => absurd c9 (by decide))
  refine lv_iload_n hx hb dL_act_73 rfl (lv_at hl 1 rfl) ?_
  refine lv_iconst (v := 5) hx hb dL_act_74 (by decide) ?_
  refine lv_icmp_ne (tgt := 91) hx hb dL_act_75 (by decide) (fun _ => ?_) (fun c9 => absurd c9 (by decide))
  refine lv_iload_n hx hb dL_act_91 rfl (lv_at hl 1 rfl) ?_
  refine lv_bipush (v := 6) hx hb dL_act_92 (by decide) ?_
  refine lv_icmp_ne (tgt := 106) hx hb dL_act_94 (by decide) (fun _ => ?_) (fun c9 => absurd c9 (by decide))
  refine lv_iload_n hx hb dL_act_106 rfl (lv_at hl 1 rfl) ?_
  refine lv_bipush (v := 7) hx hb dL_act_107 (by decide) ?_
  refine lv_icmp_ne (tgt := 138) hx hb dL_act_109 (by decide) (fun _ => ?_) (fun c9 => absurd c9 (by decide))
  refine lv_iload_n hx hb dL_act_138 rfl (lv_at hl 1 rfl) ?_
  refine lv_bipush (v := 8) hx hb dL_act_139 (by decide) ?_
  refine lv_icmp_ne (tgt := 152) hx hb dL_act_141 (by decide) (fun _ => ?_) (fun c9 => absurd c9 (by decide))
  refine lv_iload_n hx hb dL_act_152 rfl (lv_at hl 1 rfl) ?_
  refine lv_bipush (v := 9) hx hb dL_act_153 (by decide) ?_
  refine lv_icmp_ne (tgt := 166) hx hb dL_act_155 (by decide) (fun _ => ?_) (fun c9 => absurd c9 (by decide))
  refine lv_iload_n hx hb dL_act_166 rfl (lv_at hl 1 rfl) ?_
  refine lv_bipush (v := 10) hx hb dL_act_167 (by decide) ?_
  refine lv_icmp_ne (tgt := 181) hx hb dL_act_169 (by decide) (fun _ => ?_) (fun c9 => absurd c9 (by decide))
  refine lv_iload_n hx hb dL_act_181 rfl (lv_at hl 1 rfl) ?_
  refine lv_bipush (v := 11) hx hb dL_act_182 (by decide) ?_
  refine lv_icmp_ne (tgt := 198) hx hb dL_act_184 (by decide) (fun _ => ?_) (fun c9 => absurd c9 (by decide))
  refine lv_iload_n hx hb dL_act_198 rfl (lv_at hl 1 rfl) ?_
  refine lv_bipush (v := 12) hx hb dL_act_199 (by decide) ?_
  refine lv_icmp_ne (tgt := 212) hx hb dL_act_201 (by decide) (fun _ => ?_) (fun c9 => absurd c9 (by decide))
  refine lv_iload_n hx hb dL_act_212 rfl (lv_at hl 1 rfl) ?_
  refine lv_bipush (v := 13) hx hb dL_act_213 (by decide) ?_
  refine lv_icmp_ne (tgt := 225) hx hb dL_act_215 (by decide) (fun _ => ?_) (fun c9 => absurd c9 (by decide))
  refine lv_iload_n hx hb dL_act_225 rfl (lv_at hl 1 rfl) ?_
  refine lv_bipush (v := 14) hx hb dL_act_226 (by decide) ?_
  refine lv_icmp_ne (tgt := 240) hx hb dL_act_228 (by decide) (fun c9 => absurd (by decide) c9) (fun _ => ?_)
  refine lv_aload_n hx hb dL_act_231 rfl (lv_at hl 0 rfl) ?_
  refine lv_iload_n hx hb dL_act_232 rfl (lv_at hl 2 rfl) ?_
  refine lv_iload_n hx hb dL_act_233 rfl (lv_at hl 3 rfl) ?_
  refine vx_calli (vx_runV (As := [.int p1, .int p2]) (rest := []) ⟨hx, hb, hml, hown, hts⟩ (t_X2_cellByChanges l hlt D cyI cyZ ad zb zo zt zm zu zr zl zf p1 p2 (by rw [hx9]; decide)) (cwV 2 hts gL_act_X2_cellByChanges rfl rfl rfl (by decide +kernel) ⟨Nat.le_of_ble_eq_true rfl, Nat.le_of_ble_eq_true rfl⟩) (ptV hG (hz.kept va_S.rf) hP (ci := 2) rfl rfl rfl) rfl rfl hl.1 rfl (lv_room (Nat.le_of_ble_eq_true rfl)) dL_act_234 ⟨Nat.le_of_ble_eq_true rfl, Nat.le_of_ble_eq_true rfl⟩) hS (fun _ _ h => h.elim) (fun _ h => h.elim) (fun _ _ h => h.elim) (fun E ce q9 u t H1 locs1 ht _ _ hE _ hk1 hS1 hce hcv hcl => ?_) (fun r u t H1 locs1 ht hvm h hb9 hz1 hk1 hS1 => h.elim)
  obtain rfl : E = "java/lang/IndexOutOfBoundsException" := hE.trans (by rw [hx9]; rfl)
  have hP1 : va_P D vwCl (wZ cyI cyZ ad zb zo zt zm zu zr zl zf) H1 := hP.kept (fun k q hq => hk1 q.1 (hP k q hq).lt id)
  refine vx_catch (own := RL) (name := "java/lang/IndexOutOfBoundsException") hown [] (⟨0, 288, 289, 72⟩ : ExceptionTableEntry) [(⟨0, 288, 295, 74⟩ : ExceptionTableEntry), (⟨0, 288, 301, 76⟩ : ExceptionTableEntry)] ((vx_table (x := yL_act) B (hts _ List.mem_cons_self)).trans rfl) ps_nil (by decide) (by decide) (hts (.classLink RL 72 "java/lang/IndexOutOfBoundsException") (List.mem_of_getElem? (i := 1) rfl)) (va_Nw.use rfl (hz.2.2.2.1 "java/lang/IndexOutOfBoundsException" (by decide))) hce hcv hcl ?_
  refine lv_astore (lv' := [(6, .ref q9)]) hx hb dL_act_289 (lv_sub hl [] rfl) (by decide) rfl (fun ls hl => ?_)
  refine lv_sipush (v := (-20001)) hx hb dL_act_291 (by decide) ?_
  exact W.iret (v := (-20001)) hx hb hr (fun t ht hW => ⟨⟨(-20001), (), rfl, rfl, by rw [ht]; exact hP1, hD⟩, hS1.F ht⟩) hS1.2.2 dL_act_294
set_option maxHeartbeats 4000000 in
set_option maxRecDepth 100000 in
theorem t_A15_1 (l : Launch) (hlt : l.stackTraces = false) (D : va_G) (cyI cyZ : ClassId) (ad : Nat → Nat) (zb : Tr) (zo : Tr) (zt : Tr) (zm : Tr) (zu : Nat → Int32) (zr : Nat → Int32) (zl : Lr) (zf : Int32) (p1 : Int32) (p2 : Int32) (p3 : Int32) (p4 : Int32) (A : Nat → Prop) (sz : Nat) (hAe : A = va_A (wZ cyI cyZ ad zb zo zt zm zu zr zl zf) sz) (hx9 : f_X2_kindOf_x zl p1 = 1) : Met l yL_act wsL_act ({ frames := 8, cells := 1, slots := 6, locals := 142 } : Room) (pcO D cyI cyZ sz [.ref (ad 0), .int 15, .int p1, .int p2, .int p3, .int p4] (wZ cyI cyZ ad zb zo zt zm zu zr zl zf)) (mI D A (wZ cyI cyZ ad zb zo zt zm zu zr zl zf) (-20001)) 1 6 A := by
  refine va_MetW (cc := cL_act) (maxL := 7) (ret := some .int) (hh := [(0, 288, 289, 72), (0, 288, 295, 74), (0, 288, 301, 76)]) (by decide) rfl ?_
  intro p e s m args below meth c s₁ B hml hv
  obtain ⟨rfl, hsz, hP, hG, ⟨hz, hn⟩, hD0⟩ := hv
  have hx := B.exec
  have hb := B.bytes
  have hr := B.returns
  have hts := atoms_spec (ws := wsL_act) B.pre
  have hown : s.vm.findClass RL = some m.cls := findClass_of_methodNamed B.named
  subst hsz
  have hD : va_D A (wZ cyI cyZ ad zb zo zt zm zu zr zl zf) := by rw [hAe]; exact hD0.self
  have hA : ∀ q : Nat, s.heap.size ≤ q → A q := fun q h => by rw [hAe]; exact Or.inr h
  clear hAe hD0
  have hz := hz.zq
  have hS : va_S A s.heap s.heap [] := va_S.rf
  have hl := lv_entry ([.ref (ad 0), .int 15, .int p1, .int p2, .int p3, .int p4]) (n := 7) (Nat.le_of_ble_eq_true rfl)
  rw [lg_entry_eq]
  generalize (lg_sl ([.ref (ad 0), .int 15, .int p1, .int p2, .int p3, .int p4]) ++ List.replicate (7 - (lg_sl ([.ref (ad 0), .int 15, .int p1, .int p2, .int p3, .int p4])).length) Slot.unset).toArray = ls at hl ⊢
  have hl : lv_has ls 7 [(0, .ref (ad 0)), (1, .int 15), (2, .int p1), (3, .int p2), (4, .int p3), (5, .int p4)] := hl
  have hP : va_P D vwCl (wZ cyI cyZ ad zb zo zt zm zu zr zl zf) s.heap := hP
  refine lv_iload_n hx hb dL_act_0 rfl (lv_at hl 1 rfl) ?_
  refine lv_if_ne (tgt := 15) hx hb dL_act_1 (by decide) (fun _ => ?_) (fun c9 => absurd c9 (by decide))
  refine lv_iload_n hx hb dL_act_15 rfl (lv_at hl 1 rfl) ?_
  refine lv_iconst (v := 1) hx hb dL_act_16 (by decide) ?_
  refine lv_icmp_ne (tgt := 29) hx hb dL_act_17 (by decide) (fun _ => ?_) (fun c9 => absurd c9 (by decide))
  refine lv_iload_n hx hb dL_act_29 rfl (lv_at hl 1 rfl) ?_
  refine lv_iconst (v := 2) hx hb dL_act_30 (by decide) ?_
  refine lv_icmp_ne (tgt := 45) hx hb dL_act_31 (by decide) (fun _ => ?_) (fun c9 => absurd c9 (by decide))
  refine lv_iload_n hx hb dL_act_45 rfl (lv_at hl 1 rfl) ?_
  refine lv_iconst (v := 3) hx hb dL_act_46 (by decide) ?_
  refine lv_icmp_ne (tgt := 59) hx hb dL_act_47 (by decide) (fun _ => ?_) (fun c9 => absurd c9 (by decide))
  refine lv_iload_n hx hb dL_act_59 rfl (lv_at hl 1 rfl) ?_
  refine lv_iconst (v := 4) hx hb dL_act_60 (by decide) ?_
  refine lv_icmp_ne (tgt := 73) hx hb dL_act_61 (by decide) (fun _ => ?_) (fun c9 => absurd c9 (by decide))
  refine lv_iload_n hx hb dL_act_73 rfl (lv_at hl 1 rfl) ?_
  refine lv_iconst (v := 5) hx hb dL_act_74 (by decide) ?_
  refine lv_icmp_ne (tgt := 91) hx hb dL_act_75 (by decide) (fun _ => ?_) (fun c9 => absurd c9 (by decide))
  refine lv_iload_n hx hb dL_act_91 rfl (lv_at hl 1 rfl) ?_
  refine lv_bipush (v := 6) hx hb dL_act_92 (by decide) ?_
  refine lv_icmp_ne (tgt := 106) hx hb dL_act_94 (by decide) (fun _ => ?_) (fun c9 => absurd c9 (by decide))
  refine lv_iload_n hx hb dL_act_106 rfl (lv_at hl 1 rfl) ?_
  refine lv_bipush (v := 7) hx hb dL_act_107 (by decide) ?_
  refine lv_icmp_ne (tgt := 138) hx hb dL_act_109 (by decide) (fun _ => ?_) (fun c9 => absurd c9 (by decide))
  refine lv_iload_n hx hb dL_act_138 rfl (lv_at hl 1 rfl) ?_
  refine lv_bipush (v := 8) hx hb dL_act_139 (by decide) ?_
  refine lv_icmp_ne (tgt := 152) hx hb dL_act_141 (by decide) (fun _ => ?_) (fun c9 => absurd c9 (by decide))
  refine lv_iload_n hx hb dL_act_152 rfl (lv_at hl 1 rfl) ?_
  refine lv_bipush (v := 9) hx hb dL_act_153 (by decide) ?_
  refine lv_icmp_ne (tgt := 166) hx hb dL_act_155 (by decide) (fun _ => ?_) (fun c9 => absurd c9 (by decide))
  refine lv_iload_n hx hb dL_act_166 rfl (lv_at hl 1 rfl) ?_
  refine lv_bipush (v := 10) hx hb dL_act_167 (by decide) ?_
  refine lv_icmp_ne (tgt := 181) hx hb dL_act_169 (by decide) (fun _ => ?_) (fun c9 => absurd c9 (by decide))
  refine lv_iload_n hx hb dL_act_181 rfl (lv_at hl 1 rfl) ?_
  refine lv_bipush (v := 11) hx hb dL_act_182 (by decide) ?_
  refine lv_icmp_ne (tgt := 198) hx hb dL_act_184 (by decide) (fun _ => ?_) (fun c9 => absurd c9 (by decide))
  refine lv_iload_n hx hb dL_act_198 rfl (lv_at hl 1 rfl) ?_
  refine lv_bipush (v := 12) hx hb dL_act_199 (by decide) ?_
  refine lv_icmp_ne (tgt := 212) hx hb dL_act_201 (by decide) (fun _ => ?_) (fun c9 => absurd c9 (by decide))
  refine lv_iload_n hx hb dL_act_212 rfl (lv_at hl 1 rfl) ?_
  refine lv_bipush (v := 13) hx hb dL_act_213 (by decide) ?_
  refine lv_icmp_ne (tgt := 225) hx hb dL_act_215 (by decide) (fun _ => ?_) (fun c9 => absurd c9 (by decide))
  refine lv_iload_n hx hb dL_act_225 rfl (lv_at hl 1 rfl) ?_
  refine lv_bipush (v := 14) hx hb dL_act_226 (by decide) ?_
  refine lv_icmp_ne (tgt := 240) hx hb dL_act_228 (by decide) (fun _ => ?_) (fun c9 => absurd c9 (by decide))
  refine lv_iload_n hx hb dL_act_240 rfl (lv_at hl 1 rfl) ?_
  refine lv_bipush (v := 15) hx hb dL_act_241 (by decide) ?_
  refine lv_icmp_ne (tgt := 254) hx hb dL_act_243 (by decide) (fun c9 => absurd (by decide) c9) (fun _ => ?_)
  refine lv_aload_n hx hb dL_act_246 rfl (lv_at hl 0 rfl) ?_
  refine lv_iload_n hx hb dL_act_247 rfl (lv_at hl 2 rfl) ?_
  refine vx_calli (vx_runV (As := [.int p1]) (rest := []) ⟨hx, hb, hml, hown, hts⟩ (t_X2_kindOf l hlt D cyI cyZ ad zb zo zt zm zu zr zl zf p1 (by rw [hx9]; decide)) (cwV 1 hts gL_act_X2_kindOf rfl rfl rfl (by decide +kernel) ⟨Nat.le_of_ble_eq_true rfl, Nat.le_of_ble_eq_true rfl⟩) (ptV hG (hz.kept va_S.rf) hP (ci := 2) rfl rfl rfl) rfl rfl hl.1 rfl (lv_room (Nat.le_of_ble_eq_true rfl)) dL_act_248 ⟨Nat.le_of_ble_eq_true rfl, Nat.le_of_ble_eq_true rfl⟩) hS (fun _ _ h => h.elim) (fun _ h => h.elim) (fun _ _ h => h.elim) (fun E ce q9 u t H1 locs1 ht _ _ hE _ hk1 hS1 hce hcv hcl => ?_) (fun r u t H1 locs1 ht hvm h hb9 hz1 hk1 hS1 => h.elim)
  obtain rfl : E = "java/lang/IndexOutOfBoundsException" := hE.trans (by rw [hx9]; rfl)
  have hP1 : va_P D vwCl (wZ cyI cyZ ad zb zo zt zm zu zr zl zf) H1 := hP.kept (fun k q hq => hk1 q.1 (hP k q hq).lt id)
  refine vx_catch (own := RL) (name := "java/lang/IndexOutOfBoundsException") hown [] (⟨0, 288, 289, 72⟩ : ExceptionTableEntry) [(⟨0, 288, 295, 74⟩ : ExceptionTableEntry), (⟨0, 288, 301, 76⟩ : ExceptionTableEntry)] ((vx_table (x := yL_act) B (hts _ List.mem_cons_self)).trans rfl) ps_nil (by decide) (by decide) (hts (.classLink RL 72 "java/lang/IndexOutOfBoundsException") (List.mem_of_getElem? (i := 1) rfl)) (va_Nw.use rfl (hz.2.2.2.1 "java/lang/IndexOutOfBoundsException" (by decide))) hce hcv hcl ?_
  refine lv_astore (lv' := [(6, .ref q9)]) hx hb dL_act_289 (lv_sub hl [] rfl) (by decide) rfl (fun ls hl => ?_)
  refine lv_sipush (v := (-20001)) hx hb dL_act_291 (by decide) ?_
  exact W.iret (v := (-20001)) hx hb hr (fun t ht hW => ⟨⟨(-20001), (), rfl, rfl, by rw [ht]; exact hP1, hD⟩, hS1.F ht⟩) hS1.2.2 dL_act_294
set_option maxHeartbeats 4000000 in
set_option maxRecDepth 100000 in
theorem t_A16_1 (l : Launch) (hlt : l.stackTraces = false) (D : va_G) (cyI cyZ : ClassId) (ad : Nat → Nat) (zb : Tr) (zo : Tr) (zt : Tr) (zm : Tr) (zu : Nat → Int32) (zr : Nat → Int32) (zl : Lr) (zf : Int32) (p1 : Int32) (p2 : Int32) (p3 : Int32) (p4 : Int32) (A : Nat → Prop) (sz : Nat) (hAe : A = va_A (wZ cyI cyZ ad zb zo zt zm zu zr zl zf) sz) (hx9 : f_X2_keyOf_x zl p1 = 1) : Met l yL_act wsL_act ({ frames := 8, cells := 1, slots := 6, locals := 142 } : Room) (pcO D cyI cyZ sz [.ref (ad 0), .int 16, .int p1, .int p2, .int p3, .int p4] (wZ cyI cyZ ad zb zo zt zm zu zr zl zf)) (mI D A (wZ cyI cyZ ad zb zo zt zm zu zr zl zf) (-20001)) 1 6 A := by
  refine va_MetW (cc := cL_act) (maxL := 7) (ret := some .int) (hh := [(0, 288, 289, 72), (0, 288, 295, 74), (0, 288, 301, 76)]) (by decide) rfl ?_
  intro p e s m args below meth c s₁ B hml hv
  obtain ⟨rfl, hsz, hP, hG, ⟨hz, hn⟩, hD0⟩ := hv
  have hx := B.exec
  have hb := B.bytes
  have hr := B.returns
  have hts := atoms_spec (ws := wsL_act) B.pre
  have hown : s.vm.findClass RL = some m.cls := findClass_of_methodNamed B.named
  subst hsz
  have hD : va_D A (wZ cyI cyZ ad zb zo zt zm zu zr zl zf) := by rw [hAe]; exact hD0.self
  have hA : ∀ q : Nat, s.heap.size ≤ q → A q := fun q h => by rw [hAe]; exact Or.inr h
  clear hAe hD0
  have hz := hz.zq
  have hS : va_S A s.heap s.heap [] := va_S.rf
  have hl := lv_entry ([.ref (ad 0), .int 16, .int p1, .int p2, .int p3, .int p4]) (n := 7) (Nat.le_of_ble_eq_true rfl)
  rw [lg_entry_eq]
  generalize (lg_sl ([.ref (ad 0), .int 16, .int p1, .int p2, .int p3, .int p4]) ++ List.replicate (7 - (lg_sl ([.ref (ad 0), .int 16, .int p1, .int p2, .int p3, .int p4])).length) Slot.unset).toArray = ls at hl ⊢
  have hl : lv_has ls 7 [(0, .ref (ad 0)), (1, .int 16), (2, .int p1), (3, .int p2), (4, .int p3), (5, .int p4)] := hl
  have hP : va_P D vwCl (wZ cyI cyZ ad zb zo zt zm zu zr zl zf) s.heap := hP
  refine lv_iload_n hx hb dL_act_0 rfl (lv_at hl 1 rfl) ?_
  refine lv_if_ne (tgt := 15) hx hb dL_act_1 (by decide) (fun _ => ?_) (fun c9 => absurd c9 (by decide))
  refine lv_iload_n hx hb dL_act_15 rfl (lv_at hl 1 rfl) ?_
  refine lv_iconst (v := 1) hx hb dL_act_16 (by decide) ?_
  refine lv_icmp_ne (tgt := 29) hx hb dL_act_17 (by decide) (fun _ => ?_) (fun c9 => absurd c9 (by decide))
  refine lv_iload_n hx hb dL_act_29 rfl (lv_at hl 1 rfl) ?_
  refine lv_iconst (v := 2) hx hb dL_act_30 (by decide) ?_
  refine lv_icmp_ne (tgt := 45) hx hb dL_act_31 (by decide) (fun _ => ?_) (fun c9 => absurd c9 (by decide))
  refine lv_iload_n hx hb dL_act_45 rfl (lv_at hl 1 rfl) ?_
  refine lv_iconst (v := 3) hx hb dL_act_46 (by decide) ?_
  refine lv_icmp_ne (tgt := 59) hx hb dL_act_47 (by decide) (fun _ => ?_) (fun c9 => absurd c9 (by decide))
  refine lv_iload_n hx hb dL_act_59 rfl (lv_at hl 1 rfl) ?_
  refine lv_iconst (v := 4) hx hb dL_act_60 (by decide) ?_
  refine lv_icmp_ne (tgt := 73) hx hb dL_act_61 (by decide) (fun _ => ?_) (fun c9 => absurd c9 (by decide))
  refine lv_iload_n hx hb dL_act_73 rfl (lv_at hl 1 rfl) ?_
  refine lv_iconst (v := 5) hx hb dL_act_74 (by decide) ?_
  refine lv_icmp_ne (tgt := 91) hx hb dL_act_75 (by decide) (fun _ => ?_) (fun c9 => absurd c9 (by decide))
  refine lv_iload_n hx hb dL_act_91 rfl (lv_at hl 1 rfl) ?_
  refine lv_bipush (v := 6) hx hb dL_act_92 (by decide) ?_
  refine lv_icmp_ne (tgt := 106) hx hb dL_act_94 (by decide) (fun _ => ?_) (fun c9 => absurd c9 (by decide))
  refine lv_iload_n hx hb dL_act_106 rfl (lv_at hl 1 rfl) ?_
  refine lv_bipush (v := 7) hx hb dL_act_107 (by decide) ?_
  refine lv_icmp_ne (tgt := 138) hx hb dL_act_109 (by decide) (fun _ => ?_) (fun c9 => absurd c9 (by decide))
  refine lv_iload_n hx hb dL_act_138 rfl (lv_at hl 1 rfl) ?_
  refine lv_bipush (v := 8) hx hb dL_act_139 (by decide) ?_
  refine lv_icmp_ne (tgt := 152) hx hb dL_act_141 (by decide) (fun _ => ?_) (fun c9 => absurd c9 (by decide))
  refine lv_iload_n hx hb dL_act_152 rfl (lv_at hl 1 rfl) ?_
  refine lv_bipush (v := 9) hx hb dL_act_153 (by decide) ?_
  refine lv_icmp_ne (tgt := 166) hx hb dL_act_155 (by decide) (fun _ => ?_) (fun c9 => absurd c9 (by decide))
  refine lv_iload_n hx hb dL_act_166 rfl (lv_at hl 1 rfl) ?_
  refine lv_bipush (v := 10) hx hb dL_act_167 (by decide) ?_
  refine lv_icmp_ne (tgt := 181) hx hb dL_act_169 (by decide) (fun _ => ?_) (fun c9 => absurd c9 (by decide))
  refine lv_iload_n hx hb dL_act_181 rfl (lv_at hl 1 rfl) ?_
  refine lv_bipush (v := 11) hx hb dL_act_182 (by decide) ?_
  refine lv_icmp_ne (tgt := 198) hx hb dL_act_184 (by decide) (fun _ => ?_) (fun c9 => absurd c9 (by decide))
  refine lv_iload_n hx hb dL_act_198 rfl (lv_at hl 1 rfl) ?_
  refine lv_bipush (v := 12) hx hb dL_act_199 (by decide) ?_
  refine lv_icmp_ne (tgt := 212) hx hb dL_act_201 (by decide) (fun _ => ?_) (fun c9 => absurd c9 (by decide))
  refine lv_iload_n hx hb dL_act_212 rfl (lv_at hl 1 rfl) ?_
  refine lv_bipush (v := 13) hx hb dL_act_213 (by decide) ?_
  refine lv_icmp_ne (tgt := 225) hx hb dL_act_215 (by decide) (fun _ => ?_) (fun c9 => absurd c9 (by decide))
  refine lv_iload_n hx hb dL_act_225 rfl (lv_at hl 1 rfl) ?_
  refine lv_bipush (v := 14) hx hb dL_act_226 (by decide) ?_
  refine lv_icmp_ne (tgt := 240) hx hb dL_act_228 (by decide) (fun _ => ?_) (fun c9 => absurd c9 (by decide))
  refine lv_iload_n hx hb dL_act_240 rfl (lv_at hl 1 rfl) ?_
  refine lv_bipush (v := 15) hx hb dL_act_241 (by decide) ?_
  refine lv_icmp_ne (tgt := 254) hx hb dL_act_243 (by decide) (fun _ => ?_) (fun c9 => absurd c9 (by decide))
  refine lv_iload_n hx hb dL_act_254 rfl (lv_at hl 1 rfl) ?_
  refine lv_bipush (v := 16) hx hb dL_act_255 (by decide) ?_
  refine lv_icmp_ne (tgt := 268) hx hb dL_act_257 (by decide) (fun c9 => absurd (by decide) c9) (fun _ => ?_)
  refine lv_aload_n hx hb dL_act_260 rfl (lv_at hl 0 rfl) ?_
  refine lv_iload_n hx hb dL_act_261 rfl (lv_at hl 2 rfl) ?_
  refine vx_calli (vx_runV (As := [.int p1]) (rest := []) ⟨hx, hb, hml, hown, hts⟩ (t_X2_keyOf l hlt D cyI cyZ ad zb zo zt zm zu zr zl zf p1 (by rw [hx9]; decide)) (cwV 1 hts gL_act_X2_keyOf rfl rfl rfl (by decide +kernel) ⟨Nat.le_of_ble_eq_true rfl, Nat.le_of_ble_eq_true rfl⟩) (ptV hG (hz.kept va_S.rf) hP (ci := 2) rfl rfl rfl) rfl rfl hl.1 rfl (lv_room (Nat.le_of_ble_eq_true rfl)) dL_act_262 ⟨Nat.le_of_ble_eq_true rfl, Nat.le_of_ble_eq_true rfl⟩) hS (fun _ _ h => h.elim) (fun _ h => h.elim) (fun _ _ h => h.elim) (fun E ce q9 u t H1 locs1 ht _ _ hE _ hk1 hS1 hce hcv hcl => ?_) (fun r u t H1 locs1 ht hvm h hb9 hz1 hk1 hS1 => h.elim)
  obtain rfl : E = "java/lang/IndexOutOfBoundsException" := hE.trans (by rw [hx9]; rfl)
  have hP1 : va_P D vwCl (wZ cyI cyZ ad zb zo zt zm zu zr zl zf) H1 := hP.kept (fun k q hq => hk1 q.1 (hP k q hq).lt id)
  refine vx_catch (own := RL) (name := "java/lang/IndexOutOfBoundsException") hown [] (⟨0, 288, 289, 72⟩ : ExceptionTableEntry) [(⟨0, 288, 295, 74⟩ : ExceptionTableEntry), (⟨0, 288, 301, 76⟩ : ExceptionTableEntry)] ((vx_table (x := yL_act) B (hts _ List.mem_cons_self)).trans rfl) ps_nil (by decide) (by decide) (hts (.classLink RL 72 "java/lang/IndexOutOfBoundsException") (List.mem_of_getElem? (i := 1) rfl)) (va_Nw.use rfl (hz.2.2.2.1 "java/lang/IndexOutOfBoundsException" (by decide))) hce hcv hcl ?_
  refine lv_astore (lv' := [(6, .ref q9)]) hx hb dL_act_289 (lv_sub hl [] rfl) (by decide) rfl (fun ls hl => ?_)
  refine lv_sipush (v := (-20001)) hx hb dL_act_291 (by decide) ?_
  exact W.iret (v := (-20001)) hx hb hr (fun t ht hW => ⟨⟨(-20001), (), rfl, rfl, by rw [ht]; exact hP1, hD⟩, hS1.F ht⟩) hS1.2.2 dL_act_294
set_option maxHeartbeats 4000000 in
set_option maxRecDepth 100000 in
theorem t_A17_1 (l : Launch) (hlt : l.stackTraces = false) (D : va_G) (cyI cyZ : ClassId) (ad : Nat → Nat) (zb : Tr) (zo : Tr) (zt : Tr) (zm : Tr) (zu : Nat → Int32) (zr : Nat → Int32) (zl : Lr) (zf : Int32) (p1 : Int32) (p2 : Int32) (p3 : Int32) (p4 : Int32) (A : Nat → Prop) (sz : Nat) (hAe : A = va_A (wZ cyI cyZ ad zb zo zt zm zu zr zl zf) sz) (hx9 : f_X2_columnOf_x zl p1 = 1) : Met l yL_act wsL_act ({ frames := 8, cells := 1, slots := 6, locals := 142 } : Room) (pcO D cyI cyZ sz [.ref (ad 0), .int 17, .int p1, .int p2, .int p3, .int p4] (wZ cyI cyZ ad zb zo zt zm zu zr zl zf)) (mI D A (wZ cyI cyZ ad zb zo zt zm zu zr zl zf) (-20001)) 1 6 A := by
  refine va_MetW (cc := cL_act) (maxL := 7) (ret := some .int) (hh := [(0, 288, 289, 72), (0, 288, 295, 74), (0, 288, 301, 76)]) (by decide) rfl ?_
  intro p e s m args below meth c s₁ B hml hv
  obtain ⟨rfl, hsz, hP, hG, ⟨hz, hn⟩, hD0⟩ := hv
  have hx := B.exec
  have hb := B.bytes
  have hr := B.returns
  have hts := atoms_spec (ws := wsL_act) B.pre
  have hown : s.vm.findClass RL = some m.cls := findClass_of_methodNamed B.named
  subst hsz
  have hD : va_D A (wZ cyI cyZ ad zb zo zt zm zu zr zl zf) := by rw [hAe]; exact hD0.self
  have hA : ∀ q : Nat, s.heap.size ≤ q → A q := fun q h => by rw [hAe]; exact Or.inr h
  clear hAe hD0
  have hz := hz.zq
  have hS : va_S A s.heap s.heap [] := va_S.rf
  have hl := lv_entry ([.ref (ad 0), .int 17, .int p1, .int p2, .int p3, .int p4]) (n := 7) (Nat.le_of_ble_eq_true rfl)
  rw [lg_entry_eq]
  generalize (lg_sl ([.ref (ad 0), .int 17, .int p1, .int p2, .int p3, .int p4]) ++ List.replicate (7 - (lg_sl ([.ref (ad 0), .int 17, .int p1, .int p2, .int p3, .int p4])).length) Slot.unset).toArray = ls at hl ⊢
  have hl : lv_has ls 7 [(0, .ref (ad 0)), (1, .int 17), (2, .int p1), (3, .int p2), (4, .int p3), (5, .int p4)] := hl
  have hP : va_P D vwCl (wZ cyI cyZ ad zb zo zt zm zu zr zl zf) s.heap := hP
  refine lv_iload_n hx hb dL_act_0 rfl (lv_at hl 1 rfl) ?_
  refine lv_if_ne (tgt := 15) hx hb dL_act_1 (by decide) (fun _ => ?_) (fun c9 => absurd c9 (by decide))
  refine lv_iload_n hx hb dL_act_15 rfl (lv_at hl 1 rfl) ?_
  refine lv_iconst (v := 1) hx hb dL_act_16 (by decide) ?_
  refine lv_icmp_ne (tgt := 29) hx hb dL_act_17 (by decide) (fun _ => ?_) (fun c9 => absurd c9 (by decide))
  refine lv_iload_n hx hb dL_act_29 rfl (lv_at hl 1 rfl) ?_
  refine lv_iconst (v := 2) hx hb dL_act_30 (by decide) ?_
  refine lv_icmp_ne (tgt := 45) hx hb dL_act_31 (by decide) (fun _ => ?_) (fun c9 => absurd c9 (by decide))
  refine lv_iload_n hx hb dL_act_45 rfl (lv_at hl 1 rfl) ?_
  refine lv_iconst (v := 3) hx hb dL_act_46 (by decide) ?_
  refine lv_icmp_ne (tgt := 59) hx hb dL_act_47 (by decide) (fun _ => ?_) (fun c9 => absurd c9 (by decide))
  refine lv_iload_n hx hb dL_act_59 rfl (lv_at hl 1 rfl) ?_
  refine lv_iconst (v := 4) hx hb dL_act_60 (by decide) ?_
  refine lv_icmp_ne (tgt := 73) hx hb dL_act_61 (by decide) (fun _ => ?_) (fun c9 => absurd c9 (by decide))
  refine lv_iload_n hx hb dL_act_73 rfl (lv_at hl 1 rfl) ?_
  refine lv_iconst (v := 5) hx hb dL_act_74 (by decide) ?_
  refine lv_icmp_ne (tgt := 91) hx hb dL_act_75 (by decide) (fun _ => ?_) (fun c9 => absurd c9 (by decide))
  refine lv_iload_n hx hb dL_act_91 rfl (lv_at hl 1 rfl) ?_
  refine lv_bipush (v := 6) hx hb dL_act_92 (by decide) ?_
  refine lv_icmp_ne (tgt := 106) hx hb dL_act_94 (by decide) (fun _ => ?_) (fun c9 => absurd c9 (by decide))
  refine lv_iload_n hx hb dL_act_106 rfl (lv_at hl 1 rfl) ?_
  refine lv_bipush (v := 7) hx hb dL_act_107 (by decide) ?_
  refine lv_icmp_ne (tgt := 138) hx hb dL_act_109 (by decide) (fun _ => ?_) (fun c9 => absurd c9 (by decide))
  refine lv_iload_n hx hb dL_act_138 rfl (lv_at hl 1 rfl) ?_
  refine lv_bipush (v := 8) hx hb dL_act_139 (by decide) ?_
  refine lv_icmp_ne (tgt := 152) hx hb dL_act_141 (by decide) (fun _ => ?_) (fun c9 => absurd c9 (by decide))
  refine lv_iload_n hx hb dL_act_152 rfl (lv_at hl 1 rfl) ?_
  refine lv_bipush (v := 9) hx hb dL_act_153 (by decide) ?_
  refine lv_icmp_ne (tgt := 166) hx hb dL_act_155 (by decide) (fun _ => ?_) (fun c9 => absurd c9 (by decide))
  refine lv_iload_n hx hb dL_act_166 rfl (lv_at hl 1 rfl) ?_
  refine lv_bipush (v := 10) hx hb dL_act_167 (by decide) ?_
  refine lv_icmp_ne (tgt := 181) hx hb dL_act_169 (by decide) (fun _ => ?_) (fun c9 => absurd c9 (by decide))
  refine lv_iload_n hx hb dL_act_181 rfl (lv_at hl 1 rfl) ?_
  refine lv_bipush (v := 11) hx hb dL_act_182 (by decide) ?_
  refine lv_icmp_ne (tgt := 198) hx hb dL_act_184 (by decide) (fun _ => ?_) (fun c9 => absurd c9 (by decide))
  refine lv_iload_n hx hb dL_act_198 rfl (lv_at hl 1 rfl) ?_
  refine lv_bipush (v := 12) hx hb dL_act_199 (by decide) ?_
  refine lv_icmp_ne (tgt := 212) hx hb dL_act_201 (by decide) (fun _ => ?_) (fun c9 => absurd c9 (by decide))
  refine lv_iload_n hx hb dL_act_212 rfl (lv_at hl 1 rfl) ?_
  refine lv_bipush (v := 13) hx hb dL_act_213 (by decide) ?_
  refine lv_icmp_ne (tgt := 225) hx hb dL_act_215 (by decide) (fun _ => ?_) (fun c9 => absurd c9 (by decide))
  refine lv_iload_n hx hb dL_act_225 rfl (lv_at hl 1 rfl) ?_
  refine lv_bipush (v := 14) hx hb dL_act_226 (by decide) ?_
  refine lv_icmp_ne (tgt := 240) hx hb dL_act_228 (by decide) (fun _ => ?_) (fun c9 => absurd c9 (by decide))
  refine lv_iload_n hx hb dL_act_240 rfl (lv_at hl 1 rfl) ?_
  refine lv_bipush (v := 15) hx hb dL_act_241 (by decide) ?_
  refine lv_icmp_ne (tgt := 254) hx hb dL_act_243 (by decide) (fun _ => ?_) (fun c9 => absurd c9 (by decide))
  refine lv_iload_n hx hb dL_act_254 rfl (lv_at hl 1 rfl) ?_
  refine lv_bipush (v := 16) hx hb dL_act_255 (by decide) ?_
  refine lv_icmp_ne (tgt := 268) hx hb dL_act_257 (by decide) (fun _ => ?_) (fun c9 => absurd c9 (by decide))
  refine lv_iload_n hx hb dL_act_268 rfl (lv_at hl 1 rfl) ?_
  refine lv_bipush (v := 17) hx hb dL_act_269 (by decide) ?_
  refine lv_icmp_ne (tgt := 282) hx hb dL_act_271 (by decide) (fun c9 => absurd (by decide) c9) (fun _ => ?_)
  refine lv_aload_n hx hb dL_act_274 rfl (lv_at hl 0 rfl) ?_
  refine lv_iload_n hx hb dL_act_275 rfl (lv_at hl 2 rfl) ?_
  refine vx_calli (vx_runV (As := [.int p1]) (rest := []) ⟨hx, hb, hml, hown, hts⟩ (t_X2_columnOf l hlt D cyI cyZ ad zb zo zt zm zu zr zl zf p1 (by rw [hx9]; decide)) (cwV 1 hts gL_act_X2_columnOf rfl rfl rfl (by decide +kernel) ⟨Nat.le_of_ble_eq_true rfl, Nat.le_of_ble_eq_true rfl⟩) (ptV hG (hz.kept va_S.rf) hP (ci := 2) rfl rfl rfl) rfl rfl hl.1 rfl (lv_room (Nat.le_of_ble_eq_true rfl)) dL_act_276 ⟨Nat.le_of_ble_eq_true rfl, Nat.le_of_ble_eq_true rfl⟩) hS (fun _ _ h => h.elim) (fun _ h => h.elim) (fun _ _ h => h.elim) (fun E ce q9 u t H1 locs1 ht _ _ hE _ hk1 hS1 hce hcv hcl => ?_) (fun r u t H1 locs1 ht hvm h hb9 hz1 hk1 hS1 => h.elim)
  obtain rfl : E = "java/lang/IndexOutOfBoundsException" := hE.trans (by rw [hx9]; rfl)
  have hP1 : va_P D vwCl (wZ cyI cyZ ad zb zo zt zm zu zr zl zf) H1 := hP.kept (fun k q hq => hk1 q.1 (hP k q hq).lt id)
  refine vx_catch (own := RL) (name := "java/lang/IndexOutOfBoundsException") hown [] (⟨0, 288, 289, 72⟩ : ExceptionTableEntry) [(⟨0, 288, 295, 74⟩ : ExceptionTableEntry), (⟨0, 288, 301, 76⟩ : ExceptionTableEntry)] ((vx_table (x := yL_act) B (hts _ List.mem_cons_self)).trans rfl) ps_nil (by decide) (by decide) (hts (.classLink RL 72 "java/lang/IndexOutOfBoundsException") (List.mem_of_getElem? (i := 1) rfl)) (va_Nw.use rfl (hz.2.2.2.1 "java/lang/IndexOutOfBoundsException" (by decide))) hce hcv hcl ?_
  refine lv_astore (lv' := [(6, .ref q9)]) hx hb dL_act_289 (lv_sub hl [] rfl) (by decide) rfl (fun ls hl => ?_)
  refine lv_sipush (v := (-20001)) hx hb dL_act_291 (by decide) ?_
  exact W.iret (v := (-20001)) hx hb hr (fun t ht hW => ⟨⟨(-20001), (), rfl, rfl, by rw [ht]; exact hP1, hD⟩, hS1.F ht⟩) hS1.2.2 dL_act_294
set_option maxHeartbeats 4000000 in
set_option maxRecDepth 100000 in
theorem t_A18_1 (l : Launch) (hlt : l.stackTraces = false) (D : va_G) (cyI cyZ : ClassId) (ad : Nat → Nat) (zb : Tr) (zo : Tr) (zt : Tr) (zm : Tr) (zu : Nat → Int32) (zr : Nat → Int32) (zl : Lr) (zf : Int32) (p1 : Int32) (p2 : Int32) (p3 : Int32) (p4 : Int32) (A : Nat → Prop) (sz : Nat) (hAe : A = va_A (wZ cyI cyZ ad zb zo zt zm zu zr zl zf) sz) (hx9 : f_X2_settle_x zl zf p1 p2 = 1) : Met l yL_act wsL_act ({ frames := 8, cells := 1, slots := 6, locals := 144 } : Room) (pcO D cyI cyZ sz [.ref (ad 0), .int 18, .int p1, .int p2, .int p3, .int p4] (wZ cyI cyZ ad zb zo zt zm zu zr zl zf)) (mI D A (wZ cyI cyZ ad zb zo zt zm zu zr zl zf) (-20001)) 1 6 A := by
  refine va_MetW (cc := cL_act) (maxL := 7) (ret := some .int) (hh := [(0, 288, 289, 72), (0, 288, 295, 74), (0, 288, 301, 76)]) (by decide) rfl ?_
  intro p e s m args below meth c s₁ B hml hv
  obtain ⟨rfl, hsz, hP, hG, ⟨hz, hn⟩, hD0⟩ := hv
  have hx := B.exec
  have hb := B.bytes
  have hr := B.returns
  have hts := atoms_spec (ws := wsL_act) B.pre
  have hown : s.vm.findClass RL = some m.cls := findClass_of_methodNamed B.named
  subst hsz
  have hD : va_D A (wZ cyI cyZ ad zb zo zt zm zu zr zl zf) := by rw [hAe]; exact hD0.self
  have hA : ∀ q : Nat, s.heap.size ≤ q → A q := fun q h => by rw [hAe]; exact Or.inr h
  clear hAe hD0
  have hz := hz.zq
  have hS : va_S A s.heap s.heap [] := va_S.rf
  have hl := lv_entry ([.ref (ad 0), .int 18, .int p1, .int p2, .int p3, .int p4]) (n := 7) (Nat.le_of_ble_eq_true rfl)
  rw [lg_entry_eq]
  generalize (lg_sl ([.ref (ad 0), .int 18, .int p1, .int p2, .int p3, .int p4]) ++ List.replicate (7 - (lg_sl ([.ref (ad 0), .int 18, .int p1, .int p2, .int p3, .int p4])).length) Slot.unset).toArray = ls at hl ⊢
  have hl : lv_has ls 7 [(0, .ref (ad 0)), (1, .int 18), (2, .int p1), (3, .int p2), (4, .int p3), (5, .int p4)] := hl
  have hP : va_P D vwCl (wZ cyI cyZ ad zb zo zt zm zu zr zl zf) s.heap := hP
  refine lv_iload_n hx hb dL_act_0 rfl (lv_at hl 1 rfl) ?_
  refine lv_if_ne (tgt := 15) hx hb dL_act_1 (by decide) (fun _ => ?_) (fun c9 => absurd c9 (by decide))
  refine lv_iload_n hx hb dL_act_15 rfl (lv_at hl 1 rfl) ?_
  refine lv_iconst (v := 1) hx hb dL_act_16 (by decide) ?_
  refine lv_icmp_ne (tgt := 29) hx hb dL_act_17 (by decide) (fun _ => ?_) (fun c9 => absurd c9 (by decide))
  refine lv_iload_n hx hb dL_act_29 rfl (lv_at hl 1 rfl) ?_
  refine lv_iconst (v := 2) hx hb dL_act_30 (by decide) ?_
  refine lv_icmp_ne (tgt := 45) hx hb dL_act_31 (by decide) (fun _ => ?_) (fun c9 => absurd c9 (by decide))
  refine lv_iload_n hx hb dL_act_45 rfl (lv_at hl 1 rfl) ?_
  refine lv_iconst (v := 3) hx hb dL_act_46 (by decide) ?_
  refine lv_icmp_ne (tgt := 59) hx hb dL_act_47 (by decide) (fun _ => ?_) (fun c9 => absurd c9 (by decide))
  refine lv_iload_n hx hb dL_act_59 rfl (lv_at hl 1 rfl) ?_
  refine lv_iconst (v := 4) hx hb dL_act_60 (by decide) ?_
  refine lv_icmp_ne (tgt := 73) hx hb dL_act_61 (by decide) (fun _ => ?_) (fun c9 => absurd c9 (by decide))
  refine lv_iload_n hx hb dL_act_73 rfl (lv_at hl 1 rfl) ?_
  refine lv_iconst (v := 5) hx hb dL_act_74 (by decide) ?_
  refine lv_icmp_ne (tgt := 91) hx hb dL_act_75 (by decide) (fun _ => ?_) (fun c9 => absurd c9 (by decide))
  refine lv_iload_n hx hb dL_act_91 rfl (lv_at hl 1 rfl) ?_
  refine lv_bipush (v := 6) hx hb dL_act_92 (by decide) ?_
  refine lv_icmp_ne (tgt := 106) hx hb dL_act_94 (by decide) (fun _ => ?_) (fun c9 => absurd c9 (by decide))
  refine lv_iload_n hx hb dL_act_106 rfl (lv_at hl 1 rfl) ?_
  refine lv_bipush (v := 7) hx hb dL_act_107 (by decide) ?_
  refine lv_icmp_ne (tgt := 138) hx hb dL_act_109 (by decide) (fun _ => ?_) (fun c9 => absurd c9 (by decide))
  refine lv_iload_n hx hb dL_act_138 rfl (lv_at hl 1 rfl) ?_
  refine lv_bipush (v := 8) hx hb dL_act_139 (by decide) ?_
  refine lv_icmp_ne (tgt := 152) hx hb dL_act_141 (by decide) (fun _ => ?_) (fun c9 => absurd c9 (by decide))
  refine lv_iload_n hx hb dL_act_152 rfl (lv_at hl 1 rfl) ?_
  refine lv_bipush (v := 9) hx hb dL_act_153 (by decide) ?_
  refine lv_icmp_ne (tgt := 166) hx hb dL_act_155 (by decide) (fun _ => ?_) (fun c9 => absurd c9 (by decide))
  refine lv_iload_n hx hb dL_act_166 rfl (lv_at hl 1 rfl) ?_
  refine lv_bipush (v := 10) hx hb dL_act_167 (by decide) ?_
  refine lv_icmp_ne (tgt := 181) hx hb dL_act_169 (by decide) (fun _ => ?_) (fun c9 => absurd c9 (by decide))
  refine lv_iload_n hx hb dL_act_181 rfl (lv_at hl 1 rfl) ?_
  refine lv_bipush (v := 11) hx hb dL_act_182 (by decide) ?_
  refine lv_icmp_ne (tgt := 198) hx hb dL_act_184 (by decide) (fun _ => ?_) (fun c9 => absurd c9 (by decide))
  refine lv_iload_n hx hb dL_act_198 rfl (lv_at hl 1 rfl) ?_
  refine lv_bipush (v := 12) hx hb dL_act_199 (by decide) ?_
  refine lv_icmp_ne (tgt := 212) hx hb dL_act_201 (by decide) (fun _ => ?_) (fun c9 => absurd c9 (by decide))
  refine lv_iload_n hx hb dL_act_212 rfl (lv_at hl 1 rfl) ?_
  refine lv_bipush (v := 13) hx hb dL_act_213 (by decide) ?_
  refine lv_icmp_ne (tgt := 225) hx hb dL_act_215 (by decide) (fun _ => ?_) (fun c9 => absurd c9 (by decide))
  refine lv_iload_n hx hb dL_act_225 rfl (lv_at hl 1 rfl) ?_
  refine lv_bipush (v := 14) hx hb dL_act_226 (by decide) ?_
  refine lv_icmp_ne (tgt := 240) hx hb dL_act_228 (by decide) (fun _ => ?_) (fun c9 => absurd c9 (by decide))
  refine lv_iload_n hx hb dL_act_240 rfl (lv_at hl 1 rfl) ?_
  refine lv_bipush (v := 15) hx hb dL_act_241 (by decide) ?_
  refine lv_icmp_ne (tgt := 254) hx hb dL_act_243 (by decide) (fun _ => ?_) (fun c9 => absurd c9 (by decide))
  refine lv_iload_n hx hb dL_act_254 rfl (lv_at hl 1 rfl) ?_
  refine lv_bipush (v := 16) hx hb dL_act_255 (by decide) ?_
  refine lv_icmp_ne (tgt := 268) hx hb dL_act_257 (by decide) (fun _ => ?_) (fun c9 => absurd c9 (by decide))
  refine lv_iload_n hx hb dL_act_268 rfl (lv_at hl 1 rfl) ?_
  refine lv_bipush (v := 17) hx hb dL_act_269 (by decide) ?_
  refine lv_icmp_ne (tgt := 282) hx hb dL_act_271 (by decide) (fun _ => ?_) (fun c9 => absurd c9 (by decide))
  refine lv_aload_n hx hb dL_act_282 rfl (lv_at hl 0 rfl) ?_
  refine lv_iload_n hx hb dL_act_283 rfl (lv_at hl 2 rfl) ?_
  refine lv_iload_n hx hb dL_act_284 rfl (lv_at hl 3 rfl) ?_
  refine vx_calli (vx_runV (As := [.int p1, .int p2]) (rest := []) ⟨hx, hb, hml, hown, hts⟩ (t_X2_settle l hlt D cyI cyZ ad zb zo zt zm zu zr zl zf p1 p2 (by rw [hx9]; decide)) (cwV 2 hts gL_act_X2_settle rfl rfl rfl (by decide +kernel) ⟨Nat.le_of_ble_eq_true rfl, Nat.le_of_ble_eq_true rfl⟩) (ptV hG (hz.kept va_S.rf) hP (ci := 2) rfl rfl rfl) rfl rfl hl.1 rfl (lv_room (Nat.le_of_ble_eq_true rfl)) dL_act_285 ⟨Nat.le_of_ble_eq_true rfl, Nat.le_of_ble_eq_true rfl⟩) hS (fun _ _ h => h.elim) (fun _ h => h.elim) (fun _ _ h => h.elim) (fun E ce q9 u t H1 locs1 ht _ _ hE _ hk1 hS1 hce hcv hcl => ?_) (fun r u t H1 locs1 ht hvm h hb9 hz1 hk1 hS1 => h.elim)
  obtain rfl : E = "java/lang/IndexOutOfBoundsException" := hE.trans (by rw [hx9]; rfl)
  have hP1 : va_P D vwCl (wZ cyI cyZ ad zb zo zt zm zu zr zl zf) H1 := hP.kept (fun k q hq => hk1 q.1 (hP k q hq).lt id)
  refine vx_catch (own := RL) (name := "java/lang/IndexOutOfBoundsException") hown [] (⟨0, 288, 289, 72⟩ : ExceptionTableEntry) [(⟨0, 288, 295, 74⟩ : ExceptionTableEntry), (⟨0, 288, 301, 76⟩ : ExceptionTableEntry)] ((vx_table (x := yL_act) B (hts _ List.mem_cons_self)).trans rfl) ps_nil (by decide) (by decide) (hts (.classLink RL 72 "java/lang/IndexOutOfBoundsException") (List.mem_of_getElem? (i := 1) rfl)) (va_Nw.use rfl (hz.2.2.2.1 "java/lang/IndexOutOfBoundsException" (by decide))) hce hcv hcl ?_
  refine lv_astore (lv' := [(6, .ref q9)]) hx hb dL_act_289 (lv_sub hl [] rfl) (by decide) rfl (fun ls hl => ?_)
  refine lv_sipush (v := (-20001)) hx hb dL_act_291 (by decide) ?_
  exact W.iret (v := (-20001)) hx hb hr (fun t ht hW => ⟨⟨(-20001), (), rfl, rfl, by rw [ht]; exact hP1, hD⟩, hS1.F ht⟩) hS1.2.2 dL_act_294
set_option maxHeartbeats 4000000 in
set_option maxRecDepth 100000 in
theorem t_A18_3 (l : Launch) (hlt : l.stackTraces = false) (D : va_G) (cyI cyZ : ClassId) (ad : Nat → Nat) (zb : Tr) (zo : Tr) (zt : Tr) (zm : Tr) (zu : Nat → Int32) (zr : Nat → Int32) (zl : Lr) (zf : Int32) (p1 : Int32) (p2 : Int32) (p3 : Int32) (p4 : Int32) (A : Nat → Prop) (sz : Nat) (hAe : A = va_A (wZ cyI cyZ ad zb zo zt zm zu zr zl zf) sz) (hx9 : f_X2_settle_x zl zf p1 p2 = 3) : Met l yL_act wsL_act ({ frames := 8, cells := 1, slots := 6, locals := 144 } : Room) (pcO D cyI cyZ sz [.ref (ad 0), .int 18, .int p1, .int p2, .int p3, .int p4] (wZ cyI cyZ ad zb zo zt zm zu zr zl zf)) (mI D A (wZ cyI cyZ ad zb zo zt zm zu zr zl zf) (-20003)) 1 6 A := by
  refine va_MetW (cc := cL_act) (maxL := 7) (ret := some .int) (hh := [(0, 288, 289, 72), (0, 288, 295, 74), (0, 288, 301, 76)]) (by decide) rfl ?_
  intro p e s m args below meth c s₁ B hml hv
  obtain ⟨rfl, hsz, hP, hG, ⟨hz, hn⟩, hD0⟩ := hv
  have hx := B.exec
  have hb := B.bytes
  have hr := B.returns
  have hts := atoms_spec (ws := wsL_act) B.pre
  have hown : s.vm.findClass RL = some m.cls := findClass_of_methodNamed B.named
  subst hsz
  have hD : va_D A (wZ cyI cyZ ad zb zo zt zm zu zr zl zf) := by rw [hAe]; exact hD0.self
  have hA : ∀ q : Nat, s.heap.size ≤ q → A q := fun q h => by rw [hAe]; exact Or.inr h
  clear hAe hD0
  have hz := hz.zq
  have hS : va_S A s.heap s.heap [] := va_S.rf
  have hl := lv_entry ([.ref (ad 0), .int 18, .int p1, .int p2, .int p3, .int p4]) (n := 7) (Nat.le_of_ble_eq_true rfl)
  rw [lg_entry_eq]
  generalize (lg_sl ([.ref (ad 0), .int 18, .int p1, .int p2, .int p3, .int p4]) ++ List.replicate (7 - (lg_sl ([.ref (ad 0), .int 18, .int p1, .int p2, .int p3, .int p4])).length) Slot.unset).toArray = ls at hl ⊢
  have hl : lv_has ls 7 [(0, .ref (ad 0)), (1, .int 18), (2, .int p1), (3, .int p2), (4, .int p3), (5, .int p4)] := hl
  have hP : va_P D vwCl (wZ cyI cyZ ad zb zo zt zm zu zr zl zf) s.heap := hP
  refine lv_iload_n hx hb dL_act_0 rfl (lv_at hl 1 rfl) ?_
  refine lv_if_ne (tgt := 15) hx hb dL_act_1 (by decide) (fun _ => ?_) (fun c9 => absurd c9 (by decide))
  refine lv_iload_n hx hb dL_act_15 rfl (lv_at hl 1 rfl) ?_
  refine lv_iconst (v := 1) hx hb dL_act_16 (by decide) ?_
  refine lv_icmp_ne (tgt := 29) hx hb dL_act_17 (by decide) (fun _ => ?_) (fun c9 => absurd c9 (by decide))
  refine lv_iload_n hx hb dL_act_29 rfl (lv_at hl 1 rfl) ?_
  refine lv_iconst (v := 2) hx hb dL_act_30 (by decide) ?_
  refine lv_icmp_ne (tgt := 45) hx hb dL_act_31 (by decide) (fun _ => ?_) (fun c9 => absurd c9 (by decide))
  refine lv_iload_n hx hb dL_act_45 rfl (lv_at hl 1 rfl) ?_
  refine lv_iconst (v := 3) hx hb dL_act_46 (by decide) ?_
  refine lv_icmp_ne (tgt := 59) hx hb dL_act_47 (by decide) (fun _ => ?_) (fun c9 => absurd c9 (by decide))
  refine lv_iload_n hx hb dL_act_59 rfl (lv_at hl 1 rfl) ?_
  refine lv_iconst (v := 4) hx hb dL_act_60 (by decide) ?_
  refine lv_icmp_ne (tgt := 73) hx hb dL_act_61 (by decide) (fun _ => ?_) (fun c9 => absurd c9 (by decide))
  refine lv_iload_n hx hb dL_act_73 rfl (lv_at hl 1 rfl) ?_
  refine lv_iconst (v := 5) hx hb dL_act_74 (by decide) ?_
  refine lv_icmp_ne (tgt := 91) hx hb dL_act_75 (by decide) (fun _ => ?_) (fun c9 => absurd c9 (by decide))
  refine lv_iload_n hx hb dL_act_91 rfl (lv_at hl 1 rfl) ?_
  refine lv_bipush (v := 6) hx hb dL_act_92 (by decide) ?_
  refine lv_icmp_ne (tgt := 106) hx hb dL_act_94 (by decide) (fun _ => ?_) (fun c9 => absurd c9 (by decide))
  refine lv_iload_n hx hb dL_act_106 rfl (lv_at hl 1 rfl) ?_
  refine lv_bipush (v := 7) hx hb dL_act_107 (by decide) ?_
  refine lv_icmp_ne (tgt := 138) hx hb dL_act_109 (by decide) (fun _ => ?_) (fun c9 => absurd c9 (by decide))
  refine lv_iload_n hx hb dL_act_138 rfl (lv_at hl 1 rfl) ?_
  refine lv_bipush (v := 8) hx hb dL_act_139 (by decide) ?_
  refine lv_icmp_ne (tgt := 152) hx hb dL_act_141 (by decide) (fun _ => ?_) (fun c9 => absurd c9 (by decide))
  refine lv_iload_n hx hb dL_act_152 rfl (lv_at hl 1 rfl) ?_
  refine lv_bipush (v := 9) hx hb dL_act_153 (by decide) ?_
  refine lv_icmp_ne (tgt := 166) hx hb dL_act_155 (by decide) (fun _ => ?_) (fun c9 => absurd c9 (by decide))
  refine lv_iload_n hx hb dL_act_166 rfl (lv_at hl 1 rfl) ?_
  refine lv_bipush (v := 10) hx hb dL_act_167 (by decide) ?_
  refine lv_icmp_ne (tgt := 181) hx hb dL_act_169 (by decide) (fun _ => ?_) (fun c9 => absurd c9 (by decide))
  refine lv_iload_n hx hb dL_act_181 rfl (lv_at hl 1 rfl) ?_
  refine lv_bipush (v := 11) hx hb dL_act_182 (by decide) ?_
  refine lv_icmp_ne (tgt := 198) hx hb dL_act_184 (by decide) (fun _ => ?_) (fun c9 => absurd c9 (by decide))
  refine lv_iload_n hx hb dL_act_198 rfl (lv_at hl 1 rfl) ?_
  refine lv_bipush (v := 12) hx hb dL_act_199 (by decide) ?_
  refine lv_icmp_ne (tgt := 212) hx hb dL_act_201 (by decide) (fun _ => ?_) (fun c9 => absurd c9 (by decide))
  refine lv_iload_n hx hb dL_act_212 rfl (lv_at hl 1 rfl) ?_
  refine lv_bipush (v := 13) hx hb dL_act_213 (by decide) ?_
  refine lv_icmp_ne (tgt := 225) hx hb dL_act_215 (by decide) (fun _ => ?_) (fun c9 => absurd c9 (by decide))
  refine lv_iload_n hx hb dL_act_225 rfl (lv_at hl 1 rfl) ?_
  refine lv_bipush (v := 14) hx hb dL_act_226 (by decide) ?_
  refine lv_icmp_ne (tgt := 240) hx hb dL_act_228 (by decide) (fun _ => ?_) (fun c9 => absurd c9 (by decide))
  refine lv_iload_n hx hb dL_act_240 rfl (lv_at hl 1 rfl) ?_
  refine lv_bipush (v := 15) hx hb dL_act_241 (by decide) ?_
  refine lv_icmp_ne (tgt := 254) hx hb dL_act_243 (by decide) (fun _ => ?_) (fun c9 => absurd c9 (by decide))
  refine lv_iload_n hx hb dL_act_254 rfl (lv_at hl 1 rfl) ?_
  refine lv_bipush (v := 16) hx hb dL_act_255 (by decide) ?_
  refine lv_icmp_ne (tgt := 268) hx hb dL_act_257 (by decide) (fun _ => ?_) (fun c9 => absurd c9 (by decide))
  refine lv_iload_n hx hb dL_act_268 rfl (lv_at hl 1 rfl) ?_
  refine lv_bipush (v := 17) hx hb dL_act_269 (by decide) ?_
  refine lv_icmp_ne (tgt := 282) hx hb dL_act_271 (by decide) (fun _ => ?_) (fun c9 => absurd c9 (by decide))
  refine lv_aload_n hx hb dL_act_282 rfl (lv_at hl 0 rfl) ?_
  refine lv_iload_n hx hb dL_act_283 rfl (lv_at hl 2 rfl) ?_
  refine lv_iload_n hx hb dL_act_284 rfl (lv_at hl 3 rfl) ?_
  refine vx_calli (vx_runV (As := [.int p1, .int p2]) (rest := []) ⟨hx, hb, hml, hown, hts⟩ (t_X2_settle l hlt D cyI cyZ ad zb zo zt zm zu zr zl zf p1 p2 (by rw [hx9]; decide)) (cwV 2 hts gL_act_X2_settle rfl rfl rfl (by decide +kernel) ⟨Nat.le_of_ble_eq_true rfl, Nat.le_of_ble_eq_true rfl⟩) (ptV hG (hz.kept va_S.rf) hP (ci := 2) rfl rfl rfl) rfl rfl hl.1 rfl (lv_room (Nat.le_of_ble_eq_true rfl)) dL_act_285 ⟨Nat.le_of_ble_eq_true rfl, Nat.le_of_ble_eq_true rfl⟩) hS (fun _ _ h => h.elim) (fun _ h => h.elim) (fun _ _ h => h.elim) (fun E ce q9 u t H1 locs1 ht _ _ hE _ hk1 hS1 hce hcv hcl => ?_) (fun r u t H1 locs1 ht hvm h hb9 hz1 hk1 hS1 => h.elim)
  obtain rfl : E = "java/lang/IllegalStateException" := hE.trans (by rw [hx9]; rfl)
  have hP1 : va_P D vwCl (wZ cyI cyZ ad zb zo zt zm zu zr zl zf) H1 := hP.kept (fun k q hq => hk1 q.1 (hP k q hq).lt id)
  refine vx_catch (own := RL) (name := "java/lang/IllegalStateException") hown [(⟨0, 288, 289, 72⟩ : ExceptionTableEntry), (⟨0, 288, 295, 74⟩ : ExceptionTableEntry)] (⟨0, 288, 301, 76⟩ : ExceptionTableEntry) [] ((vx_table (x := yL_act) B (hts _ List.mem_cons_self)).trans rfl) (ps_cons (Or.inr ⟨by decide, "java/lang/IndexOutOfBoundsException", (hts (.classLink RL 72 "java/lang/IndexOutOfBoundsException") (List.mem_of_getElem? (i := 1) rfl)), hn.2.1⟩) (ps_cons (Or.inr ⟨by decide, "java/lang/IllegalArgumentException", (hts (.classLink RL 74 "java/lang/IllegalArgumentException") (List.mem_of_getElem? (i := 2) rfl)), hn.2.2⟩) ps_nil)) (by decide) (by decide) (hts (.classLink RL 76 "java/lang/IllegalStateException") (List.mem_of_getElem? (i := 3) rfl)) (va_Nw.use rfl (hz.2.2.2.1 "java/lang/IllegalStateException" (by decide))) hce hcv hcl ?_
  refine lv_astore (lv' := [(6, .ref q9)]) hx hb dL_act_301 (lv_sub hl [] rfl) (by decide) rfl (fun ls hl => ?_)
  refine lv_sipush (v := (-20003)) hx hb dL_act_303 (by decide) ?_
  exact W.iret (v := (-20003)) hx hb hr (fun t ht hW => ⟨⟨(-20003), (), rfl, rfl, by rw [ht]; exact hP1, hD⟩, hS1.F ht⟩) hS1.2.2 dL_act_306
