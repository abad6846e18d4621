theorem uin_L_odds_X2 : ∀ w ∈ wsX20, w ∈ wsL_odds := fun _ h => List.mem_cons_of_mem _ (List.mem_append_left _ (List.mem_append_left _ (List.mem_append_left _ (List.mem_append_left _ (List.mem_append_left _ (List.mem_append_right _ h))))))
set_option maxHeartbeats 4000000 in
set_option maxRecDepth 100000 in
theorem k_L_odds (l : Launch) (hlt : l.stackTraces = false) (D : va_G) (cyI cyZ : ClassId) (A : Nat → Prop) (sz : Nat) (hAe : A = va_A ([] : va_W) sz) : Met l yL_odds wsL_odds ({ frames := 11, cells := 843, slots := 7480, locals := 231 } : Room) (pcO D cyI cyZ sz [] ([])) (mI D A [] 1) 843 7480 A := by
  refine Met.ofW (cc := cL_odds) (maxL := 1) (ret := some .boolean) (by decide) rfl ?_
  intro p e s m args below meth c s₁ B hml hv
  obtain ⟨rfl, hsz, hP, hG, ⟨hz, hn⟩, hD0⟩ := hv
  have hx := B.exec
  have hb := B.bytes
  have hr := B.returns
  have hts := atoms_spec (ws := wsL_odds) B.pre
  have hown : s.vm.findClass RL = some m.cls := findClass_of_methodNamed B.named
  subst hsz
  have hD : va_D A ([]) := by rw [hAe]; exact hD0.self
  have hA : ∀ q : Nat, s.heap.size ≤ q → A q := fun q h => by rw [hAe]; exact Or.inr h
  rw [← hAe] at hz
  clear hAe hD0
  have hS : va_S A s.heap s.heap [] := va_S.rf
  have hl := lv_entry ([]) (n := 1) (Nat.le_of_ble_eq_true rfl)
  rw [lg_entry_eq]
  generalize (lg_sl ([]) ++ List.replicate (1 - (lg_sl ([])).length) Slot.unset).toArray = ls at hl ⊢
  have hl : lv_has ls 1 [] := hl
  have hP : va_P D vwCl ([]) s.heap := hP
  refine va_new (ci := 2) (fs := [.null, .null, .null, .null, .null, .null, .null, .int 0]) (C := RX2) (T := TX2) (N := 8) hx hb hts uin_L_odds_X2 tyX2 tyX2_ok hown (hts (.classLink RL 8 RX2) (List.mem_of_getElem? (i := 1) rfl)) (hts (.instantiable RX2 8) (List.mem_of_getElem? (i := 2) rfl)) (hts (.initialized RX2) (List.mem_of_getElem? (i := 3) rfl)) hG.1 hP hD hS hA rfl (fun j hj => by rcases (show j = 0 ∨ j = 1 ∨ j = 2 ∨ j = 3 ∨ j = 4 ∨ j = 5 ∨ j = 6 ∨ j = 7 by omega) with rfl | rfl | rfl | rfl | rfl | rfl | rfl | rfl <;> rfl) (Nat.le_of_ble_eq_true rfl) (Nat.le_of_ble_eq_true rfl) dL_odds_0 (fun q0 H hP hD hS => ?_)
  have hP : va_P D vwCl ([(q0, .inr (2, [.null, .null, .null, .null, .null, .null, .null, .int 0]))]) H := hP
  have hD : va_D A ([(q0, .inr (2, [.null, .null, .null, .null, .null, .null, .null, .int 0]))]) := hD
  refine W.widen (k := 1) (n := 8) (Nat.le_of_ble_eq_true rfl) (Nat.le_of_ble_eq_true rfl) ?_
  refine lv_dup hx hb dL_odds_3 rfl ?_
  have hFc := va_free (wc := [(q0, .inr (2, [.null, .null, .null, .null, .null, .null, .null, .int 0]))]) hD hS hA [0] rfl
  refine va_callv (va_runI (As := []) (rest := [.ref q0]) ⟨hx, hb, hml, hown, hts⟩ (k_X2_init l D cyI cyZ q0 _ _ rfl) (cwI 0 hts gL_odds_X2_init rfl rfl rfl (hts (.initialized RX2) (List.mem_of_getElem? (i := 3) rfl)) (hts (.methodLink RL 91 yX2_init) (List.mem_of_getElem? (i := 4) rfl)) (hts (.instanceMethod yX2_init) (List.mem_of_getElem? (i := 5) rfl)) rfl (by decide +kernel) ⟨Nat.le_of_ble_eq_true rfl, Nat.le_of_ble_eq_true rfl⟩) (pmS hG hP hD) rfl rfl hl.1 rfl (lv_room (Nat.le_of_ble_eq_true rfl)) dL_odds_4 ⟨Nat.le_of_ble_eq_true rfl, Nat.le_of_ble_eq_true rfl⟩) hS (fun q _ h => hFc q h) hFc (fun ad t H1 locs ht hvm hw hB hz1 hk1 hS => ?_)
  obtain ⟨hP1, hD1⟩ := hB
  rw [ht] at hP1
  obtain ⟨hP2, hD2⟩ := va_join (wr := []) (w1 := wZ cyI cyZ ad t00 t00 t00 t00 (fun _ => 0) (fun _ => 0) l00 0) hP hD [0] [] rfl rfl (by decide) (by decide) hk1 hFc hP1 hD1
  clear hP hD hFc hk1 hP1 hD1
  subst hw
  generalize H1 = H at hP2 hS ⊢
  have hP : va_P D vwCl (wZ cyI cyZ ad t00 t00 t00 t00 (fun _ => 0) (fun _ => 0) l00 0) H := hP2
  have hD : va_D A (wZ cyI cyZ ad t00 t00 t00 t00 (fun _ => 0) (fun _ => 0) l00 0) := hD2
  refine W.widen (k := 20) (n := 2542) (Nat.le_of_ble_eq_true rfl) (Nat.le_of_ble_eq_true rfl) ?_
  refine lv_astore_n (lv' := [(0, .ref (ad 0))]) hx hb dL_odds_7 rfl hl (by decide) rfl (fun ls hl => ?_)
  refine odds_1 hlt hx hb hml hown hts hG hz hn hA (odds_2 hlt hx hb hml hown hts hG hz hn hA (odds_3 hlt hx hb hml hown hts hG hz hn hA (odds_4 hlt hx hb hml hown hts hG hz hn hA (odds_5 hlt hx hb hml hown hts hG hz hn hA (odds_6 hlt hx hb hml hown hts hG hz hn hA (odds_7 hlt hx hb hml hown hts hG hz hn hA (odds_8 hlt hx hb hml hown hts hG hz hn hA (odds_9 hlt hx hb hml hown hts hG hz hn hA (odds_10 hlt hx hb hml hown hts hG hz hn hA ?_))))))))) H locs ls hP hD hS hl
  intro H locs ls hP hD hS hl
  refine lv_aload_n hx hb dL_odds_984 rfl (lv_at hl 0 rfl) ?_
  refine mo_i (va_runV (As := []) (rest := []) ⟨hx, hb, hml, hown, hts⟩ (k_X2_fork l D cyI cyZ ad oT24 oT28 oT31 oT31 (fun _ => 0) (fun _ => 0) oL32 0 _ _ rfl) (cwV 0 hts gL_odds_X2_fork rfl rfl rfl (by decide +kernel) ⟨Nat.le_of_ble_eq_true rfl, Nat.le_of_ble_eq_true rfl⟩) (pmV hG hP hD (ci := 2) rfl rfl rfl) rfl rfl hl.1 rfl (lv_room (Nat.le_of_ble_eq_true rfl)) dL_odds_985 ⟨Nat.le_of_ble_eq_true rfl, Nat.le_of_ble_eq_true rfl⟩) hD hS hA (ov91v) (wE_z tE.rf (like_E _ _) (like_E _ _) (emp_E _) aE.rf aE.rf ov91l rfl) (fun H locs hP hD hS => ?_)
  refine lv_bipush (v := 6) hx hb dL_odds_988 (by decide) ?_
  refine lv_icmp_ne (tgt := 1025) hx hb dL_odds_990 (by decide) (fun c9 => absurd (by decide) c9) (fun _ => ?_)
  refine lv_aload_n hx hb dL_odds_993 rfl (lv_at hl 0 rfl) ?_
  refine po_i (va_runV (As := []) (rest := []) ⟨hx, hb, hml, hown, hts⟩ (k_X2_conflicts l D cyI cyZ ad oT24 oT24 oT24 t00 (fun _ => 0) (fun _ => 0) oL33 0) (cwV 0 hts gL_odds_X2_conflicts rfl rfl rfl (by decide +kernel) ⟨Nat.le_of_ble_eq_true rfl, Nat.le_of_ble_eq_true rfl⟩) (prV hG hP (ci := 2) rfl rfl rfl) rfl rfl hl.1 rfl (lv_room (Nat.le_of_ble_eq_true rfl)) dL_odds_994 ⟨Nat.le_of_ble_eq_true rfl, Nat.le_of_ble_eq_true rfl⟩) hS hP (ov92v) (fun H locs hP hS => ?_)
  refine lv_if_ne (tgt := 1025) hx hb dL_odds_997 (by decide) (fun c9 => absurd (by decide) c9) (fun _ => ?_)
  refine lv_aload_n hx hb dL_odds_1000 rfl (lv_at hl 0 rfl) ?_
  refine lv_iconst (v := 1) hx hb dL_odds_1001 (by decide) ?_
  refine lv_iconst (v := 5) hx hb dL_odds_1002 (by decide) ?_
  refine lv_iconst (v := 0) hx hb dL_odds_1003 (by decide) ?_
  refine po_i (va_runV (As := [.int 1, .int 5, .int 0]) (rest := []) ⟨hx, hb, hml, hown, hts⟩ (k_X2_get l D cyI cyZ ad oT24 oT24 oT24 t00 (fun _ => 0) (fun _ => 0) oL33 0 1 5 0 ov93x) (cwV 3 hts gL_odds_X2_get rfl rfl rfl (by decide +kernel) ⟨Nat.le_of_ble_eq_true rfl, Nat.le_of_ble_eq_true rfl⟩) (prV hG hP (ci := 2) rfl rfl rfl) rfl rfl hl.1 rfl (lv_room (Nat.le_of_ble_eq_true rfl)) dL_odds_1004 ⟨Nat.le_of_ble_eq_true rfl, Nat.le_of_ble_eq_true rfl⟩) hS hP (ov93v) (fun H locs hP hS => ?_)
  refine lv_bipush (v := 102) hx hb dL_odds_1007 (by decide) ?_
  refine lv_icmp_ne (tgt := 1025) hx hb dL_odds_1009 (by decide) (fun c9 => absurd (by decide) c9) (fun _ => ?_)
  refine lv_aload_n hx hb dL_odds_1012 rfl (lv_at hl 0 rfl) ?_
  refine lv_iconst (v := 5) hx hb dL_odds_1013 (by decide) ?_
  refine lv_iconst (v := 0) hx hb dL_odds_1014 (by decide) ?_
  refine mo_i (va_runS (As := [.ref (ad 0), .int 5, .int 0]) (rest := []) ⟨hx, hb, hml, hown, hts⟩ (k_L_refuses l hlt D cyI cyZ ad oT24 oT24 oT24 t00 (fun _ => 0) (fun _ => 0) oL33 0 5 0 _ _ rfl ov94r ov94c) (va_cwS 3 hts gL_odds_L_refuses rfl rfl rfl (by decide +kernel) ⟨Nat.le_of_ble_eq_true rfl, Nat.le_of_ble_eq_true rfl⟩) (poS hG hz hn hP hD hS hA) rfl rfl hl.1 rfl (lv_room (Nat.le_of_ble_eq_true rfl)) dL_odds_1015 ⟨Nat.le_of_ble_eq_true rfl, Nat.le_of_ble_eq_true rfl⟩) hD hS hA rfl wE.rf (fun H locs hP hD hS => ?_)
  refine W.widen (k := 843) (n := 7480) (Nat.le_of_ble_eq_true rfl) (Nat.le_of_ble_eq_true rfl) ?_
  refine lv_if_eq (tgt := 1025) hx hb dL_odds_1018 (by decide) (fun c9 => absurd c9 (by decide)) (fun _ => ?_)
  refine lv_iconst (v := 1) hx hb dL_odds_1021 (by decide) ?_
  refine lv_goto (tgt := 1026) hx hb dL_odds_1022 (by decide) ?_
  exact W.zret (v := 1) (ty := .boolean) hx hb hr rfl (fun t ht hW => ⟨⟨1, (), rfl, rfl, (fun k q hk => by simp at hk), ⟨fun i j p q hi => by simp at hi, fun k q hk => by simp at hk⟩⟩, hS.F ht⟩) hS.2.2 dL_odds_1026
