theorem uin_L_rules_X2 : ∀ w ∈ wsX20, w ∈ wsL_rules := fun _ h => List.mem_cons_of_mem _ (List.mem_append_left _ (List.mem_append_left _ (List.mem_append_left _ (List.mem_append_left _ (List.mem_append_left _ (List.mem_append_right _ h))))))
set_option maxHeartbeats 4000000 in
set_option maxRecDepth 100000 in
theorem k_L_rules (l : Launch) (hlt : l.stackTraces = false) (D : va_G) (cyI cyZ : ClassId) (A : Nat → Prop) (sz : Nat) (hAe : A = va_A ([] : va_W) sz) : Met l yL_rules wsL_rules ({ frames := 11, cells := 740, slots := 6862, locals := 231 } : Room) (pcO D cyI cyZ sz [] ([])) (mI D A [] 1) 740 6862 A := by
  refine Met.ofW (cc := cL_rules) (maxL := 2) (ret := some .boolean) (by decide) rfl ?_
  intro p e s m args below meth c s₁ B hml hv
  obtain ⟨rfl, hsz, hP, hG, ⟨hz, hn⟩, hD0⟩ := hv
  have hx := B.exec
  have hb := B.bytes
  have hr := B.returns
  have hts := atoms_spec (ws := wsL_rules) B.pre
  have hown : s.vm.findClass RL = some m.cls := findClass_of_methodNamed B.named
  subst hsz
  have hD : va_D A ([]) := by rw [hAe]; exact hD0.self
  have hA : ∀ q : Nat, s.heap.size ≤ q → A q := fun q h => by rw [hAe]; exact Or.inr h
  rw [← hAe] at hz
  clear hAe hD0
  have hS : va_S A s.heap s.heap [] := va_S.rf
  have hl := lv_entry ([]) (n := 2) (Nat.le_of_ble_eq_true rfl)
  rw [lg_entry_eq]
  generalize (lg_sl ([]) ++ List.replicate (2 - (lg_sl ([])).length) Slot.unset).toArray = ls at hl ⊢
  have hl : lv_has ls 2 [] := hl
  have hP : va_P D vwCl ([]) s.heap := hP
  refine va_new (ci := 2) (fs := [.null, .null, .null, .null, .null, .null, .null, .int 0]) (C := RX2) (T := TX2) (N := 8) hx hb hts uin_L_rules_X2 tyX2 tyX2_ok hown (hts (.classLink RL 8 RX2) (List.mem_of_getElem? (i := 1) rfl)) (hts (.instantiable RX2 8) (List.mem_of_getElem? (i := 2) rfl)) (hts (.initialized RX2) (List.mem_of_getElem? (i := 3) rfl)) hG.1 hP hD hS hA rfl (fun j hj => by rcases (show j = 0 ∨ j = 1 ∨ j = 2 ∨ j = 3 ∨ j = 4 ∨ j = 5 ∨ j = 6 ∨ j = 7 by omega) with rfl | rfl | rfl | rfl | rfl | rfl | rfl | rfl <;> rfl) (Nat.le_of_ble_eq_true rfl) (Nat.le_of_ble_eq_true rfl) dL_rules_0 (fun q0 H hP hD hS => ?_)
  have hP : va_P D vwCl ([(q0, .inr (2, [.null, .null, .null, .null, .null, .null, .null, .int 0]))]) H := hP
  have hD : va_D A ([(q0, .inr (2, [.null, .null, .null, .null, .null, .null, .null, .int 0]))]) := hD
  refine W.widen (k := 1) (n := 8) (Nat.le_of_ble_eq_true rfl) (Nat.le_of_ble_eq_true rfl) ?_
  refine lv_dup hx hb dL_rules_3 rfl ?_
  have hFc := va_free (wc := [(q0, .inr (2, [.null, .null, .null, .null, .null, .null, .null, .int 0]))]) hD hS hA [0] rfl
  refine va_callv (va_runI (As := []) (rest := [.ref q0]) ⟨hx, hb, hml, hown, hts⟩ (k_X2_init l D cyI cyZ q0 _ _ rfl) (cwI 0 hts gL_rules_X2_init rfl rfl rfl (hts (.initialized RX2) (List.mem_of_getElem? (i := 3) rfl)) (hts (.methodLink RL 91 yX2_init) (List.mem_of_getElem? (i := 4) rfl)) (hts (.instanceMethod yX2_init) (List.mem_of_getElem? (i := 5) rfl)) rfl (by decide +kernel) ⟨Nat.le_of_ble_eq_true rfl, Nat.le_of_ble_eq_true rfl⟩) (pmS hG hP hD) rfl rfl hl.1 rfl (lv_room (Nat.le_of_ble_eq_true rfl)) dL_rules_4 ⟨Nat.le_of_ble_eq_true rfl, Nat.le_of_ble_eq_true rfl⟩) hS (fun q _ h => hFc q h) hFc (fun ad t H1 locs ht hvm hw hB hz1 hk1 hS => ?_)
  obtain ⟨hP1, hD1⟩ := hB
  rw [ht] at hP1
  obtain ⟨hP2, hD2⟩ := va_join (wr := []) (w1 := wZ cyI cyZ ad t00 t00 t00 t00 (fun _ => 0) (fun _ => 0) l00 0) hP hD [0] [] rfl rfl (by decide) (by decide) hk1 hFc hP1 hD1
  clear hP hD hFc hk1 hP1 hD1
  subst hw
  generalize H1 = H at hP2 hS ⊢
  have hP : va_P D vwCl (wZ cyI cyZ ad t00 t00 t00 t00 (fun _ => 0) (fun _ => 0) l00 0) H := hP2
  have hD : va_D A (wZ cyI cyZ ad t00 t00 t00 t00 (fun _ => 0) (fun _ => 0) l00 0) := hD2
  refine W.widen (k := 20) (n := 2542) (Nat.le_of_ble_eq_true rfl) (Nat.le_of_ble_eq_true rfl) ?_
  refine lv_astore_n (lv' := [(0, .ref (ad 0))]) hx hb dL_rules_7 rfl hl (by decide) rfl (fun ls hl => ?_)
  refine rules_1 hlt hx hb hml hown hts hG hz hn hA (rules_2 hlt hx hb hml hown hts hG hz hn hA (rules_3 hlt hx hb hml hown hts hG hz hn hA (rules_4 hlt hx hb hml hown hts hG hz hn hA (rules_5 hlt hx hb hml hown hts hG hz hn hA (rules_6 hlt hx hb hml hown hts hG hz hn hA (rules_7 hlt hx hb hml hown hts hG hz hn hA (rules_8 hlt hx hb hml hown hts hG hz hn hA (rules_9 hlt hx hb hml hown hts hG hz hn hA ?_)))))))) H locs ls hP hD hS hl
  intro H locs ls hP hD hS hl
  refine lv_iconst (v := 1) hx hb dL_rules_816 (by decide) ?_
  refine lv_goto (tgt := 821) hx hb dL_rules_817 (by decide) ?_
  exact W.zret (v := 1) (ty := .boolean) hx hb hr rfl (fun t ht hW => ⟨⟨1, (), rfl, rfl, (fun k q hk => by simp at hk), ⟨fun i j p q hi => by simp at hi, fun k q hk => by simp at hk⟩⟩, hS.F ht⟩) hS.2.2 dL_rules_821
