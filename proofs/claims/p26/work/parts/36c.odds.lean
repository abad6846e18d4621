set_option maxHeartbeats 8000000 in
set_option maxRecDepth 100000 in
theorem odds_9 {p : Program} {l : Launch} {e : Env} {s : State} {m : MethodId} {args : Array Value} {below : List Frame} {meth : Method} {c : Code} {Q : State → Prop} (hlt : l.stackTraces = false) {D : va_G} {cyI cyZ : ClassId} {ad : Nat → Nat} {A : Nat → Prop} (hx : p.tables.exec = Jvm.exec) (hb : c.code = cL_odds) (hml : c.maxLocals = 1) (hown : s.vm.findClass RL = some m.cls) (hts : ∀ w ∈ wsL_odds, w.before args s = true) (hG : gP D cyI cyZ s) (hz : zqA A s s.heap) (hn : zn s) (hA : ∀ q : Nat, s.heap.size ≤ q → A q)
    (KK : ∀ (H : Heap) (locs : List Loc) (ls : Array Slot), va_P D vwCl (wZ cyI cyZ ad oT24 oT28 oT31 oT28 (fun _ => 0) (fun _ => 0) oL30 0) H → va_D A (wZ cyI cyZ ad oT24 oT28 oT31 oT28 (fun _ => 0) (fun _ => 0) oL30 0) → va_S A s.heap H locs → lv_has ls 1 [(0, .ref (ad 0))] → W p l e (headSpec wsL_odds ({ frames := 11, cells := 843, slots := 7480, locals := 231 } : Room)).room s m args below meth c H locs 696 6598 Q (F0 m 873 ls [])) : ∀ (H : Heap) (locs : List Loc) (ls : Array Slot), va_P D vwCl (wZ cyI cyZ ad oT24 oT24 oT24 t00 (fun _ => 0) (fun _ => 0) oL27 0) H → va_D A (wZ cyI cyZ ad oT24 oT24 oT24 t00 (fun _ => 0) (fun _ => 0) oL27 0) → va_S A s.heap H locs → lv_has ls 1 [(0, .ref (ad 0))] → W p l e (headSpec wsL_odds ({ frames := 11, cells := 843, slots := 7480, locals := 231 } : Room)).room s m args below meth c H locs 696 6598 Q (F0 m 783 ls []) := by
  intro H locs ls hP hD hS hl
  refine lv_aload_n hx hb dL_odds_783 rfl (lv_at hl 0 rfl) ?_
  refine lv_iconst (v := 2) hx hb dL_odds_784 (by decide) ?_
  refine lv_iconst (v := 1) hx hb dL_odds_785 (by decide) ?_
  refine po_i (va_runV (As := [.int 2, .int 1]) (rest := []) ⟨hx, hb, hml, hown, hts⟩ (k_X2_name l D cyI cyZ ad oT24 oT24 oT24 t00 (fun _ => 0) (fun _ => 0) oL27 0 2 1 ov73x) (cwV 2 hts gL_odds_X2_name rfl rfl rfl (by decide +kernel) ⟨Nat.le_of_ble_eq_true rfl, Nat.le_of_ble_eq_true rfl⟩) (prV hG hP (ci := 2) rfl rfl rfl) rfl rfl hl.1 rfl (lv_room (Nat.le_of_ble_eq_true rfl)) dL_odds_786 ⟨Nat.le_of_ble_eq_true rfl, Nat.le_of_ble_eq_true rfl⟩) hS hP (ov73v) (fun H locs hP hS => ?_)
  refine lv_bipush (v := 21) hx hb dL_odds_789 (by decide) ?_
  refine lv_icmp_ne (tgt := 809) hx hb dL_odds_791 (by decide) (fun c9 => absurd (by decide) c9) (fun _ => ?_)
  refine lv_aload_n hx hb dL_odds_794 rfl (lv_at hl 0 rfl) ?_
  refine po_i (va_runV (As := []) (rest := []) ⟨hx, hb, hml, hown, hts⟩ (k_X2_conflicts l D cyI cyZ ad oT24 oT24 oT24 t00 (fun _ => 0) (fun _ => 0) oL27 0) (cwV 0 hts gL_odds_X2_conflicts rfl rfl rfl (by decide +kernel) ⟨Nat.le_of_ble_eq_true rfl, Nat.le_of_ble_eq_true rfl⟩) (prV hG hP (ci := 2) rfl rfl rfl) rfl rfl hl.1 rfl (lv_room (Nat.le_of_ble_eq_true rfl)) dL_odds_795 ⟨Nat.le_of_ble_eq_true rfl, Nat.le_of_ble_eq_true rfl⟩) hS hP (ov74v) (fun H locs hP hS => ?_)
  refine lv_if_ne (tgt := 809) hx hb dL_odds_798 (by decide) (fun c9 => absurd (by decide) c9) (fun _ => ?_)
  refine lv_aload_n hx hb dL_odds_801 rfl (lv_at hl 0 rfl) ?_
  refine lv_iconst (v := 3) hx hb dL_odds_802 (by decide) ?_
  refine po_i (va_runV (As := [.int 3]) (rest := []) ⟨hx, hb, hml, hown, hts⟩ (k_X2_rows l D cyI cyZ ad oT24 oT24 oT24 t00 (fun _ => 0) (fun _ => 0) oL27 0 3 ov75x) (cwV 1 hts gL_odds_X2_rows rfl rfl rfl (by decide +kernel) ⟨Nat.le_of_ble_eq_true rfl, Nat.le_of_ble_eq_true rfl⟩) (prV hG hP (ci := 2) rfl rfl rfl) rfl rfl hl.1 rfl (lv_room (Nat.le_of_ble_eq_true rfl)) dL_odds_803 ⟨Nat.le_of_ble_eq_true rfl, Nat.le_of_ble_eq_true rfl⟩) hS hP (ov75v) (fun H locs hP hS => ?_)
  refine lv_if_eq (tgt := 811) hx hb dL_odds_806 (by decide) (fun _ => ?_) (fun c9 => absurd (by decide) c9)
  refine lv_aload_n hx hb dL_odds_811 rfl (lv_at hl 0 rfl) ?_
  refine lv_iconst (v := 1) hx hb dL_odds_812 (by decide) ?_
  refine lv_iconst (v := 5) hx hb dL_odds_813 (by decide) ?_
  refine lv_iconst (v := 0) hx hb dL_odds_814 (by decide) ?_
  refine lv_iconst (v := 1) hx hb dL_odds_815 (by decide) ?_
  refine mo_i (va_runV (As := [.int 1, .int 5, .int 0, .int 1]) (rest := []) ⟨hx, hb, hml, hown, hts⟩ (k_X2_set l D cyI cyZ ad oT24 oT24 oT24 t00 (fun _ => 0) (fun _ => 0) oL27 0 1 5 0 1 _ _ rfl ov76x) (cwV 4 hts gL_odds_X2_set rfl rfl rfl (by decide +kernel) ⟨Nat.le_of_ble_eq_true rfl, Nat.le_of_ble_eq_true rfl⟩) (pmV hG hP hD (ci := 2) rfl rfl rfl) rfl rfl hl.1 rfl (lv_room (Nat.le_of_ble_eq_true rfl)) dL_odds_816 ⟨Nat.le_of_ble_eq_true rfl, Nat.le_of_ble_eq_true rfl⟩) hD hS hA (ov76v) (wE_z ov76b ov76o ov76t tE.rf aE.rf aE.rf lE.rf ov76f) (fun H locs hP hD hS => ?_)
  refine lv_bipush (v := 102) hx hb dL_odds_819 (by decide) ?_
  refine lv_icmp_ne (tgt := 1025) hx hb dL_odds_821 (by decide) (fun c9 => absurd (by decide) c9) (fun _ => ?_)
  refine lv_aload_n hx hb dL_odds_824 rfl (lv_at hl 0 rfl) ?_
  refine lv_iconst (v := 2) hx hb dL_odds_825 (by decide) ?_
  refine lv_iconst (v := 5) hx hb dL_odds_826 (by decide) ?_
  refine lv_iconst (v := 0) hx hb dL_odds_827 (by decide) ?_
  refine lv_iconst (v := 2) hx hb dL_odds_828 (by decide) ?_
  refine mo_i (va_runV (As := [.int 2, .int 5, .int 0, .int 2]) (rest := []) ⟨hx, hb, hml, hown, hts⟩ (k_X2_set l D cyI cyZ ad oT24 oT28 oT24 t00 (fun _ => 0) (fun _ => 0) oL27 0 2 5 0 2 _ _ rfl ov77x) (cwV 4 hts gL_odds_X2_set rfl rfl rfl (by decide +kernel) ⟨Nat.le_of_ble_eq_true rfl, Nat.le_of_ble_eq_true rfl⟩) (pmV hG hP hD (ci := 2) rfl rfl rfl) rfl rfl hl.1 rfl (lv_room (Nat.le_of_ble_eq_true rfl)) dL_odds_829 ⟨Nat.le_of_ble_eq_true rfl, Nat.le_of_ble_eq_true rfl⟩) hD hS hA (ov77v) (wE_z ov77b ov77o ov77t tE.rf aE.rf aE.rf lE.rf ov77f) (fun H locs hP hD hS => ?_)
  refine lv_bipush (v := 102) hx hb dL_odds_832 (by decide) ?_
  refine lv_icmp_ne (tgt := 1025) hx hb dL_odds_834 (by decide) (fun c9 => absurd (by decide) c9) (fun _ => ?_)
  refine lv_aload_n hx hb dL_odds_837 rfl (lv_at hl 0 rfl) ?_
  refine mo_i (va_runV (As := []) (rest := []) ⟨hx, hb, hml, hown, hts⟩ (k_X2_merge l D cyI cyZ ad oT24 oT28 oT29 t00 (fun _ => 0) (fun _ => 0) oL27 0 _ _ rfl) (cwV 0 hts gL_odds_X2_merge rfl rfl rfl (by decide +kernel) ⟨Nat.le_of_ble_eq_true rfl, Nat.le_of_ble_eq_true rfl⟩) (pmV hG hP hD (ci := 2) rfl rfl rfl) rfl rfl hl.1 rfl (lv_room (Nat.le_of_ble_eq_true rfl)) dL_odds_838 ⟨Nat.le_of_ble_eq_true rfl, Nat.le_of_ble_eq_true rfl⟩) hD hS hA (ov78v) (wE_z tE.rf tE.rf tE.rf ov78q.2.1 aE.rf aE.rf ov78l ov78q.2.2.2) (fun H locs hP hD hS => ?_)
  refine lv_iconst (v := 1) hx hb dL_odds_841 (by decide) ?_
  refine lv_icmp_ne (tgt := 1025) hx hb dL_odds_842 (by decide) (fun c9 => absurd (by decide) c9) (fun _ => ?_)
  refine lv_aload_n hx hb dL_odds_845 rfl (lv_at hl 0 rfl) ?_
  refine lv_iconst (v := 2) hx hb dL_odds_846 (by decide) ?_
  refine lv_iconst (v := 5) hx hb dL_odds_847 (by decide) ?_
  refine lv_iconst (v := 0) hx hb dL_odds_848 (by decide) ?_
  refine lv_iconst (v := 3) hx hb dL_odds_849 (by decide) ?_
  refine mo_i (va_runV (As := [.int 2, .int 5, .int 0, .int 3]) (rest := []) ⟨hx, hb, hml, hown, hts⟩ (k_X2_set l D cyI cyZ ad oT24 oT28 oT29 oT28 (fun _ => 0) (fun _ => 0) oL30 1 2 5 0 3 _ _ rfl ov79x) (cwV 4 hts gL_odds_X2_set rfl rfl rfl (by decide +kernel) ⟨Nat.le_of_ble_eq_true rfl, Nat.le_of_ble_eq_true rfl⟩) (pmV hG hP hD (ci := 2) rfl rfl rfl) rfl rfl hl.1 rfl (lv_room (Nat.le_of_ble_eq_true rfl)) dL_odds_850 ⟨Nat.le_of_ble_eq_true rfl, Nat.le_of_ble_eq_true rfl⟩) hD hS hA (ov79v) (wE_z ov79b ov79o ov79t tE.rf aE.rf aE.rf lE.rf ov79f) (fun H locs hP hD hS => ?_)
  refine lv_iconst (v := 2) hx hb dL_odds_853 (by decide) ?_
  refine lv_icmp_ne (tgt := 1025) hx hb dL_odds_854 (by decide) (fun c9 => absurd (by decide) c9) (fun _ => ?_)
  refine lv_aload_n hx hb dL_odds_857 rfl (lv_at hl 0 rfl) ?_
  refine po_i (va_runV (As := []) (rest := []) ⟨hx, hb, hml, hown, hts⟩ (k_X2_conflicts l D cyI cyZ ad oT24 oT28 oT31 oT28 (fun _ => 0) (fun _ => 0) oL30 0) (cwV 0 hts gL_odds_X2_conflicts rfl rfl rfl (by decide +kernel) ⟨Nat.le_of_ble_eq_true rfl, Nat.le_of_ble_eq_true rfl⟩) (prV hG hP (ci := 2) rfl rfl rfl) rfl rfl hl.1 rfl (lv_room (Nat.le_of_ble_eq_true rfl)) dL_odds_858 ⟨Nat.le_of_ble_eq_true rfl, Nat.le_of_ble_eq_true rfl⟩) hS hP (ov80v) (fun H locs hP hS => ?_)
  refine lv_iconst (v := 1) hx hb dL_odds_861 (by decide) ?_
  refine lv_icmp_ne (tgt := 1025) hx hb dL_odds_862 (by decide) (fun c9 => absurd (by decide) c9) (fun _ => ?_)
  refine lv_aload_n hx hb dL_odds_865 rfl (lv_at hl 0 rfl) ?_
  refine po_i (va_runV (As := []) (rest := []) ⟨hx, hb, hml, hown, hts⟩ (k_X2_open l D cyI cyZ ad oT24 oT28 oT31 oT28 (fun _ => 0) (fun _ => 0) oL30 0) (cwV 0 hts gL_odds_X2_open rfl rfl rfl (by decide +kernel) ⟨Nat.le_of_ble_eq_true rfl, Nat.le_of_ble_eq_true rfl⟩) (prV hG hP (ci := 2) rfl rfl rfl) rfl rfl hl.1 rfl (lv_room (Nat.le_of_ble_eq_true rfl)) dL_odds_866 ⟨Nat.le_of_ble_eq_true rfl, Nat.le_of_ble_eq_true rfl⟩) hS hP (ov81v) (fun H locs hP hS => ?_)
  refine lv_iconst (v := 1) hx hb dL_odds_869 (by decide) ?_
  refine lv_icmp_ne (tgt := 1025) hx hb dL_odds_870 (by decide) (fun c9 => absurd (by decide) c9) (fun _ => ?_)
  exact KK H locs ls hP hD hS hl
set_option maxHeartbeats 8000000 in
set_option maxRecDepth 100000 in
theorem odds_10 {p : Program} {l : Launch} {e : Env} {s : State} {m : MethodId} {args : Array Value} {below : List Frame} {meth : Method} {c : Code} {Q : State → Prop} (hlt : l.stackTraces = false) {D : va_G} {cyI cyZ : ClassId} {ad : Nat → Nat} {A : Nat → Prop} (hx : p.tables.exec = Jvm.exec) (hb : c.code = cL_odds) (hml : c.maxLocals = 1) (hown : s.vm.findClass RL = some m.cls) (hts : ∀ w ∈ wsL_odds, w.before args s = true) (hG : gP D cyI cyZ s) (hz : zqA A s s.heap) (hn : zn s) (hA : ∀ q : Nat, s.heap.size ≤ q → A q)
    (KK : ∀ (H : Heap) (locs : List Loc) (ls : Array Slot), va_P D vwCl (wZ cyI cyZ ad oT24 oT28 oT31 oT31 (fun _ => 0) (fun _ => 0) oL32 0) H → va_D A (wZ cyI cyZ ad oT24 oT28 oT31 oT31 (fun _ => 0) (fun _ => 0) oL32 0) → va_S A s.heap H locs → lv_has ls 1 [(0, .ref (ad 0))] → W p l e (headSpec wsL_odds ({ frames := 11, cells := 843, slots := 7480, locals := 231 } : Room)).room s m args below meth c H locs 699 6616 Q (F0 m 984 ls [])) : ∀ (H : Heap) (locs : List Loc) (ls : Array Slot), va_P D vwCl (wZ cyI cyZ ad oT24 oT28 oT31 oT28 (fun _ => 0) (fun _ => 0) oL30 0) H → va_D A (wZ cyI cyZ ad oT24 oT28 oT31 oT28 (fun _ => 0) (fun _ => 0) oL30 0) → va_S A s.heap H locs → lv_has ls 1 [(0, .ref (ad 0))] → W p l e (headSpec wsL_odds ({ frames := 11, cells := 843, slots := 7480, locals := 231 } : Room)).room s m args below meth c H locs 696 6598 Q (F0 m 873 ls []) := by
  intro H locs ls hP hD hS hl
  refine lv_aload_n hx hb dL_odds_873 rfl (lv_at hl 0 rfl) ?_
  refine lv_iconst (v := 0) hx hb dL_odds_874 (by decide) ?_
  refine lv_iconst (v := 1) hx hb dL_odds_875 (by decide) ?_
  refine lv_iconst (v := 5) hx hb dL_odds_876 (by decide) ?_
  refine lv_iconst (v := 0) hx hb dL_odds_877 (by decide) ?_
  refine po_i (va_runS (As := [.ref (ad 0), .int 0, .int 1, .int 5, .int 0]) (rest := []) ⟨hx, hb, hml, hown, hts⟩ (k_L_is l D cyI cyZ ad oT24 oT28 oT31 oT28 (fun _ => 0) (fun _ => 0) oL30 0 0 1 5 0 ov82x ov82k ov82y ov82c) (va_cwS 5 hts gL_odds_L_is rfl rfl rfl (by decide +kernel) ⟨Nat.le_of_ble_eq_true rfl, Nat.le_of_ble_eq_true rfl⟩) (prS hG hP) rfl rfl hl.1 rfl (lv_room (Nat.le_of_ble_eq_true rfl)) dL_odds_878 ⟨Nat.le_of_ble_eq_true rfl, Nat.le_of_ble_eq_true rfl⟩) hS hP rfl (fun H locs hP hS => ?_)
  refine lv_if_eq (tgt := 1025) hx hb dL_odds_881 (by decide) (fun c9 => absurd c9 (by decide)) (fun _ => ?_)
  refine lv_aload_n hx hb dL_odds_884 rfl (lv_at hl 0 rfl) ?_
  refine lv_iconst (v := 3) hx hb dL_odds_885 (by decide) ?_
  refine lv_iconst (v := 5) hx hb dL_odds_886 (by decide) ?_
  refine lv_iconst (v := 0) hx hb dL_odds_887 (by decide) ?_
  refine po_i (va_runV (As := [.int 3, .int 5, .int 0]) (rest := []) ⟨hx, hb, hml, hown, hts⟩ (k_X2_get l D cyI cyZ ad oT24 oT28 oT31 oT28 (fun _ => 0) (fun _ => 0) oL30 0 3 5 0 ov83x) (cwV 3 hts gL_odds_X2_get rfl rfl rfl (by decide +kernel) ⟨Nat.le_of_ble_eq_true rfl, Nat.le_of_ble_eq_true rfl⟩) (prV hG hP (ci := 2) rfl rfl rfl) rfl rfl hl.1 rfl (lv_room (Nat.le_of_ble_eq_true rfl)) dL_odds_888 ⟨Nat.le_of_ble_eq_true rfl, Nat.le_of_ble_eq_true rfl⟩) hS hP (ov83v) (fun H locs hP hS => ?_)
  refine lv_iconst (v := 1) hx hb dL_odds_891 (by decide) ?_
  refine lv_icmp_ne (tgt := 1025) hx hb dL_odds_892 (by decide) (fun c9 => absurd (by decide) c9) (fun _ => ?_)
  refine lv_aload_n hx hb dL_odds_895 rfl (lv_at hl 0 rfl) ?_
  refine lv_bipush (v := 18) hx hb dL_odds_896 (by decide) ?_
  refine lv_iconst (v := 0) hx hb dL_odds_898 (by decide) ?_
  refine lv_iconst (v := 2) hx hb dL_odds_899 (by decide) ?_
  refine lv_iconst (v := 0) hx hb dL_odds_900 (by decide) ?_
  refine lv_iconst (v := 0) hx hb dL_odds_901 (by decide) ?_
  refine mo_i (vx_runSW (As := [.ref (ad 0), .int 18, .int 0, .int 2, .int 0, .int 0]) (rest := []) ⟨hx, hb, hml, hown, hts⟩ (t_A18_3 l hlt D cyI cyZ ad oT24 oT28 oT31 oT28 (fun _ => 0) (fun _ => 0) oL30 0 0 2 0 0 _ _ rfl ov84x) (vx_cwSW 6 hts gL_odds_L_act rfl rfl rfl (by decide +kernel) ⟨Nat.le_of_ble_eq_true rfl, Nat.le_of_ble_eq_true rfl⟩) (poS hG hz hn hP hD hS hA) rfl rfl hl.1 rfl (lv_room (Nat.le_of_ble_eq_true rfl)) dL_odds_902 ⟨Nat.le_of_ble_eq_true rfl, Nat.le_of_ble_eq_true rfl⟩) hD hS hA (rfl) (wE.rf) (fun H locs hP hD hS => ?_)
  refine W.widen (k := 697) (n := 6604) (Nat.le_of_ble_eq_true rfl) (Nat.le_of_ble_eq_true rfl) ?_
  refine lv_sipush (v := (-20003)) hx hb dL_odds_905 (by decide) ?_
  refine lv_icmp_ne (tgt := 1025) hx hb dL_odds_908 (by decide) (fun c9 => absurd (by decide) c9) (fun _ => ?_)
  refine lv_aload_n hx hb dL_odds_911 rfl (lv_at hl 0 rfl) ?_
  refine lv_bipush (v := 13) hx hb dL_odds_912 (by decide) ?_
  refine lv_iconst (v := 0) hx hb dL_odds_914 (by decide) ?_
  refine lv_iconst (v := 0) hx hb dL_odds_915 (by decide) ?_
  refine lv_iconst (v := 0) hx hb dL_odds_916 (by decide) ?_
  refine lv_iconst (v := 0) hx hb dL_odds_917 (by decide) ?_
  refine mo_i (vx_runSW (As := [.ref (ad 0), .int 13, .int 0, .int 0, .int 0, .int 0]) (rest := []) ⟨hx, hb, hml, hown, hts⟩ (t_A13_3 l hlt D cyI cyZ ad oT24 oT28 oT31 oT28 (fun _ => 0) (fun _ => 0) oL30 0 0 0 0 0 _ _ rfl ov85x) (vx_cwSW 6 hts gL_odds_L_act rfl rfl rfl (by decide +kernel) ⟨Nat.le_of_ble_eq_true rfl, Nat.le_of_ble_eq_true rfl⟩) (poS hG hz hn hP hD hS hA) rfl rfl hl.1 rfl (lv_room (Nat.le_of_ble_eq_true rfl)) dL_odds_918 ⟨Nat.le_of_ble_eq_true rfl, Nat.le_of_ble_eq_true rfl⟩) hD hS hA (rfl) (wE.rf) (fun H locs hP hD hS => ?_)
  refine W.widen (k := 698) (n := 6610) (Nat.le_of_ble_eq_true rfl) (Nat.le_of_ble_eq_true rfl) ?_
  refine lv_sipush (v := (-20003)) hx hb dL_odds_921 (by decide) ?_
  refine lv_icmp_ne (tgt := 1025) hx hb dL_odds_924 (by decide) (fun c9 => absurd (by decide) c9) (fun _ => ?_)
  refine lv_aload_n hx hb dL_odds_927 rfl (lv_at hl 0 rfl) ?_
  refine mo_i (va_runV (As := []) (rest := []) ⟨hx, hb, hml, hown, hts⟩ (k_X2_merge l D cyI cyZ ad oT24 oT28 oT31 oT28 (fun _ => 0) (fun _ => 0) oL30 0 _ _ rfl) (cwV 0 hts gL_odds_X2_merge rfl rfl rfl (by decide +kernel) ⟨Nat.le_of_ble_eq_true rfl, Nat.le_of_ble_eq_true rfl⟩) (pmV hG hP hD (ci := 2) rfl rfl rfl) rfl rfl hl.1 rfl (lv_room (Nat.le_of_ble_eq_true rfl)) dL_odds_928 ⟨Nat.le_of_ble_eq_true rfl, Nat.le_of_ble_eq_true rfl⟩) hD hS hA (ov86v) (wE_z tE.rf tE.rf tE.rf ov86q.2.1 aE.rf aE.rf ov86l ov86q.2.2.2) (fun H locs hP hD hS => ?_)
  refine lv_iconst (v := 1) hx hb dL_odds_931 (by decide) ?_
  refine lv_icmp_ne (tgt := 1025) hx hb dL_odds_932 (by decide) (fun c9 => absurd (by decide) c9) (fun _ => ?_)
  refine lv_aload_n hx hb dL_odds_935 rfl (lv_at hl 0 rfl) ?_
  refine lv_iconst (v := 0) hx hb dL_odds_936 (by decide) ?_
  refine lv_iconst (v := 2) hx hb dL_odds_937 (by decide) ?_
  refine mo_i (va_runV (As := [.int 0, .int 2]) (rest := []) ⟨hx, hb, hml, hown, hts⟩ (k_X2_settle l D cyI cyZ ad oT24 oT28 oT31 oT28 (fun _ => 0) (fun _ => 0) oL30 1 0 2 _ _ rfl ov87x) (cwV 2 hts gL_odds_X2_settle rfl rfl rfl (by decide +kernel) ⟨Nat.le_of_ble_eq_true rfl, Nat.le_of_ble_eq_true rfl⟩) (pmV hG hP hD (ci := 2) rfl rfl rfl) rfl rfl hl.1 rfl (lv_room (Nat.le_of_ble_eq_true rfl)) dL_odds_938 ⟨Nat.le_of_ble_eq_true rfl, Nat.le_of_ble_eq_true rfl⟩) hD hS hA (ov87v) (wE_z tE.rf tE.rf tE.rf ov87m aE.rf aE.rf ov87l rfl) (fun H locs hP hD hS => ?_)
  refine lv_if_ne (tgt := 1025) hx hb dL_odds_941 (by decide) (fun c9 => absurd (by decide) c9) (fun _ => ?_)
  refine lv_aload_n hx hb dL_odds_944 rfl (lv_at hl 0 rfl) ?_
  refine lv_iconst (v := 3) hx hb dL_odds_945 (by decide) ?_
  refine lv_iconst (v := 5) hx hb dL_odds_946 (by decide) ?_
  refine lv_iconst (v := 0) hx hb dL_odds_947 (by decide) ?_
  refine po_i (va_runV (As := [.int 3, .int 5, .int 0]) (rest := []) ⟨hx, hb, hml, hown, hts⟩ (k_X2_get l D cyI cyZ ad oT24 oT28 oT31 oT31 (fun _ => 0) (fun _ => 0) oL32 1 3 5 0 ov88x) (cwV 3 hts gL_odds_X2_get rfl rfl rfl (by decide +kernel) ⟨Nat.le_of_ble_eq_true rfl, Nat.le_of_ble_eq_true rfl⟩) (prV hG hP (ci := 2) rfl rfl rfl) rfl rfl hl.1 rfl (lv_room (Nat.le_of_ble_eq_true rfl)) dL_odds_948 ⟨Nat.le_of_ble_eq_true rfl, Nat.le_of_ble_eq_true rfl⟩) hS hP (ov88v) (fun H locs hP hS => ?_)
  refine lv_iconst (v := 3) hx hb dL_odds_951 (by decide) ?_
  refine lv_icmp_ne (tgt := 1025) hx hb dL_odds_952 (by decide) (fun c9 => absurd (by decide) c9) (fun _ => ?_)
  refine lv_aload_n hx hb dL_odds_955 rfl (lv_at hl 0 rfl) ?_
  refine lv_iconst (v := 2) hx hb dL_odds_956 (by decide) ?_
  refine lv_iconst (v := 0) hx hb dL_odds_957 (by decide) ?_
  refine lv_bipush (v := 10) hx hb dL_odds_958 (by decide) ?_
  refine mo_i (va_runV (As := [.int 2, .int 0, .int 10]) (rest := []) ⟨hx, hb, hml, hown, hts⟩ (k_X2_rename l D cyI cyZ ad oT24 oT28 oT31 oT31 (fun _ => 0) (fun _ => 0) oL32 1 2 0 10 _ _ rfl ov89x) (cwV 3 hts gL_odds_X2_rename rfl rfl rfl (by decide +kernel) ⟨Nat.le_of_ble_eq_true rfl, Nat.le_of_ble_eq_true rfl⟩) (pmV hG hP hD (ci := 2) rfl rfl rfl) rfl rfl hl.1 rfl (lv_room (Nat.le_of_ble_eq_true rfl)) dL_odds_960 ⟨Nat.le_of_ble_eq_true rfl, Nat.le_of_ble_eq_true rfl⟩) hD hS hA (ov89v) (wE_z ov89b ov89o ov89t tE.rf aE.rf aE.rf lE.rf ov89f) (fun H locs hP hD hS => ?_)
  refine lv_bipush (v := 10) hx hb dL_odds_963 (by decide) ?_
  refine lv_icmp_ne (tgt := 1025) hx hb dL_odds_965 (by decide) (fun c9 => absurd (by decide) c9) (fun _ => ?_)
  refine lv_aload_n hx hb dL_odds_968 rfl (lv_at hl 0 rfl) ?_
  refine lv_bipush (v := 13) hx hb dL_odds_969 (by decide) ?_
  refine lv_iconst (v := 0) hx hb dL_odds_971 (by decide) ?_
  refine lv_iconst (v := 0) hx hb dL_odds_972 (by decide) ?_
  refine lv_iconst (v := 0) hx hb dL_odds_973 (by decide) ?_
  refine lv_iconst (v := 0) hx hb dL_odds_974 (by decide) ?_
  refine mo_i (vx_runSW (As := [.ref (ad 0), .int 13, .int 0, .int 0, .int 0, .int 0]) (rest := []) ⟨hx, hb, hml, hown, hts⟩ (t_A13_3 l hlt D cyI cyZ ad oT24 oT28 oT31 oT31 (fun _ => 0) (fun _ => 0) oL32 0 0 0 0 0 _ _ rfl ov90x) (vx_cwSW 6 hts gL_odds_L_act rfl rfl rfl (by decide +kernel) ⟨Nat.le_of_ble_eq_true rfl, Nat.le_of_ble_eq_true rfl⟩) (poS hG hz hn hP hD hS hA) rfl rfl hl.1 rfl (lv_room (Nat.le_of_ble_eq_true rfl)) dL_odds_975 ⟨Nat.le_of_ble_eq_true rfl, Nat.le_of_ble_eq_true rfl⟩) hD hS hA (rfl) (wE.rf) (fun H locs hP hD hS => ?_)
  refine W.widen (k := 699) (n := 6616) (Nat.le_of_ble_eq_true rfl) (Nat.le_of_ble_eq_true rfl) ?_
  refine lv_sipush (v := (-20003)) hx hb dL_odds_978 (by decide) ?_
  refine lv_icmp_ne (tgt := 1025) hx hb dL_odds_981 (by decide) (fun c9 => absurd (by decide) c9) (fun _ => ?_)
  exact KK H locs ls hP hD hS hl
