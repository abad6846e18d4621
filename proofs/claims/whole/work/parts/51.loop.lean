theorem nI_5 (j : Nat) : nI (5 * j) + 5 = nI (5 * (j + 1)) := nI_add (5 * j) 5
theorem tsw_22 (x : Int32) : (∃ k : Nat, k < 23 ∧ x = nI k) ∨ (x.toInt < 0 ∨ 22 < x.toInt) := by
  by_cases h : vp_in x 23
  · exact Or.inl (vp_in_of h (by decide))
  · refine Or.inr ?_
    rw [vp_in_iff] at h
    omega
section NJ
variable {p : Program} {l : Launch} {e : Env} {R : Room} {s : State} {m : MethodId} {args : Array Value} {below : List Frame} {meth : Method} {c : Code} {H : Heap} {locs : List Loc} {cells slots : Nat} {Q : State → Prop}
variable {D : va_G} {cyI cyZ cyJ : ClassId} {pc : Nat} {ls : Array Slot} {rest : List Value} {A : Nat → Prop} {H0 : Heap} {ws : va_W} {cc : ByteArray}
theorem na_j (hx : p.tables.exec = Jvm.exec) (hb : c.code = cc) (harr : (Cond.arrayClass .long).before args s = true) (hG : gL D cyI cyZ cyJ s) (hP : va_P D vwCl ws H) (hD : va_D A ws) (hS : va_S A H0 H locs) (hA : ∀ q, H0.size ≤ q → A q) {n : Int32} {N : Nat} (hn : ¬ n < 0) (hN : n.toNatClampNeg = N) (hbytes : N * 8 ≤ 536870912) (hcells : cells + 1 ≤ R.cells) (hslots : slots + N ≤ R.slots) (hdg : decode cc pc = .ok (.newarray .long, 2))
    (kk : ∀ (q : Nat) (H1 : Heap), va_P D vwCl (ws ++ [(q, .inl (cyJ, N, .inr (.inl (fun _ => 0))))]) H1 → va_D A (ws ++ [(q, .inl (cyJ, N, .inr (.inl (fun _ => 0))))]) → va_S A H0 H1 locs → W p l e R s m args below meth c H1 locs (cells + 1) (slots + N) Q (F0 m (pc + 2) ls (.ref q :: rest))) : W p l e R s m args below meth c H locs cells slots Q (F0 m pc ls (.int n :: rest)) :=
  va_newa (atype := .long) (ty := .long) hx hb harr rfl hG.2 hP hD hS hA (a0 := (N, .inr (.inl (fun _ => 0)))) (fun _ => rfl) hn hN hbytes hcells hslots hdg (fun q cA H1 hK1 hP1 hD1 hS1 => by
    have h1 : s.vm.findClass ("[" ++ FieldType.long.toString) = some cA := (hK1.2 1 (cA, .long) rfl).2
    have h2 : s.vm.findClass ("[" ++ FieldType.long.toString) = some cyJ := (hG.2.2 0 (cyJ, .long) rfl).2
    have e9 : cA = cyJ := Option.some.inj (h1.symm.trans h2)
    subst e9
    exact kk q H1 hP1 hD1 hS1)
end NJ
set_option maxHeartbeats 4000000 in
set_option maxRecDepth 100000 in
/-- the law's loop: j calls are done, the class and the reference stand side by side -/
theorem law_loop {p : Program} {l : Launch} {e : Env} {s : State} {m : MethodId} {below : List Frame} {meth : Method} {c : Code} {b L : Nat} {xs : Nat → Int32} (C0 : lw_At p s m meth c b L xs) (hlt : l.stackTraces = false) {D : va_G} {cyI cyZ cyJ : ClassId} (hG : gL D cyI cyZ cyJ s) (hz : zq s) (hn : zn s) {ad am : Nat → Nat} {oo : Nat} (hL : L ≤ 2560) :
    ∀ (n j : Nat), 5 * j ≤ L → L + 1 ≤ 5 * (j + n) → ∀ (zb : Tr) (zo : Tr) (zt : Tr) (zm : Tr) (zu : Nat → Int32) (zr : Nat → Int32) (zl : Lr) (zf : Int32) (mc : Nat → Int32) (mw : Nat → Int32) (mn : Nat → Int32) (me : Nat → Int32) (mu : Nat → Int32) (mr : Nat → Int32) (mz : Kr) (mf : Int32) (mt : Int32) (go : Nat → Int64) (H : Heap) (locs : List Loc) (ls : Array Slot), Rl zb zo zt zm zu zr zl zf mc mw mn me mu mr mz mf → va_P D vwCl (wA cyI cyZ cyJ ad zb zo zt zm zu zr zl zf oo go am mc mw mn me mu mr mz mf mt) H → va_D (fun q : Nat => s.heap.size ≤ q) (wA cyI cyZ cyJ ad zb zo zt zm zu zr zl zf oo go am mc mw mn me mu mr mz mf mt) → va_S (fun q : Nat => s.heap.size ≤ q) s.heap H locs → lv_has ls 7 [(0, .ref b), (1, .ref (ad 0)), (2, .ref (am 0)), (3, .ref oo), (4, .int (nI (5 * j)))] → W p l e room_1 s m #[Value.ref b] below meth c H locs (32 + j) (5140 + 6 * j) (lw_Z below #[Value.ref b] s) (F0 m 23 ls []) := by
  obtain ⟨hx, hb, hr, hml, hown, hts, hX, hbl, hlocks, hgv⟩ := id C0
  have hbA : ¬ (fun q : Nat => s.heap.size ≤ q) b := Nat.not_le.mpr hbl
  intro n
  induction n with
  | zero => intro j h1 h2; exact absurd h2 (by omega)
  | succ n ih =>
    intro j h1 h2 zb zo zt zm zu zr zl zf mc mw mn me mu mr mz mf mt go H locs ls R hP hD hS hl
    refine lv_iload hx hb dL_law_23 (lv_at hl 4 rfl) ?_
    refine lv_aload_n hx hb dL_law_25 rfl (lv_at hl 0 rfl) ?_
    refine va_slen hx hb hX hbl hbA hS dL_law_26 ?_
    refine lv_iconst (v := 5) hx hb dL_law_27 (by decide) ?_
    refine lv_isub hx hb dL_law_28 ?_
    refine lv_icmp_gt (tgt := 1481) hx hb dL_law_29 (by decide) (fun c9 => ?_) (fun c9 => ?_)
    · refine lv_iconst (v := 1) hx hb dL_law_1481 (by decide) ?_
      refine va_forget (fun q hq => hS.2.2 q hq) ?_
      refine W.widen (k := 1073) (n := 13434) (by omega) (by omega) ?_
      exact lw_ret hx hb hr hlocks dL_law_1482
    · have hj : 5 * j + 5 ≤ L := by
        have c8 : (nI (5 * j)).toInt ≤ (nI L - nI 5).toInt := Int32.le_iff_toInt_le.mp (Int32.not_lt.mp c9)
        rw [pk_sub_toInt (by omega) (by decide), nI_toInt (by omega)] at c8
        omega
      have hv0 : vp_in (nI (5 * j)) L := vp_in_nI (by omega) (by omega)
      have KK : lwK p l e s m below meth c b D cyI cyZ cyJ ad am oo j := by
        intro zb' zo' zt' zm' zu' zr' zl' zf' mc' mw' mn' me' mu' mr' mz' mf' mt' go H locs ls R hP hD hS hl
        refine lv_iinc (v := nI (5 * (j + 1))) (lv' := [(4, .int (nI (5 * (j + 1)))), (0, .ref b), (1, .ref (ad 0)), (2, .ref (am 0)), (3, .ref oo)]) hx hb dL_law_1475 hl (k := 4) rfl (nI_5 j) (by decide) rfl (fun ls hl => ?_)
        refine lv_goto (tgt := 23) hx hb dL_law_1478 (by decide) ?_
        refine W.widen (k := 32 + (j + 1)) (n := 5140 + 6 * (j + 1)) (by omega) (by omega) ?_
        exact ih (j + 1) (by omega) (by omega) zb' zo' zt' zm' zu' zr' zl' zf' mc' mw' mn' me' mu' mr' mz' mf' mt' go H locs ls R hP hD hS (lv_sub hl [1, 2, 3, 4, 0] rfl)
      refine lv_aload_n hx hb dL_law_32 rfl (lv_at hl 0 rfl) ?_
      refine lv_iload hx hb dL_law_33 (lv_at hl 4 rfl) ?_
      refine va_sld hx hb hX hbl hbA hS hv0 dL_law_35 ?_
      refine lv_bipush (v := 31) hx hb dL_law_36 (by decide) ?_
      refine lv_iand hx hb dL_law_38 ?_
      generalize (xs (nI (5 * j)).toNatClampNeg) &&& 31 = v
      rcases tsw_22 v with ⟨k, hk, rfl⟩ | ho
      · rcases (show k = 0 ∨ k = 1 ∨ k = 2 ∨ k = 3 ∨ k = 4 ∨ k = 5 ∨ k = 6 ∨ k = 7 ∨ k = 8 ∨ k = 9 ∨ k = 10 ∨ k = 11 ∨ k = 12 ∨ k = 13 ∨ k = 14 ∨ k = 15 ∨ k = 16 ∨ k = 17 ∨ k = 18 ∨ k = 19 ∨ k = 20 ∨ k = 21 ∨ k = 22 by omega) with rfl | rfl | rfl | rfl | rfl | rfl | rfl | rfl | rfl | rfl | rfl | rfl | rfl | rfl | rfl | rfl | rfl | rfl | rfl | rfl | rfl | rfl | rfl
        · refine lv_tableIn (off := 105) (tgt := 144) hx hb dL_law_39 (by decide) (by decide) (by rfl) (by decide) ?_
          exact lw_addColumn C0 hlt hG hz hn hL hj KK R hP hD hS hl
        · refine lv_tableIn (off := 185) (tgt := 224) hx hb dL_law_39 (by decide) (by decide) (by rfl) (by decide) ?_
          exact lw_dropColumn C0 hlt hG hz hn hL hj KK R hP hD hS hl
        · refine lv_tableIn (off := 253) (tgt := 292) hx hb dL_law_39 (by decide) (by decide) (by rfl) (by decide) ?_
          exact lw_rename C0 hlt hG hz hn hL hj KK R hP hD hS hl
        · refine lv_tableIn (off := 333) (tgt := 372) hx hb dL_law_39 (by decide) (by decide) (by rfl) (by decide) ?_
          exact lw_addRow C0 hlt hG hz hn hL hj KK R hP hD hS hl
        · refine lv_tableIn (off := 401) (tgt := 440) hx hb dL_law_39 (by decide) (by decide) (by rfl) (by decide) ?_
          exact lw_removeRow C0 hlt hG hz hn hL hj KK R hP hD hS hl
        · refine lv_tableIn (off := 469) (tgt := 508) hx hb dL_law_39 (by decide) (by decide) (by rfl) (by decide) ?_
          exact lw_set C0 hlt hG hz hn hL hj KK R hP hD hS hl
        · refine lv_tableIn (off := 561) (tgt := 600) hx hb dL_law_39 (by decide) (by decide) (by rfl) (by decide) ?_
          exact lw_setRule C0 hlt hG hz hn hL hj KK R hP hD hS hl
        · refine lv_tableIn (off := 629) (tgt := 668) hx hb dL_law_39 (by decide) (by decide) (by rfl) (by decide) ?_
          exact lw_setReference C0 hlt hG hz hn hL hj KK R hP hD hS hl
        · refine lv_tableIn (off := 720) (tgt := 759) hx hb dL_law_39 (by decide) (by decide) (by rfl) (by decide) ?_
          exact lw_columns C0 hlt hG hz hn hL hj KK R hP hD hS hl
        · refine lv_tableIn (off := 776) (tgt := 815) hx hb dL_law_39 (by decide) (by decide) (by rfl) (by decide) ?_
          exact lw_rows C0 hlt hG hz hn hL hj KK R hP hD hS hl
        · refine lv_tableIn (off := 832) (tgt := 871) hx hb dL_law_39 (by decide) (by decide) (by rfl) (by decide) ?_
          exact lw_name C0 hlt hG hz hn hL hj KK R hP hD hS hl
        · refine lv_tableIn (off := 900) (tgt := 939) hx hb dL_law_39 (by decide) (by decide) (by rfl) (by decide) ?_
          exact lw_get C0 hlt hG hz hn hL hj KK R hP hD hS hl
        · refine lv_tableIn (off := 980) (tgt := 1019) hx hb dL_law_39 (by decide) (by decide) (by rfl) (by decide) ?_
          exact lw_changes C0 hlt hG hz hn hL hj KK R hP hD hS hl
        · refine lv_tableIn (off := 1036) (tgt := 1075) hx hb dL_law_39 (by decide) (by decide) (by rfl) (by decide) ?_
          exact lw_fork C0 hlt hG hz hn hL hj KK R hP hD hS hl
        · refine lv_tableIn (off := 1049) (tgt := 1088) hx hb dL_law_39 (by decide) (by decide) (by rfl) (by decide) ?_
          exact lw_merge C0 hlt hG hz hn hL hj KK R hP hD hS hl
        · refine lv_tableIn (off := 1062) (tgt := 1101) hx hb dL_law_39 (by decide) (by decide) (by rfl) (by decide) ?_
          exact lw_accept C0 hlt hG hz hn hL hj KK R hP hD hS hl
        · refine lv_tableIn (off := 1106) (tgt := 1145) hx hb dL_law_39 (by decide) (by decide) (by rfl) (by decide) ?_
          exact lw_cellByChanges C0 hlt hG hz hn hL hj KK R hP hD hS hl
        · refine lv_tableIn (off := 1174) (tgt := 1213) hx hb dL_law_39 (by decide) (by decide) (by rfl) (by decide) ?_
          exact lw_conflicts C0 hlt hG hz hn hL hj KK R hP hD hS hl
        · refine lv_tableIn (off := 1187) (tgt := 1226) hx hb dL_law_39 (by decide) (by decide) (by rfl) (by decide) ?_
          exact lw_open C0 hlt hG hz hn hL hj KK R hP hD hS hl
        · refine lv_tableIn (off := 1200) (tgt := 1239) hx hb dL_law_39 (by decide) (by decide) (by rfl) (by decide) ?_
          exact lw_kindOf C0 hlt hG hz hn hL hj KK R hP hD hS hl
        · refine lv_tableIn (off := 1256) (tgt := 1295) hx hb dL_law_39 (by decide) (by decide) (by rfl) (by decide) ?_
          exact lw_keyOf C0 hlt hG hz hn hL hj KK R hP hD hS hl
        · refine lv_tableIn (off := 1312) (tgt := 1351) hx hb dL_law_39 (by decide) (by decide) (by rfl) (by decide) ?_
          exact lw_columnOf C0 hlt hG hz hn hL hj KK R hP hD hS hl
        · refine lv_tableIn (off := 1368) (tgt := 1407) hx hb dL_law_39 (by decide) (by decide) (by rfl) (by decide) ?_
          exact lw_settle C0 hlt hG hz hn hL hj KK R hP hD hS hl
      · refine lv_tableOut (tgt := 1475) hx hb dL_law_39 ho (by decide) ?_
        refine W.widen (k := 32 + j + 1) (n := 5140 + 6 * j + 6) (by omega) (by omega) ?_
        exact KK zb zo zt zm zu zr zl zf mc mw mn me mu mr mz mf mt go H locs ls R hP hD hS hl
set_option maxHeartbeats 4000000 in
set_option maxRecDepth 100000 in
/-- from the entry, for every script of at most 2560 ints, the law comes to its end with true -/
theorem whole_start {p : Program} {e : Env} {s : State} {m : MethodId} {below : List Frame} {meth : Method} {c : Code} (l : Launch) (hflags : l.flags = flags0) {b L : Nat} {xs : Nat → Int32} (hL : L ≤ 2560) (C0 : lw_At p s m meth c b L xs) : W p l e room_1 s m #[Value.ref b] below meth c s.heap [] 0 0 (lw_Z below #[Value.ref b] s) (entryFrame m ([Value.ref b] : List Value).toArray 7) := by
  obtain ⟨hx, hb, hr, hml, hown, hts, hX, hbl, hlocks, hgv⟩ := id C0
  have hlt : l.stackTraces = false := by unfold Launch.stackTraces; rw [hflags]; decide +kernel
  have ht1 : ∀ w ∈ tables_1, w.before #[Value.ref b] s = true := fun w h => hts w (List.mem_append_right _ h)
  have htl : ∀ w ∈ wsL_law, w.before #[Value.ref b] s = true := fun w h => hts w (wsL_law_in w h)
  have hA : ∀ q : Nat, s.heap.size ≤ q → (fun q : Nat => s.heap.size ≤ q) q := fun _ h => h
  obtain ⟨D, cyI, cyZ, cyJ, hG⟩ := st_gL hts
  have hz := st_zq ht1 hgv
  have hn : zn s := st_zn hgv
  have hS : va_S (fun q : Nat => s.heap.size ≤ q) s.heap s.heap [] := va_S.rf
  have hP : va_P D vwCl [] s.heap := fun k q h => by simp at h
  have hD : va_D (fun q : Nat => s.heap.size ≤ q) [] := ⟨fun i j p q h => by simp at h, fun k q h => by simp at h⟩
  have hl := lv_entry ([.ref b]) (n := 7) (Nat.le_of_ble_eq_true rfl)
  rw [lg_entry_eq]
  generalize (lg_sl ([.ref b]) ++ List.replicate (7 - (lg_sl ([.ref b])).length) Slot.unset).toArray = ls at hl ⊢
  have hl : lv_has ls 7 [(0, .ref b)] := hl
  refine va_new (ci := 2) (fs := [.null, .null, .null, .null, .null, .null, .null, .int 0]) (C := RX2) (T := TX2) (N := 8) hx hb hts inX2 tyX2 tyX2_ok hown (ht1 _ (List.mem_of_getElem? (i := 15) (by decide +kernel))) (ht1 _ (List.mem_of_getElem? (i := 16) (by decide +kernel))) (ht1 _ (List.mem_of_getElem? (i := 1) (by decide +kernel))) hG.1.1 hP hD hS hA rfl (fun j hj => by rcases (show j = 0 ∨ j = 1 ∨ j = 2 ∨ j = 3 ∨ j = 4 ∨ j = 5 ∨ j = 6 ∨ j = 7 by omega) with rfl | rfl | rfl | rfl | rfl | rfl | rfl | rfl <;> rfl) (Nat.le_of_ble_eq_true rfl) (Nat.le_of_ble_eq_true rfl) dL_law_0 (fun q0 H hP hD hS => ?_)
  have hP : va_P D vwCl ([(q0, .inr (2, [.null, .null, .null, .null, .null, .null, .null, .int 0]))]) H := hP
  have hD : va_D (fun q : Nat => s.heap.size ≤ q) ([(q0, .inr (2, [.null, .null, .null, .null, .null, .null, .null, .int 0]))]) := hD
  refine W.widen (k := 1) (n := 8) (Nat.le_of_ble_eq_true rfl) (Nat.le_of_ble_eq_true rfl) ?_
  refine lv_dup hx hb dL_law_3 rfl ?_
  have hFc := va_free (wc := [(q0, .inr (2, [.null, .null, .null, .null, .null, .null, .null, .int 0]))]) hD hS hA [0] rfl
  refine va_callv (va_runI (As := []) (rest := [.ref q0]) ⟨hx, hb, hml, hown, htl⟩ (k0_X2_init l D cyI cyZ q0 _ _ rfl) (cwI 0 htl gL_law_X2_init rfl rfl rfl (ht1 _ (List.mem_of_getElem? (i := 1) (by decide +kernel))) (ht1 _ (List.mem_of_getElem? (i := 17) (by decide +kernel))) (ht1 _ (List.mem_of_getElem? (i := 18) (by decide +kernel))) rfl (by decide +kernel) ⟨Nat.le_of_ble_eq_true rfl, Nat.le_of_ble_eq_true rfl⟩) (pmS hG.1 hP hD) rfl rfl hl.1 rfl (lv_room (Nat.le_of_ble_eq_true rfl)) dL_law_4 ⟨Nat.le_of_ble_eq_true rfl, Nat.le_of_ble_eq_true rfl⟩) hS (fun q _ h => hFc q h) hFc (fun ad t H1 locs ht hvm hw hB hz1 hk1 hS => ?_)
  obtain ⟨hP1, hD1⟩ := hB
  rw [ht] at hP1
  obtain ⟨hP2, hD2⟩ := va_join (wr := []) (w1 := wZ cyI cyZ ad t00 t00 t00 t00 (fun _ => 0) (fun _ => 0) l00 0) hP hD [0] [] rfl rfl (by decide) (by decide) hk1 hFc hP1 hD1
  clear hP hD hFc hk1 hP1 hD1
  subst hw
  generalize H1 = H at hP2 hS ⊢
  have hP : va_P D vwCl (wZ cyI cyZ ad t00 t00 t00 t00 (fun _ => 0) (fun _ => 0) l00 0) H := hP2
  have hD : va_D (fun q : Nat => s.heap.size ≤ q) (wZ cyI cyZ ad t00 t00 t00 t00 (fun _ => 0) (fun _ => 0) l00 0) := hD2
  refine W.widen (k := 20) (n := 2542) (Nat.le_of_ble_eq_true rfl) (Nat.le_of_ble_eq_true rfl) ?_
  refine lv_astore_n (lv' := [(1, .ref (ad 0)), (0, .ref b)]) hx hb dL_law_7 rfl hl (by decide) rfl (fun ls hl => ?_)
  refine va_new (ci := 3) (fs := [.null, .null, .null, .null, .null, .null, .int 0, .int 0, .null, .null, .null, .null, .int 0]) (C := RX3) (T := TX3) (N := 13) hx hb hts inX3 tyX3 tyX3_ok hown (ht1 _ (List.mem_of_getElem? (i := 632) (by decide +kernel))) (ht1 _ (List.mem_of_getElem? (i := 633) (by decide +kernel))) (ht1 _ (List.mem_of_getElem? (i := 4) (by decide +kernel))) hG.1.1 hP hD hS hA rfl (fun j hj => by rcases (show j = 0 ∨ j = 1 ∨ j = 2 ∨ j = 3 ∨ j = 4 ∨ j = 5 ∨ j = 6 ∨ j = 7 ∨ j = 8 ∨ j = 9 ∨ j = 10 ∨ j = 11 ∨ j = 12 by omega) with rfl | rfl | rfl | rfl | rfl | rfl | rfl | rfl | rfl | rfl | rfl | rfl | rfl <;> rfl) (Nat.le_of_ble_eq_true rfl) (Nat.le_of_ble_eq_true rfl) dL_law_8 (fun q1 H hP hD hS => ?_)
  have hP : va_P D vwCl (wZ cyI cyZ ad t00 t00 t00 t00 (fun _ => 0) (fun _ => 0) l00 0 ++ [(q1, .inr (3, [.null, .null, .null, .null, .null, .null, .int 0, .int 0, .null, .null, .null, .null, .int 0]))]) H := hP
  have hD : va_D (fun q : Nat => s.heap.size ≤ q) (wZ cyI cyZ ad t00 t00 t00 t00 (fun _ => 0) (fun _ => 0) l00 0 ++ [(q1, .inr (3, [.null, .null, .null, .null, .null, .null, .int 0, .int 0, .null, .null, .null, .null, .int 0]))]) := hD
  refine W.widen (k := 21) (n := 2555) (Nat.le_of_ble_eq_true rfl) (Nat.le_of_ble_eq_true rfl) ?_
  refine lv_dup hx hb dL_law_11 rfl ?_
  have hPc := hP.sub (ws' := [(q1, .inr (3, [.null, .null, .null, .null, .null, .null, .int 0, .int 0, .null, .null, .null, .null, .int 0]))]) [20] rfl
  have hDc := hD.sub (ws' := [(q1, .inr (3, [.null, .null, .null, .null, .null, .null, .int 0, .int 0, .null, .null, .null, .null, .int 0]))]) [20] (by decide) rfl
  have hFc := va_free (wc := [(q1, .inr (3, [.null, .null, .null, .null, .null, .null, .int 0, .int 0, .null, .null, .null, .null, .int 0]))]) hD hS hA [20] rfl
  refine va_callv (va_runI (As := []) (rest := [.ref q1]) ⟨hx, hb, hml, hown, htl⟩ (k0_X3_init l D cyI cyZ q1 _ _ rfl) (cwI 0 htl gL_law_X3_init rfl rfl rfl (ht1 _ (List.mem_of_getElem? (i := 4) (by decide +kernel))) (ht1 _ (List.mem_of_getElem? (i := 634) (by decide +kernel))) (ht1 _ (List.mem_of_getElem? (i := 635) (by decide +kernel))) rfl (by decide +kernel) ⟨Nat.le_of_ble_eq_true rfl, Nat.le_of_ble_eq_true rfl⟩) (pmS hG.1 hPc hDc) rfl rfl hl.1 rfl (lv_room (Nat.le_of_ble_eq_true rfl)) dL_law_12 ⟨Nat.le_of_ble_eq_true rfl, Nat.le_of_ble_eq_true rfl⟩) hS (fun q _ h => hFc q h) hFc (fun am t H1 locs ht hvm hw hB hz1 hk1 hS => ?_)
  obtain ⟨hP1, hD1⟩ := hB
  rw [ht] at hP1
  obtain ⟨hP2, hD2⟩ := va_join (wr := wZ cyI cyZ ad t00 t00 t00 t00 (fun _ => 0) (fun _ => 0) l00 0) (w1 := wN cyI cyZ am (fun _ => 0) (fun _ => 0) (fun _ => 0) (fun _ => 0) (fun _ => 0) (fun _ => 0) k00 0 0) hP hD [20] [0, 1, 2, 3, 4, 5, 6, 7, 8, 9, 10, 11, 12, 13, 14, 15, 16, 17, 18, 19] rfl rfl (by decide) (by decide) hk1 hFc hP1 hD1
  clear hP hD hFc hk1 hP1 hD1 hPc hDc
  subst hw
  generalize H1 = H at hP2 hS ⊢
  have hP : va_P D vwCl (wZ cyI cyZ ad t00 t00 t00 t00 (fun _ => 0) (fun _ => 0) l00 0 ++ wN cyI cyZ am (fun _ => 0) (fun _ => 0) (fun _ => 0) (fun _ => 0) (fun _ => 0) (fun _ => 0) k00 0 0) H := hP2
  have hD : va_D (fun q : Nat => s.heap.size ≤ q) (wZ cyI cyZ ad t00 t00 t00 t00 (fun _ => 0) (fun _ => 0) l00 0 ++ wN cyI cyZ am (fun _ => 0) (fun _ => 0) (fun _ => 0) (fun _ => 0) (fun _ => 0) (fun _ => 0) k00 0 0) := hD2
  refine W.widen (k := 31) (n := 5139) (Nat.le_of_ble_eq_true rfl) (Nat.le_of_ble_eq_true rfl) ?_
  refine lv_astore_n (lv' := [(2, .ref (am 0)), (1, .ref (ad 0)), (0, .ref b)]) hx hb dL_law_15 rfl hl (by decide) rfl (fun ls hl => ?_)
  refine lv_iconst (v := 1) hx hb dL_law_16 (by decide) ?_
  refine na_j (N := 1) hx hb (ht1 _ (List.mem_of_getElem? (i := 875) (by decide +kernel))) hG hP hD hS hA (by decide) (by decide) (by decide) (Nat.le_of_ble_eq_true rfl) (Nat.le_of_ble_eq_true rfl) dL_law_17 (fun oo H hP hD hS => ?_)
  refine W.widen (k := 32 + 0) (n := 5140 + 6 * 0) (Nat.le_of_ble_eq_true rfl) (Nat.le_of_ble_eq_true rfl) ?_
  refine lv_astore_n (lv' := [(3, .ref oo), (2, .ref (am 0)), (1, .ref (ad 0)), (0, .ref b)]) hx hb dL_law_19 rfl hl (by decide) rfl (fun ls hl => ?_)
  refine lv_iconst (v := 0) hx hb dL_law_20 (by decide) ?_
  refine lv_istore (lv' := [(4, .int 0), (3, .ref oo), (2, .ref (am 0)), (1, .ref (ad 0)), (0, .ref b)]) hx hb dL_law_21 hl (by decide) rfl (fun ls hl => ?_)
  have hP : va_P D vwCl (wA cyI cyZ cyJ ad t00 t00 t00 t00 (fun _ => 0) (fun _ => 0) l00 0 oo (fun _ => 0) am (fun _ => 0) (fun _ => 0) (fun _ => 0) (fun _ => 0) (fun _ => 0) (fun _ => 0) k00 0 0) H := hP.sub [0, 1, 2, 3, 4, 5, 6, 7, 8, 9, 10, 11, 12, 13, 14, 15, 16, 17, 18, 19, 31, 20, 21, 22, 23, 24, 25, 26, 27, 28, 29, 30] rfl
  have hD : va_D (fun q : Nat => s.heap.size ≤ q) (wA cyI cyZ cyJ ad t00 t00 t00 t00 (fun _ => 0) (fun _ => 0) l00 0 oo (fun _ => 0) am (fun _ => 0) (fun _ => 0) (fun _ => 0) (fun _ => 0) (fun _ => 0) (fun _ => 0) k00 0 0) := hD.sub [0, 1, 2, 3, 4, 5, 6, 7, 8, 9, 10, 11, 12, 13, 14, 15, 16, 17, 18, 19, 31, 20, 21, 22, 23, 24, 25, 26, 27, 28, 29, 30] (by decide) rfl
  exact law_loop C0 hlt hG hz hn hL (L + 1) 0 (Nat.zero_le L) (by omega) _ _ _ _ _ _ _ _ _ _ _ _ _ _ _ _ _ _ _ _ _ Rl_start hP hD hS (lv_sub (l' := [(0, .ref b), (1, .ref (ad 0)), (2, .ref (am 0)), (3, .ref oo), (4, .int 0)]) hl [4, 3, 2, 1, 0] rfl)
