set_option maxHeartbeats 4000000 in
set_option maxRecDepth 100000 in
/-- the law's loop: j rounds are done -/
theorem law_loop {p : Program} {l : Launch} {e : Env} {s : State} {m : MethodId} {below : List Frame} {meth : Method} {c : Code} {b L : Nat} {xs : Nat → Int32} (C0 : lw_At p s m meth c b L xs) (hlt : l.stackTraces = false) {D : va_G} {cyI cyZ : ClassId} (hG : gP D cyI cyZ s) (hz : zqA (fun q : Nat => s.heap.size ≤ q) s s.heap) (hn : zn s) {ad : Nat → Nat} (hL : L ≤ 260) : ∀ (n j : Nat), j + n = 30 → ∀ (zb zo zt zm : Tr) (zl : Lr) (zf : Int32) (H : Heap) (locs : List Loc) (ls : Array Slot), IV zb zo zt → va_P D vwCl (wZ cyI cyZ ad zb zo zt zm (fun _ => 0) (fun _ => 0) zl zf) H → va_D (fun q : Nat => s.heap.size ≤ q) (wZ cyI cyZ ad zb zo zt zm (fun _ => 0) (fun _ => 0) zl zf) → va_S (fun q : Nat => s.heap.size ≤ q) s.heap H locs → lv_has ls 7 [(0, .ref b), (1, .ref (ad 0)), (2, .int (nI j))] → W p l e room_1 s m #[Value.ref b] below meth c H locs (1603 + 338 * j) (16884 + 2028 * j) (lw_Z below #[Value.ref b] s) (F0 m 47 ls []) := by
  obtain ⟨hx, hb, hr, hml, hown, hts, hX, hbl, hlocks, hgv⟩ := id C0
  have htl : ∀ w ∈ wsL_law, w.before #[Value.ref b] s = true := fun w h => hts w (wsL_law_in w h)
  have hA : ∀ q : Nat, s.heap.size ≤ q → (fun q : Nat => s.heap.size ≤ q) q := fun _ h => h
  have hbA : ¬ (fun q : Nat => s.heap.size ≤ q) b := Nat.not_le.mpr hbl
  intro n
  induction n with
  | zero =>
    intro j hi zb zo zt zm zl zf H locs ls hI hP hD hS hl
    obtain rfl : j = 30 := by omega
    refine lv_iload_n hx hb dL_law_47 rfl (lv_at hl 2 rfl) ?_
    refine lv_bipush (v := 30) hx hb dL_law_48 (by decide) ?_
    refine lv_icmp_ge (tgt := 261) hx hb dL_law_50 (by decide) (fun _ => ?_) (fun c9 => absurd (by decide) c9)
    refine lv_iconst (v := 1) hx hb dL_law_261 (by decide) ?_
    refine va_forget (fun q hq => hS.2.2 q hq) ?_
    refine W.widen (k := 692290) (n := 7024755) (Nat.le_of_ble_eq_true rfl) (Nat.le_of_ble_eq_true rfl) ?_
    exact lw_ret hx hb hr hlocks dL_law_262
  | succ n ih =>
    intro j hi zb zo zt zm zl zf H locs ls hI hP hD hS hl
    have hj : j < 30 := by omega
    have hcn : 1603 + 338 * j ≤ 600000 := by omega
    have hsn : 16884 + 2028 * j ≤ 7000000 := by omega
    have K74 : ∀ (X : Nat), X < 16777216 → ∀ ls : Array Slot, lv_has ls 7 [(0, .ref b), (1, .ref (ad 0)), (2, .int (nI j))] → W p l e room_1 s m #[Value.ref b] below meth c H locs (1603 + 338 * j) (16884 + 2028 * j) (lw_Z below #[Value.ref b] s) (F0 m 74 ls [.int (nI X)]) := by
      intro X hX9 ls hl
      refine lv_istore_n (lv' := [(3, .int (nI X)), (0, .ref b), (1, .ref (ad 0)), (2, .int (nI j))]) hx hb dL_law_74 rfl hl (by decide) rfl (fun ls hl => ?_)
      refine lv_iload_n hx hb dL_law_75 rfl (lv_at hl 0 rfl) ?_
      refine lv_iconst (v := 3) hx hb dL_law_76 (by decide) ?_
      refine lv_irem hx hb dL_law_77 (by decide) ?_
      refine W.eq (g2 := F0 m 78 ls (.int (nI (X % 3)) :: [])) (congrArg (fun z => F0 m 78 ls (.int z :: [])) (pk_rem (a := X) (d := 3) (by omega) (by decide) (by decide))) ?_
      rcases (show X % 3 = 0 ∨ X % 3 = 1 ∨ X % 3 = 2 by omega) with h3 | h3 | h3
      · refine W.eq (g2 := F0 m 78 ls [.int 0]) (congrArg (fun z => F0 m 78 ls [.int z]) (show nI (X % 3) = 0 by rw [h3]; rfl)) ?_
        refine lv_istore (lv' := [(4, .int 0), (3, .int (nI X)), (0, .ref b), (1, .ref (ad 0)), (2, .int (nI j))]) hx hb dL_law_78 hl (by decide) rfl (fun ls hl => ?_)
        refine lA_0 C0 hlt hG hz hn hcn hsn hX9 (fun H locs ls hP hD hS hl => lB_0 C0 hlt hG hz hn hcn hsn hX9 rfl hI.1.1 hI.2.1.1 (fun t1 f1 g1 q1 e1 H locs ls hP hD hS hl => lC_0 C0 hlt hG hz hn (by omega) (by omega) hX9 (by rw [e1]) g1.1 g1.2.1 (fun t2 f2 g2 q2 H locs ls hP hD hS hl => lD_0 C0 hlt hG hz hn (by omega) (by omega) hX9 g2.1 g2.2.1 (g2.2.2.2 _ q1) q2 (fun t3 g3 H locs ls hP hD hS hl => lE_ C0 hlt hG hz hn (by omega) (by omega) hj (hI.b ((g1.tr g2).tr g3)) (fun zm9 zl9 zf9 H locs ls hP hD hS hl => ?_) H locs ls hP hD hS hl) H locs ls hP hD hS hl) H locs ls hP hD hS hl) H locs ls hP hD hS hl) H locs ls hP hD hS (lv_sub hl [2, 3, 4, 1, 0] rfl)
        refine W.widen (k := 1603 + 338 * (j + 1)) (n := 16884 + 2028 * (j + 1)) (by omega) (by omega) ?_
        exact ih (j + 1) (by omega) t3 zo zt zm9 zl9 zf9 H locs ls (hI.b ((g1.tr g2).tr g3)) hP hD hS hl
      · refine W.eq (g2 := F0 m 78 ls [.int 1]) (congrArg (fun z => F0 m 78 ls [.int z]) (show nI (X % 3) = 1 by rw [h3]; rfl)) ?_
        refine lv_istore (lv' := [(4, .int 1), (3, .int (nI X)), (0, .ref b), (1, .ref (ad 0)), (2, .int (nI j))]) hx hb dL_law_78 hl (by decide) rfl (fun ls hl => ?_)
        refine lA_1 C0 hlt hG hz hn hcn hsn hX9 (fun H locs ls hP hD hS hl => lB_1 C0 hlt hG hz hn hcn hsn hX9 rfl hI.1.2.1 hI.2.1.2.1 (fun t1 f1 g1 q1 e1 H locs ls hP hD hS hl => lC_1 C0 hlt hG hz hn (by omega) (by omega) hX9 (by rw [e1]) g1.1 g1.2.1 (fun t2 f2 g2 q2 H locs ls hP hD hS hl => lD_1 C0 hlt hG hz hn (by omega) (by omega) hX9 g2.1 g2.2.1 (g2.2.2.2 _ q1) q2 (fun t3 g3 H locs ls hP hD hS hl => lE_ C0 hlt hG hz hn (by omega) (by omega) hj (hI.o ((g1.tr g2).tr g3)) (fun zm9 zl9 zf9 H locs ls hP hD hS hl => ?_) H locs ls hP hD hS hl) H locs ls hP hD hS hl) H locs ls hP hD hS hl) H locs ls hP hD hS hl) H locs ls hP hD hS (lv_sub hl [2, 3, 4, 1, 0] rfl)
        refine W.widen (k := 1603 + 338 * (j + 1)) (n := 16884 + 2028 * (j + 1)) (by omega) (by omega) ?_
        exact ih (j + 1) (by omega) zb t3 zt zm9 zl9 zf9 H locs ls (hI.o ((g1.tr g2).tr g3)) hP hD hS hl
      · refine W.eq (g2 := F0 m 78 ls [.int 2]) (congrArg (fun z => F0 m 78 ls [.int z]) (show nI (X % 3) = 2 by rw [h3]; rfl)) ?_
        refine lv_istore (lv' := [(4, .int 2), (3, .int (nI X)), (0, .ref b), (1, .ref (ad 0)), (2, .int (nI j))]) hx hb dL_law_78 hl (by decide) rfl (fun ls hl => ?_)
        refine lA_2 C0 hlt hG hz hn hcn hsn hX9 (fun H locs ls hP hD hS hl => lB_2 C0 hlt hG hz hn hcn hsn hX9 rfl hI.1.2.2 hI.2.1.2.2 (fun t1 f1 g1 q1 e1 H locs ls hP hD hS hl => lC_2 C0 hlt hG hz hn (by omega) (by omega) hX9 (by rw [e1]) g1.1 g1.2.1 (fun t2 f2 g2 q2 H locs ls hP hD hS hl => lD_2 C0 hlt hG hz hn (by omega) (by omega) hX9 g2.1 g2.2.1 (g2.2.2.2 _ q1) q2 (fun t3 g3 H locs ls hP hD hS hl => lE_ C0 hlt hG hz hn (by omega) (by omega) hj (hI.t ((g1.tr g2).tr g3)) (fun zm9 zl9 zf9 H locs ls hP hD hS hl => ?_) H locs ls hP hD hS hl) H locs ls hP hD hS hl) H locs ls hP hD hS hl) H locs ls hP hD hS hl) H locs ls hP hD hS (lv_sub hl [2, 3, 4, 1, 0] rfl)
        refine W.widen (k := 1603 + 338 * (j + 1)) (n := 16884 + 2028 * (j + 1)) (by omega) (by omega) ?_
        exact ih (j + 1) (by omega) zb zo t3 zm9 zl9 zf9 H locs ls (hI.t ((g1.tr g2).tr g3)) hP hD hS hl
    refine lv_iload_n hx hb dL_law_47 rfl (lv_at hl 2 rfl) ?_
    refine lv_bipush (v := 30) hx hb dL_law_48 (by decide) ?_
    refine lv_icmp_ge (tgt := 261) hx hb dL_law_50 (by decide) (fun c9 => absurd c9 (nI_ge hj (by decide))) (fun _ => ?_)
    refine lv_aload_n hx hb dL_law_53 rfl (lv_at hl 0 rfl) ?_
    refine va_slen hx hb hX hbl hbA hS dL_law_54 ?_
    by_cases h0 : L = 0
    · refine lv_if_ne (tgt := 65) hx hb dL_law_55 (by decide) (fun c9 => absurd (by rw [h0]; rfl) c9) (fun _ => ?_)
      refine lv_bipush (v := 7) hx hb dL_law_58 (by decide) ?_
      refine lv_iload_n hx hb dL_law_60 rfl (lv_at hl 2 rfl) ?_
      refine lv_imul hx hb dL_law_61 ?_
      refine W.eq (g2 := F0 m 62 ls [.int (nI (7 * j))]) (congrArg (fun z => F0 m 62 ls [.int z]) (pk_mul 7 j)) ?_
      refine lv_goto (tgt := 74) hx hb dL_law_62 (by decide) ?_
      exact K74 (7 * j) (by omega) ls hl
    · refine lv_if_ne (tgt := 65) hx hb dL_law_55 (by decide) (fun _ => ?_) (fun c9 => absurd c9 (nI_ne0 (by omega) (by omega)))
      refine lv_aload_n hx hb dL_law_65 rfl (lv_at hl 0 rfl) ?_
      refine lv_iload_n hx hb dL_law_66 rfl (lv_at hl 2 rfl) ?_
      refine lv_aload_n hx hb dL_law_67 rfl (lv_at hl 0 rfl) ?_
      refine va_slen hx hb hX hbl hbA hS dL_law_68 ?_
      refine lv_irem hx hb dL_law_69 (nI_ne0 (by omega) (by omega)) ?_
      refine W.eq (g2 := F0 m 70 ls [.int (nI (j % L)), .ref b]) (congrArg (fun z => F0 m 70 ls [.int z, .ref b]) (pk_rem (a := j) (d := L) (by omega) (by omega) (by omega))) ?_
      refine va_sld hx hb hX hbl hbA hS (vp_in_nI (Nat.mod_lt j (by omega)) (by omega)) dL_law_70 ?_
      refine lv_bipush (v := 8) hx hb dL_law_71 (by decide) ?_
      generalize xs (nI (j % L)).toNatClampNeg = x9
      have hb9 : x9 = nI x9.toBitVec.toNat := b_of x9
      have hlt9 : x9.toBitVec.toNat < 2 ^ 32 := x9.toBitVec.isLt
      refine lv_iushr (v := nI (x9.toBitVec.toNat / 2 ^ 8)) hx hb dL_law_73 ?_ ?_
      · exact (congrArg (fun z : Int32 => (z.toUInt32 >>> ((8 : Int32).toUInt32 &&& Int32.toUInt32 31)).toInt32) hb9).trans (pk_ushrN hlt9 8 8 (by decide))
      · exact K74 (x9.toBitVec.toNat / 2 ^ 8) (by omega) ls hl
def lT1 : Tr := (1, 0, (fun _ => 0), (fun _ => 0))
theorem lv1x : f_X2_addColumn_x t00 t00 t00 1 0 0 = 0 := by decide +kernel
theorem lv1v : (f_X2_addColumn t00 t00 t00 0 1 0 0).1 = 1 := by decide +kernel
theorem lv1b : tE ((f_X2_addColumn t00 t00 t00 0 1 0 0).2.1) t00 := tB_of (by decide +kernel)
theorem lv1o : tE ((f_X2_addColumn t00 t00 t00 0 1 0 0).2.2.1) lT1 := tB_of (by decide +kernel)
theorem lv1t : tE ((f_X2_addColumn t00 t00 t00 0 1 0 0).2.2.2.1) t00 := tB_of (by decide +kernel)
theorem lv1f : (f_X2_addColumn t00 t00 t00 0 1 0 0).2.2.2.2 = 0 := by decide +kernel
def lT2 : Tr := (1, 1, (fun _ => 0), (fun _ => 0))
theorem lv2x : f_X2_addRow_x t00 lT1 t00 1 0 = 0 := by decide +kernel
theorem lv2v : (f_X2_addRow t00 lT1 t00 0 1 0).1 = 1 := by decide +kernel
theorem lv2b : tE ((f_X2_addRow t00 lT1 t00 0 1 0).2.1) t00 := tB_of (by decide +kernel)
theorem lv2o : tE ((f_X2_addRow t00 lT1 t00 0 1 0).2.2.1) lT2 := tB_of (by decide +kernel)
theorem lv2t : tE ((f_X2_addRow t00 lT1 t00 0 1 0).2.2.2.1) t00 := tB_of (by decide +kernel)
theorem lv2f : (f_X2_addRow t00 lT1 t00 0 1 0).2.2.2.2 = 0 := by decide +kernel
theorem IV_start : IV t00 lT2 t00 := ⟨⟨tI_00, tIB_of (by decide +kernel), tI_00⟩, ⟨fun n _ => (by show ¬ (0 : Int32) < 0; decide), fun n _ => (by show ¬ (0 : Int32) < 0; decide), fun n _ => (by show ¬ (0 : Int32) < 0; decide)⟩, by decide +kernel, by decide +kernel⟩
set_option maxHeartbeats 4000000 in
set_option maxRecDepth 100000 in
/-- from the entry, for every script of at most 260 ints, the law comes to its end with true -/
theorem whole_start {p : Program} {e : Env} {s : State} {m : MethodId} {below : List Frame} {meth : Method} {c : Code} (l : Launch) (hflags : l.flags = flags0) {b L : Nat} {xs : Nat → Int32} (hL : L ≤ 260) (C0 : lw_At p s m meth c b L xs) : W p l e room_1 s m #[Value.ref b] below meth c s.heap [] 0 0 (lw_Z below #[Value.ref b] s) (entryFrame m ([Value.ref b] : List Value).toArray 7) := by
  obtain ⟨hx, hb, hr, hml, hown, hts, hX, hbl, hlocks, hgv⟩ := id C0
  have htl : ∀ w ∈ wsL_law, w.before #[Value.ref b] s = true := fun w h => hts w (wsL_law_in w h)
  have hA : ∀ q : Nat, s.heap.size ≤ q → (fun q : Nat => s.heap.size ≤ q) q := fun _ h => h
  have hbA : ¬ (fun q : Nat => s.heap.size ≤ q) b := Nat.not_le.mpr hbl
  have hlt : l.stackTraces = false := by unfold Launch.stackTraces; rw [hflags]; decide +kernel
  have ht1 : ∀ w ∈ tables_1, w.before #[Value.ref b] s = true := fun w h => hts w (List.mem_append_right _ h)
  obtain ⟨D, cyI, cyZ, hG⟩ := st_gP hts
  have hz := st_zq ht1 hgv
  have hn : zn s := st_zn hgv
  have hS : va_S (fun q : Nat => s.heap.size ≤ q) s.heap s.heap [] := va_S.rf
  have hP : va_P D vwCl [] s.heap := fun k q h => by simp at h
  have hD : va_D (fun q : Nat => s.heap.size ≤ q) [] := ⟨fun i j p q h => by simp at h, fun k q h => by simp at h⟩
  have hl := lv_entry ([.ref b]) (n := 7) (Nat.le_of_ble_eq_true rfl)
  rw [lg_entry_eq]
  generalize (lg_sl ([.ref b]) ++ List.replicate (7 - (lg_sl ([.ref b])).length) Slot.unset).toArray = ls at hl ⊢
  have hl : lv_has ls 7 [(0, .ref b)] := hl
  refine mo_i (va_runS (As := []) (rest := []) ⟨hx, hb, hml, hown, htl⟩ (k_L_odds l hlt D cyI cyZ _ _ rfl) (va_cwS 0 htl gL_law_L_odds rfl rfl rfl (by decide +kernel) ⟨Nat.le_of_ble_eq_true rfl, Nat.le_of_ble_eq_true rfl⟩) (poS hG hz hn hP hD hS hA) rfl rfl hl.1 rfl (lv_room (Nat.le_of_ble_eq_true rfl)) dL_law_0 ⟨Nat.le_of_ble_eq_true rfl, Nat.le_of_ble_eq_true rfl⟩) hD hS hA rfl wE.rf (fun H locs hP hD hS => ?_)
  refine W.widen (k := 843) (n := 7480) (Nat.le_of_ble_eq_true rfl) (Nat.le_of_ble_eq_true rfl) ?_
  refine lv_if_eq (tgt := 12) hx hb dL_law_3 (by decide) (fun c9 => absurd c9 (by decide)) (fun _ => ?_)
  refine mo_i (va_runS (As := []) (rest := []) ⟨hx, hb, hml, hown, htl⟩ (k_L_rules l hlt D cyI cyZ _ _ rfl) (va_cwS 0 htl gL_law_L_rules rfl rfl rfl (by decide +kernel) ⟨Nat.le_of_ble_eq_true rfl, Nat.le_of_ble_eq_true rfl⟩) (poS hG hz hn hP hD hS hA) rfl rfl hl.1 rfl (lv_room (Nat.le_of_ble_eq_true rfl)) dL_law_6 ⟨Nat.le_of_ble_eq_true rfl, Nat.le_of_ble_eq_true rfl⟩) hD hS hA rfl wE.rf (fun H locs hP hD hS => ?_)
  refine W.widen (k := 1583) (n := 14342) (Nat.le_of_ble_eq_true rfl) (Nat.le_of_ble_eq_true rfl) ?_
  refine lv_if_ne (tgt := 14) hx hb dL_law_9 (by decide) (fun _ => ?_) (fun c9 => absurd c9 (by decide))
  refine va_new (ci := 2) (fs := [.null, .null, .null, .null, .null, .null, .null, .int 0]) (C := RX2) (T := TX2) (N := 8) hx hb htl inlX2 tyX2 tyX2_ok hown (htl (.classLink RL 8 RX2) (List.mem_append_left _ (List.mem_append_left _ (List.mem_append_left _ (List.mem_append_left _ (List.mem_append_left _ (List.mem_append_left _ (List.mem_append_left _ (List.mem_append_left _ (List.mem_of_getElem? (l := wsL_law0_r1) (i := 0) rfl)))))))))) (htl (.instantiable RX2 8) (List.mem_append_left _ (List.mem_append_left _ (List.mem_append_left _ (List.mem_append_left _ (List.mem_append_left _ (List.mem_append_left _ (List.mem_append_left _ (List.mem_append_left _ (List.mem_of_getElem? (l := wsL_law0_r1) (i := 1) rfl)))))))))) (htl (.initialized RX2) (List.mem_append_left _ (List.mem_append_left _ (List.mem_append_left _ (List.mem_append_left _ (List.mem_append_left _ (List.mem_append_left _ (List.mem_append_left _ (List.mem_append_left _ (List.mem_of_getElem? (l := wsL_law0_r1) (i := 2) rfl)))))))))) hG.1 hP hD hS hA rfl (fun j hj => by rcases (show j = 0 ∨ j = 1 ∨ j = 2 ∨ j = 3 ∨ j = 4 ∨ j = 5 ∨ j = 6 ∨ j = 7 by omega) with rfl | rfl | rfl | rfl | rfl | rfl | rfl | rfl <;> rfl) (Nat.le_of_ble_eq_true rfl) (Nat.le_of_ble_eq_true rfl) dL_law_14 (fun q0 H hP hD hS => ?_)
  have hP : va_P D vwCl ([(q0, .inr (2, [.null, .null, .null, .null, .null, .null, .null, .int 0]))]) H := hP
  have hD : va_D (fun q : Nat => s.heap.size ≤ q) ([(q0, .inr (2, [.null, .null, .null, .null, .null, .null, .null, .int 0]))]) := hD
  refine W.widen (k := 1584) (n := 14350) (Nat.le_of_ble_eq_true rfl) (Nat.le_of_ble_eq_true rfl) ?_
  refine lv_dup hx hb dL_law_17 rfl ?_
  have hFc := va_free (wc := [(q0, .inr (2, [.null, .null, .null, .null, .null, .null, .null, .int 0]))]) hD hS hA [0] rfl
  refine va_callv (va_runI (As := []) (rest := [.ref q0]) ⟨hx, hb, hml, hown, htl⟩ (k_X2_init l D cyI cyZ q0 _ _ rfl) (cwI 0 htl gL_law_X2_init rfl rfl rfl (htl (.initialized RX2) (List.mem_append_left _ (List.mem_append_left _ (List.mem_append_left _ (List.mem_append_left _ (List.mem_append_left _ (List.mem_append_left _ (List.mem_append_left _ (List.mem_append_left _ (List.mem_of_getElem? (l := wsL_law0_r1) (i := 2) rfl)))))))))) (htl (.methodLink RL 91 yX2_init) (List.mem_append_left _ (List.mem_append_left _ (List.mem_append_left _ (List.mem_append_left _ (List.mem_append_left _ (List.mem_append_left _ (List.mem_append_left _ (List.mem_append_left _ (List.mem_of_getElem? (l := wsL_law0_r1) (i := 7) rfl)))))))))) (htl (.instanceMethod yX2_init) (List.mem_append_left _ (List.mem_append_left _ (List.mem_append_left _ (List.mem_append_left _ (List.mem_append_left _ (List.mem_append_left _ (List.mem_append_left _ (List.mem_append_left _ (List.mem_of_getElem? (l := wsL_law0_r1) (i := 8) rfl)))))))))) rfl (by decide +kernel) ⟨Nat.le_of_ble_eq_true rfl, Nat.le_of_ble_eq_true rfl⟩) (pmS hG hP hD) rfl rfl hl.1 rfl (lv_room (Nat.le_of_ble_eq_true rfl)) dL_law_18 ⟨Nat.le_of_ble_eq_true rfl, Nat.le_of_ble_eq_true rfl⟩) hS (fun q _ h => hFc q h) hFc (fun ad t H1 locs ht hvm hw hB hz1 hk1 hS => ?_)
  obtain ⟨hP1, hD1⟩ := hB
  rw [ht] at hP1
  obtain ⟨hP2, hD2⟩ := va_join (wr := []) (w1 := wZ cyI cyZ ad t00 t00 t00 t00 (fun _ => 0) (fun _ => 0) l00 0) hP hD [0] [] rfl rfl (by decide) (by decide) hk1 hFc hP1 hD1
  clear hP hD hFc hk1 hP1 hD1
  subst hw
  generalize H1 = H at hP2 hS ⊢
  have hP : va_P D vwCl (wZ cyI cyZ ad t00 t00 t00 t00 (fun _ => 0) (fun _ => 0) l00 0) H := hP2
  have hD : va_D (fun q : Nat => s.heap.size ≤ q) (wZ cyI cyZ ad t00 t00 t00 t00 (fun _ => 0) (fun _ => 0) l00 0) := hD2
  refine W.widen (k := 1603) (n := 16884) (Nat.le_of_ble_eq_true rfl) (Nat.le_of_ble_eq_true rfl) ?_
  refine lv_astore_n (lv' := [(1, .ref (ad 0)), (0, .ref b)]) hx hb dL_law_21 rfl hl (by decide) rfl (fun ls hl => ?_)
  refine lv_aload_n hx hb dL_law_22 rfl (lv_at hl 0 rfl) ?_
  refine lv_iconst (v := 1) hx hb dL_law_23 (by decide) ?_
  refine lv_iconst (v := 0) hx hb dL_law_24 (by decide) ?_
  refine lv_iconst (v := 0) hx hb dL_law_25 (by decide) ?_
  refine mo_i (va_runV (As := [.int 1, .int 0, .int 0]) (rest := []) ⟨hx, hb, hml, hown, htl⟩ (k_X2_addColumn l D cyI cyZ ad t00 t00 t00 t00 (fun _ => 0) (fun _ => 0) l00 0 1 0 0 _ _ rfl lv1x) (cwV 3 htl gL_law_X2_addColumn rfl rfl rfl (by decide +kernel) ⟨Nat.le_of_ble_eq_true rfl, Nat.le_of_ble_eq_true rfl⟩) (pmV hG hP hD (ci := 2) rfl rfl rfl) rfl rfl hl.1 rfl (lv_room (Nat.le_of_ble_eq_true rfl)) dL_law_26 ⟨Nat.le_of_ble_eq_true rfl, Nat.le_of_ble_eq_true rfl⟩) hD hS hA (lv1v) (wE_z lv1b lv1o lv1t tE.rf aE.rf aE.rf lE.rf lv1f) (fun H locs hP hD hS => ?_)
  refine lv_iconst (v := 1) hx hb dL_law_29 (by decide) ?_
  refine lv_icmp_ne (tgt := 43) hx hb dL_law_30 (by decide) (fun c9 => absurd (by decide) c9) (fun _ => ?_)
  refine lv_aload_n hx hb dL_law_33 rfl (lv_at hl 0 rfl) ?_
  refine lv_iconst (v := 1) hx hb dL_law_34 (by decide) ?_
  refine lv_iconst (v := 0) hx hb dL_law_35 (by decide) ?_
  refine mo_i (va_runV (As := [.int 1, .int 0]) (rest := []) ⟨hx, hb, hml, hown, htl⟩ (k_X2_addRow l D cyI cyZ ad t00 lT1 t00 t00 (fun _ => 0) (fun _ => 0) l00 0 1 0 _ _ rfl lv2x) (cwV 2 htl gL_law_X2_addRow rfl rfl rfl (by decide +kernel) ⟨Nat.le_of_ble_eq_true rfl, Nat.le_of_ble_eq_true rfl⟩) (pmV hG hP hD (ci := 2) rfl rfl rfl) rfl rfl hl.1 rfl (lv_room (Nat.le_of_ble_eq_true rfl)) dL_law_36 ⟨Nat.le_of_ble_eq_true rfl, Nat.le_of_ble_eq_true rfl⟩) hD hS hA (lv2v) (wE_z lv2b lv2o lv2t tE.rf aE.rf aE.rf lE.rf lv2f) (fun H locs hP hD hS => ?_)
  refine lv_iconst (v := 1) hx hb dL_law_39 (by decide) ?_
  refine lv_icmp_eq (tgt := 45) hx hb dL_law_40 (by decide) (fun _ => ?_) (fun c9 => absurd (by decide) c9)
  refine lv_iconst (v := 0) hx hb dL_law_45 (by decide) ?_
  refine lv_istore_n (lv' := [(2, .int 0), (1, .ref (ad 0)), (0, .ref b)]) hx hb dL_law_46 rfl hl (by decide) rfl (fun ls hl => ?_)
  refine W.widen (k := 1603 + 338 * 0) (n := 16884 + 2028 * 0) (Nat.le_of_ble_eq_true rfl) (Nat.le_of_ble_eq_true rfl) ?_
  exact law_loop C0 hlt hG hz hn hL 30 0 rfl t00 lT2 t00 t00 l00 0 H locs ls IV_start hP hD hS (lv_sub hl [2, 1, 0] rfl)
