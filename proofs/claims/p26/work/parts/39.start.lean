/-! ===== what the start's tables say ===== -/
theorem zq_str {own tx : String} {k : Nat} {A : Array Value} {s : State} (h : (Cond.stringRef own k tx).before A s = true) : ∃ sa : Nat, vk_R own k tx sa s := by
  have h1 : (Cond.stringRef own k tx).before #[] s = true := by
    first
      | exact va_tabs rfl rfl h
      | (have h2 := h; simp only [Cond.before, Cond.holds, Cond.value, State.names, State.poolOf?, State.resolvedAt?] at h2 ⊢; exact h2)
      | exact h
  obtain ⟨cur, hcur⟩ : ∃ cur, s.vm.findClass own = some cur := by
    have h2 := h1
    simp only [Cond.before, Cond.holds, Cond.value] at h2
    cases hc : s.vm.findClass own with
    | none => simp [hc] at h2
    | some cur => exact ⟨cur, rfl⟩
  obtain ⟨k9, cf, i, a, -, -, -, -, -, hev⟩ := Cond.stringRef_spec hcur h1
  exact ⟨a, h1, hev⟩
theorem ar_int {A : Array Value} {s : State} (h : (Cond.arrayClass .int).before A s = true) : ∃ cA, ArrOfT s cA .int ∧ va_RA s cA .int := by
  obtain ⟨c, k, comp, h1, h2, h3⟩ := Cond.arrayClass_spec h
  exact ⟨c, fun n z => ⟨fun k h => (by cases h), k, h2, comp, h3⟩, h1⟩
theorem ar_bool {A : Array Value} {s : State} (h : (Cond.arrayClass .boolean).before A s = true) : ∃ cA, ArrOfT s cA .boolean ∧ va_RA s cA .boolean := by
  obtain ⟨c, k, comp, h1, h2, h3⟩ := Cond.arrayClass_spec h
  exact ⟨c, fun n z => ⟨fun k h => (by cases h), k, h2, comp, h3⟩, h1⟩
theorem st_nwM {A : Array Value} {s : State} (ht1 : ∀ w ∈ tables_1, w.before A s = true) : ∀ q ∈ nw_M, va_Nw (.methodLinkNest q.1 q.2.1 q.2.2.1 q.2.2.2) s :=
  List.forall_mem_cons.mpr ⟨va_Nw.of rfl (ht1 _ (List.mem_of_getElem? (i := 24) (by decide +kernel))), List.forall_mem_cons.mpr ⟨va_Nw.of rfl (ht1 _ (List.mem_of_getElem? (i := 46) (by decide +kernel))), List.forall_mem_cons.mpr ⟨va_Nw.of rfl (ht1 _ (List.mem_of_getElem? (i := 472) (by decide +kernel))), List.forall_mem_cons.mpr ⟨va_Nw.of rfl (ht1 _ (List.mem_of_getElem? (i := 303) (by decide +kernel))), List.forall_mem_cons.mpr ⟨va_Nw.of rfl (ht1 _ (List.mem_of_getElem? (i := 310) (by decide +kernel))), List.forall_mem_cons.mpr ⟨va_Nw.of rfl (ht1 _ (List.mem_of_getElem? (i := 483) (by decide +kernel))), List.forall_mem_cons.mpr ⟨va_Nw.of rfl (ht1 _ (List.mem_of_getElem? (i := 204) (by decide +kernel))), List.forall_mem_cons.mpr ⟨va_Nw.of rfl (ht1 _ (List.mem_of_getElem? (i := 322) (by decide +kernel))), List.forall_mem_cons.mpr ⟨va_Nw.of rfl (ht1 _ (List.mem_of_getElem? (i := 342) (by decide +kernel))), List.forall_mem_cons.mpr ⟨va_Nw.of rfl (ht1 _ (List.mem_of_getElem? (i := 343) (by decide +kernel))), List.forall_mem_cons.mpr ⟨va_Nw.of rfl (ht1 _ (List.mem_of_getElem? (i := 224) (by decide +kernel))), List.forall_mem_cons.mpr ⟨va_Nw.of rfl (ht1 _ (List.mem_of_getElem? (i := 228) (by decide +kernel))), List.forall_mem_cons.mpr ⟨va_Nw.of rfl (ht1 _ (List.mem_of_getElem? (i := 344) (by decide +kernel))), List.forall_mem_cons.mpr ⟨va_Nw.of rfl (ht1 _ (List.mem_of_getElem? (i := 250) (by decide +kernel))), List.forall_mem_cons.mpr ⟨va_Nw.of rfl (ht1 _ (List.mem_of_getElem? (i := 360) (by decide +kernel))), List.forall_mem_cons.mpr ⟨va_Nw.of rfl (ht1 _ (List.mem_of_getElem? (i := 255) (by decide +kernel))), List.forall_mem_cons.mpr ⟨va_Nw.of rfl (ht1 _ (List.mem_of_getElem? (i := 259) (by decide +kernel))), List.forall_mem_cons.mpr ⟨va_Nw.of rfl (ht1 _ (List.mem_of_getElem? (i := 372) (by decide +kernel))), List.forall_mem_cons.mpr ⟨va_Nw.of rfl (ht1 _ (List.mem_of_getElem? (i := 277) (by decide +kernel))), List.forall_mem_cons.mpr ⟨va_Nw.of rfl (ht1 _ (List.mem_of_getElem? (i := 287) (by decide +kernel))), List.forall_mem_cons.mpr ⟨va_Nw.of rfl (ht1 _ (List.mem_of_getElem? (i := 229) (by decide +kernel))), List.forall_mem_cons.mpr ⟨va_Nw.of rfl (ht1 _ (List.mem_of_getElem? (i := 414) (by decide +kernel))), List.forall_mem_cons.mpr ⟨va_Nw.of rfl (ht1 _ (List.mem_of_getElem? (i := 423) (by decide +kernel))), List.forall_mem_cons.mpr ⟨va_Nw.of rfl (ht1 _ (List.mem_of_getElem? (i := 260) (by decide +kernel))), List.forall_mem_cons.mpr ⟨va_Nw.of rfl (ht1 _ (List.mem_of_getElem? (i := 431) (by decide +kernel))), List.forall_mem_cons.mpr ⟨va_Nw.of rfl (ht1 _ (List.mem_of_getElem? (i := 461) (by decide +kernel))), List.forall_mem_cons.mpr ⟨va_Nw.of rfl (ht1 _ (List.mem_of_getElem? (i := 517) (by decide +kernel))), List.forall_mem_cons.mpr ⟨va_Nw.of rfl (ht1 _ (List.mem_of_getElem? (i := 529) (by decide +kernel))), List.forall_mem_cons.mpr ⟨va_Nw.of rfl (ht1 _ (List.mem_of_getElem? (i := 534) (by decide +kernel))), List.forall_mem_cons.mpr ⟨va_Nw.of rfl (ht1 _ (List.mem_of_getElem? (i := 543) (by decide +kernel))), List.forall_mem_cons.mpr ⟨va_Nw.of rfl (ht1 _ (List.mem_of_getElem? (i := 551) (by decide +kernel))), List.forall_mem_cons.mpr ⟨va_Nw.of rfl (ht1 _ (List.mem_of_getElem? (i := 559) (by decide +kernel))), List.forall_mem_cons.mpr ⟨va_Nw.of rfl (ht1 _ (List.mem_of_getElem? (i := 568) (by decide +kernel))), (fun _ h => absurd h List.not_mem_nil)⟩⟩⟩⟩⟩⟩⟩⟩⟩⟩⟩⟩⟩⟩⟩⟩⟩⟩⟩⟩⟩⟩⟩⟩⟩⟩⟩⟩⟩⟩⟩⟩⟩
theorem st_nwF {A : Array Value} {s : State} (ht1 : ∀ w ∈ tables_1, w.before A s = true) : ∀ q ∈ nw_F, va_Nw (.fieldLinkNest q.1 q.2.1 q.2.2.1 q.2.2.2.1 q.2.2.2.2.1 q.2.2.2.2.2) s :=
  List.forall_mem_cons.mpr ⟨va_Nw.of rfl (ht1 _ (List.mem_of_getElem? (i := 29) (by decide +kernel))), List.forall_mem_cons.mpr ⟨va_Nw.of rfl (ht1 _ (List.mem_of_getElem? (i := 31) (by decide +kernel))), List.forall_mem_cons.mpr ⟨va_Nw.of rfl (ht1 _ (List.mem_of_getElem? (i := 51) (by decide +kernel))), List.forall_mem_cons.mpr ⟨va_Nw.of rfl (ht1 _ (List.mem_of_getElem? (i := 53) (by decide +kernel))), (fun _ h => absurd h List.not_mem_nil)⟩⟩⟩⟩
theorem st_tx {A : Array Value} {s : State} (ht1 : ∀ w ∈ tables_1, w.before A s = true) : ∀ q ∈ tx_L, ∃ sa : Nat, vk_R RX2 q.1 q.2 sa s :=
  List.forall_mem_cons.mpr ⟨zq_str (ht1 _ (List.mem_of_getElem? (i := 146) (by decide +kernel))), List.forall_mem_cons.mpr ⟨zq_str (ht1 _ (List.mem_of_getElem? (i := 177) (by decide +kernel))), List.forall_mem_cons.mpr ⟨zq_str (ht1 _ (List.mem_of_getElem? (i := 184) (by decide +kernel))), List.forall_mem_cons.mpr ⟨zq_str (ht1 _ (List.mem_of_getElem? (i := 197) (by decide +kernel))), List.forall_mem_cons.mpr ⟨zq_str (ht1 _ (List.mem_of_getElem? (i := 217) (by decide +kernel))), List.forall_mem_cons.mpr ⟨zq_str (ht1 _ (List.mem_of_getElem? (i := 249) (by decide +kernel))), List.forall_mem_cons.mpr ⟨zq_str (ht1 _ (List.mem_of_getElem? (i := 254) (by decide +kernel))), List.forall_mem_cons.mpr ⟨zq_str (ht1 _ (List.mem_of_getElem? (i := 271) (by decide +kernel))), List.forall_mem_cons.mpr ⟨zq_str (ht1 _ (List.mem_of_getElem? (i := 275) (by decide +kernel))), List.forall_mem_cons.mpr ⟨zq_str (ht1 _ (List.mem_of_getElem? (i := 276) (by decide +kernel))), List.forall_mem_cons.mpr ⟨zq_str (ht1 _ (List.mem_of_getElem? (i := 439) (by decide +kernel))), List.forall_mem_cons.mpr ⟨zq_str (ht1 _ (List.mem_of_getElem? (i := 460) (by decide +kernel))), List.forall_mem_cons.mpr ⟨zq_str (ht1 _ (List.mem_of_getElem? (i := 470) (by decide +kernel))), List.forall_mem_cons.mpr ⟨zq_str (ht1 _ (List.mem_of_getElem? (i := 471) (by decide +kernel))), List.forall_mem_cons.mpr ⟨zq_str (ht1 _ (List.mem_of_getElem? (i := 533) (by decide +kernel))), List.forall_mem_cons.mpr ⟨zq_str (ht1 _ (List.mem_of_getElem? (i := 563) (by decide +kernel))), (fun _ h => absurd h List.not_mem_nil)⟩⟩⟩⟩⟩⟩⟩⟩⟩⟩⟩⟩⟩⟩⟩⟩
theorem st_xc {A : Array Value} {s : State} (ht1 : ∀ w ∈ tables_1, w.before A s = true) : ∀ x ∈ xc_L, va_Nw (.castable x x) s :=
  List.forall_mem_cons.mpr ⟨va_Nw.of rfl (ht1 _ (List.mem_of_getElem? (i := 107) (by decide +kernel))), List.forall_mem_cons.mpr ⟨va_Nw.of rfl (ht1 _ (List.mem_of_getElem? (i := 190) (by decide +kernel))), List.forall_mem_cons.mpr ⟨va_Nw.of rfl (ht1 _ (List.mem_of_getElem? (i := 210) (by decide +kernel))), (fun _ h => absurd h List.not_mem_nil)⟩⟩⟩
theorem st_xd {A : Array Value} {s : State} (ht1 : ∀ w ∈ tables_1, w.before A s = true) : ∀ y ∈ xd_L, va_Nw (.declares y) s :=
  List.forall_mem_cons.mpr ⟨va_Nw.of rfl (ht1 _ (List.mem_of_getElem? (i := 109) (by decide +kernel))), List.forall_mem_cons.mpr ⟨va_Nw.of rfl (ht1 _ (List.mem_of_getElem? (i := 111) (by decide +kernel))), List.forall_mem_cons.mpr ⟨va_Nw.of rfl (ht1 _ (List.mem_of_getElem? (i := 113) (by decide +kernel))), (fun _ h => absurd h List.not_mem_nil)⟩⟩⟩
theorem st_zq {A : Array Value} {s : State} (ht1 : ∀ w ∈ tables_1, w.before A s = true) (hgv : (Jvm.Cond.and given_1 narrow_1).before A s = true) : zqA (fun q : Nat => s.heap.size ≤ q) s s.heap :=
  have hs := flat_of_before _ hgv
  ⟨vx_Zqof (ht1 _ (List.mem_of_getElem? (i := 132) (by decide +kernel))) (ht1 _ (List.mem_of_getElem? (i := 4) (by decide +kernel))) (hs _ (by decide +kernel)) (fun _ h1 h2 => absurd h1 (Nat.not_lt.mpr h2)), vx_Zqof (ht1 _ (List.mem_of_getElem? (i := 134) (by decide +kernel))) (ht1 _ (List.mem_of_getElem? (i := 4) (by decide +kernel))) (hs _ (by decide +kernel)) (fun _ h1 h2 => absurd h1 (Nat.not_lt.mpr h2)), st_tx ht1, st_xc ht1, st_xd ht1⟩
theorem st_zn {A : Array Value} {s : State} (hgv : (Jvm.Cond.and given_1 narrow_1).before A s = true) : zn s :=
  have hs := flat_of_before _ hgv
  ⟨va_Nc.of (hs _ (by decide +kernel)), va_Nc.of (hs _ (by decide +kernel)), va_Nc.of (hs _ (by decide +kernel))⟩
theorem st_gP {A : Array Value} {s : State} (hts : ∀ w ∈ lw_tbl, w.before A s = true) : ∃ (D : va_G) (cyI cyZ : ClassId), gP D cyI cyZ s := by
  have ht1 : ∀ w ∈ tables_1, w.before A s = true := fun w h => hts w (List.mem_append_right _ h)
  obtain ⟨c0, iS0, hKn0⟩ := u_known (C := RX0) (T := TX0) (N := 6) (n := 6) hts inX0 (ht1 _ (List.mem_of_getElem? (i := 45) (by decide +kernel)))
  obtain ⟨c1, iS1, hKn1⟩ := u_known (C := RX1) (T := TX1) (N := 4) (n := 4) hts inX1 (ht1 _ (List.mem_of_getElem? (i := 23) (by decide +kernel)))
  obtain ⟨c2, iS2, hKn2⟩ := u_known (C := RX2) (T := TX2) (N := 8) (n := 8) hts inX2 (ht1 _ (List.mem_of_getElem? (i := 15) (by decide +kernel)))
  obtain ⟨dC, dI, hKc⟩ : ∃ (dC : Nat → ClassId) (dI : Nat → Nat → Nat), ∀ (k : Nat) (q : vw_C), vwCl[k]? = some q → u_Kn s q.1 q.2.1 q.2.2 (dC k) (dI k) := by
    refine ⟨fun k => if k = 0 then c0 else if k = 1 then c1 else c2, fun k => if k = 0 then iS0 else if k = 1 then iS1 else iS2, ?_⟩
    intro k q hq
    match k, hq with
    | 0, hq => cases hq; exact hKn0
    | 1, hq => cases hq; exact hKn1
    | 2, hq => cases hq; exact hKn2
    | k + 3, hq => simp [vwCl] at hq
  obtain ⟨cyI, aI⟩ := ar_int (A := A) (s := s) (ht1 _ (List.mem_of_getElem? (i := 43) (by decide +kernel)))
  obtain ⟨cyZ, aZ⟩ := ar_bool (A := A) (s := s) (ht1 _ (List.mem_of_getElem? (i := 71) (by decide +kernel)))
  refine ⟨(dC, dI), cyI, cyZ, ⟨hKc, fun k q hq => ?_⟩, st_nwM ht1, st_nwF ht1⟩
  match k, hq with
  | 0, hq => cases hq; exact aI
  | 1, hq => cases hq; exact aZ
  | k + 2, hq => simp at hq
