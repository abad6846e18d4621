/-! words of the nest: links to own members of a nest mate, as the tables have them -/
def nw_M : List (String × Nat × MethodName × String) := [("TableSplice", 9, ⟨"TableSplice$Table", "<init>", "()V"⟩, "TableSplice"), ("TableSplice", 35, ⟨"TableSplice$ConflictList", "<init>", "()V"⟩, "TableSplice"), ("TableSplice", 140, ⟨"TableSplice$Table", "becomeLike", "(LTableSplice$Table;)V"⟩, "TableSplice"), ("TableSplice", 144, ⟨"TableSplice$Table", "becomeEmpty", "()V"⟩, "TableSplice"), ("TableSplice", 147, ⟨"TableSplice$ConflictList", "becomeEmpty", "()V"⟩, "TableSplice"), ("TableSplice", 148, ⟨"TableSplice$Table", "cellCount", "()I"⟩, "TableSplice"), ("TableSplice", 55, ⟨"TableSplice$Table", "hasColumn", "(I)Z"⟩, "TableSplice"), ("TableSplice", 262, ⟨"TableSplice$Table", "changedColumnOf", "(LTableSplice$Table;I)Z"⟩, "TableSplice"), ("TableSplice", 78, ⟨"TableSplice$Table", "nameAt", "(I)I"⟩, "TableSplice"), ("TableSplice", 266, ⟨"TableSplice$Table", "renamedColumnOf", "(LTableSplice$Table;I)Z"⟩, "TableSplice"), ("TableSplice", 66, ⟨"TableSplice$Table", "putColumn", "(II)V"⟩, "TableSplice"), ("TableSplice$Table", 49, ⟨"TableSplice", "isColumnNumber", "(I)Z"⟩, "TableSplice"), ("TableSplice", 256, ⟨"TableSplice$ConflictList", "append", "(III)V"⟩, "TableSplice"), ("TableSplice", 91, ⟨"TableSplice$Table", "hasRow", "(I)Z"⟩, "TableSplice"), ("TableSplice", 275, ⟨"TableSplice$Table", "countCellsChanged", "(LTableSplice$Table;I)I"⟩, "TableSplice"), ("TableSplice", 96, ⟨"TableSplice$Table", "putRow", "(I)V"⟩, "TableSplice"), ("TableSplice$Table", 56, ⟨"TableSplice", "isKey", "(I)Z"⟩, "TableSplice"), ("TableSplice", 185, ⟨"TableSplice$Table", "hasCell", "(II)Z"⟩, "TableSplice"), ("TableSplice", 113, ⟨"TableSplice$Table", "cellAt", "(II)I"⟩, "TableSplice"), ("TableSplice", 117, ⟨"TableSplice$Table", "putCell", "(III)V"⟩, "TableSplice"), ("TableSplice", 70, ⟨"TableSplice$Table", "columnCount", "()I"⟩, "TableSplice"), ("TableSplice", 82, ⟨"TableSplice$Table", "cutColumn", "(I)V"⟩, "TableSplice"), ("TableSplice", 85, ⟨"TableSplice$Table", "putName", "(II)V"⟩, "TableSplice"), ("TableSplice", 99, ⟨"TableSplice$Table", "rowCount", "()I"⟩, "TableSplice"), ("TableSplice", 105, ⟨"TableSplice$Table", "cutRow", "(I)V"⟩, "TableSplice"), ("TableSplice", 136, ⟨"TableSplice$Table", "countChangesFrom", "(LTableSplice$Table;)I"⟩, "TableSplice"), ("TableSplice", 304, ⟨"TableSplice$Table", "addedOrChangedCellOf", "(LTableSplice$Table;II)Z"⟩, "TableSplice"), ("TableSplice", 245, ⟨"TableSplice$ConflictList", "holds", "(I)Z"⟩, "TableSplice"), ("TableSplice", 199, ⟨"TableSplice$ConflictList", "kindAt", "(I)I"⟩, "TableSplice"), ("TableSplice", 202, ⟨"TableSplice$ConflictList", "keyAt", "(I)I"⟩, "TableSplice"), ("TableSplice", 205, ⟨"TableSplice$ConflictList", "columnAt", "(I)I"⟩, "TableSplice"), ("TableSplice", 208, ⟨"TableSplice$ConflictList", "isSettled", "(I)Z"⟩, "TableSplice"), ("TableSplice", 217, ⟨"TableSplice$ConflictList", "markSettled", "(I)V"⟩, "TableSplice")]
def nw_F : List (String × Nat × String × String × String × String) := [("TableSplice", 126, "TableSplice$Table", "columnSet", "I", "TableSplice"), ("TableSplice", 130, "TableSplice$Table", "rowSet", "I", "TableSplice"), ("TableSplice", 166, "TableSplice$ConflictList", "size", "I", "TableSplice"), ("TableSplice", 171, "TableSplice$ConflictList", "openCount", "I", "TableSplice")]
def nwA (U : State) : Prop := (∀ q ∈ nw_M, va_Nw (.methodLinkNest q.1 q.2.1 q.2.2.1 q.2.2.2) U) ∧ ∀ q ∈ nw_F, va_Nw (.fieldLinkNest q.1 q.2.1 q.2.2.1 q.2.2.2.1 q.2.2.2.2.1 q.2.2.2.2.2) U
theorem nwA.same {u U : State} (h : u.vm = U.vm) (q : nwA u) : nwA U := ⟨fun w hw => va_Nw.same rfl h (q.1 w hw), fun w hw => va_Nw.same rfl h (q.2 w hw)⟩
theorem nwA.warm {s U : State} (hW : s.WarmedH U.vm) (q : nwA s) : nwA U := ⟨fun w hw => va_Nw.warmM hW (q.1 w hw), fun w hw => va_Nw.warmF hW (q.2 w hw)⟩
/-- what every method knows of the tables -/
def gP (D : va_G) (cyI cyZ : ClassId) (U : State) : Prop := va_K D vwCl [(cyI, .int), (cyZ, .boolean)] U ∧ nwA U
theorem gP.same {D : va_G} {cyI cyZ : ClassId} {u U : State} (h : u.vm = U.vm) (q : gP D cyI cyZ u) : gP D cyI cyZ U := ⟨va_K.moved (by rw [h]; exact Vm.Alike.refl _) q.1, nwA.same h q.2⟩
theorem gP.warm {D : va_G} {cyI cyZ : ClassId} {s U : State} (hW : s.WarmedH U.vm) (q : gP D cyI cyZ s) : gP D cyI cyZ U := ⟨va_K.moved hW.alike q.1, nwA.warm hW q.2⟩
/-! raw states: a table (column set, row set, names, cells), a list of conflicts (size, open, kinds, keys, columns, settled) -/
abbrev Tr : Type := Int32 × Int32 × (Nat → Int32) × (Nat → Int32)
abbrev Lr : Type := Int32 × Int32 × (Nat → Int32) × (Nat → Int32) × (Nat → Int32) × (Nat → Int32)
def nA : Nat → Prop := fun _ => False
abbrev wT (cyI : ClassId) (h n c : Nat) (t : Tr) : va_W := [(h, .inr (1, [.int t.1, .int t.2.1, .ref n, .ref c])), (n, .inl (cyI, 8, .inl t.2.2.1)), (c, .inl (cyI, 192, .inl t.2.2.2))]
abbrev wU (cyI : ClassId) (h n c : Nat) (t : Tr) (h2 n2 c2 : Nat) (t2 : Tr) : va_W := [(h, .inr (1, [.int t.1, .int t.2.1, .ref n, .ref c])), (n, .inl (cyI, 8, .inl t.2.2.1)), (c, .inl (cyI, 192, .inl t.2.2.2)), (h2, .inr (1, [.int t2.1, .int t2.2.1, .ref n2, .ref c2])), (n2, .inl (cyI, 8, .inl t2.2.2.1)), (c2, .inl (cyI, 192, .inl t2.2.2.2))]
abbrev wL (cyI cyZ : ClassId) (h k y q s : Nat) (z : Lr) : va_W := [(h, .inr (0, [.int z.1, .int z.2.1, .ref k, .ref y, .ref q, .ref s])), (k, .inl (cyI, 424, .inl z.2.2.1)), (y, .inl (cyI, 424, .inl z.2.2.2.1)), (q, .inl (cyI, 424, .inl z.2.2.2.2.1)), (s, .inl (cyZ, 424, .inl z.2.2.2.2.2))]
abbrev wZ (cyI cyZ : ClassId) (a : Nat → Nat) (zb zo zt zm : Tr) (zu zr : Nat → Int32) (zl : Lr) (zf : Int32) : va_W := [(a 0, .inr (2, [.ref (a 1), .ref (a 4), .ref (a 7), .ref (a 10), .ref (a 13), .ref (a 14), .ref (a 15), .int zf])),
  (a 1, .inr (1, [.int zb.1, .int zb.2.1, .ref (a 2), .ref (a 3)])), (a 2, .inl (cyI, 8, .inl zb.2.2.1)), (a 3, .inl (cyI, 192, .inl zb.2.2.2)),
  (a 4, .inr (1, [.int zo.1, .int zo.2.1, .ref (a 5), .ref (a 6)])), (a 5, .inl (cyI, 8, .inl zo.2.2.1)), (a 6, .inl (cyI, 192, .inl zo.2.2.2)),
  (a 7, .inr (1, [.int zt.1, .int zt.2.1, .ref (a 8), .ref (a 9)])), (a 8, .inl (cyI, 8, .inl zt.2.2.1)), (a 9, .inl (cyI, 192, .inl zt.2.2.2)),
  (a 10, .inr (1, [.int zm.1, .int zm.2.1, .ref (a 11), .ref (a 12)])), (a 11, .inl (cyI, 8, .inl zm.2.2.1)), (a 12, .inl (cyI, 192, .inl zm.2.2.2)),
  (a 13, .inl (cyI, 8, .inl zu)), (a 14, .inl (cyZ, 8, .inl zr)),
  (a 15, .inr (0, [.int zl.1, .int zl.2.1, .ref (a 16), .ref (a 17), .ref (a 18), .ref (a 19)])), (a 16, .inl (cyI, 424, .inl zl.2.2.1)), (a 17, .inl (cyI, 424, .inl zl.2.2.2.1)), (a 18, .inl (cyI, 424, .inl zl.2.2.2.2.1)), (a 19, .inl (cyZ, 424, .inl zl.2.2.2.2.2))]
abbrev wM (cyI cyZ : ClassId) (a : Nat → Nat) (mc mw mn me mu mr : Nat → Int32) (ml mf : Int32) (mk my mq ms : Nat → Int32) (mt : Int32) : va_W := [(a 0, .inr (3, [.ref (a 1), .ref (a 2), .ref (a 3), .ref (a 4), .ref (a 5), .ref (a 6), .int ml, .int mf, .ref (a 7), .ref (a 8), .ref (a 9), .ref (a 10), .int mt])),
  (a 1, .inl (cyI, 4, .inl mc)), (a 2, .inl (cyI, 4, .inl mw)), (a 3, .inl (cyI, 32, .inl mn)), (a 4, .inl (cyI, 768, .inl me)), (a 5, .inl (cyI, 8, .inl mu)), (a 6, .inl (cyZ, 8, .inl mr)), (a 7, .inl (cyI, 440, .inl mk)), (a 8, .inl (cyI, 440, .inl my)), (a 9, .inl (cyI, 440, .inl mq)), (a 10, .inl (cyZ, 440, .inl ms))]
/-! contracts: a pure one (its world stays), one that changes its world -/
def pcP (D : va_G) (cyI cyZ : ClassId) (av : List Value) (ws : va_W) : Array Value → State → Prop := va_Pc av (fun U => va_P D vwCl ws U.heap ∧ gP D cyI cyZ U)
def pcM (D : va_G) (cyI cyZ : ClassId) (sz : Nat) (av : List Value) (ws : va_W) : Array Value → State → Prop := va_Pc av (fun U => U.heap.size = sz ∧ va_P D vwCl ws U.heap ∧ gP D cyI cyZ U ∧ va_D (fun _ => True) ws)
theorem pcP_blind {D : va_G} {cyI cyZ : ClassId} {av : List Value} {ws : va_W} : FrameBlind (pcP D cyI cyZ av ws) := fun _ U g mk q => ⟨q.1, q.2.1, gP.same (u := U) (U := U.calling g mk _) rfl q.2.2⟩
theorem pcM_blind {D : va_G} {cyI cyZ : ClassId} {sz : Nat} {av : List Value} {ws : va_W} : FrameBlind (pcM D cyI cyZ sz av ws) := fun _ U g mk q => ⟨q.1, q.2.1, q.2.2.1, gP.same (u := U) (U := U.calling g mk _) rfl q.2.2.2.1, q.2.2.2.2⟩
abbrev qI (v : Int32) : Array Value → State → Outcome → State → Prop := va_Qi (fun (r : Int32) (_ : Unit) => r = v) (fun _ _ => True) nA
abbrev qV : Array Value → State → Outcome → State → Prop := va_Qv (fun (_ : Unit) => True) (fun _ _ => True) nA
abbrev qR (v : Nat) : Array Value → State → Outcome → State → Prop := va_Qr (fun (_ : Unit) => True) (fun _ a _ => a = v) nA
abbrev mI (D : va_G) (A : Nat → Prop) (w1 : va_W) (v : Int32) : Array Value → State → Outcome → State → Prop := va_Qi (fun (r : Int32) (_ : Unit) => r = v) (fun _ t => va_P D vwCl w1 t.heap ∧ va_D A w1) A
abbrev mV (D : va_G) (A : Nat → Prop) (w1 : va_W) : Array Value → State → Outcome → State → Prop := va_Qv (fun (_ : Unit) => True) (fun _ t => va_P D vwCl w1 t.heap ∧ va_D A w1) A
section XCTX
variable {p : Program} {l : Launch} {e : Env} {R : Room} {s : State} {m : MethodId} {args : Array Value} {below : List Frame} {meth : Method} {c : Code} {H : Heap} {locs : List Loc} {cells slots : Nat} {Q : State → Prop}
variable {D : va_G} {cyI cyZ : ClassId} {pc : Nat} {ls : Array Slot} {rest st0 : List Value} {a : Array Value} {A0 : Nat → Prop} {H0 : Heap} {ws wc wr w1 w2 : va_W} {b : Addr} {As : List Value} {C : String}
theorem pr_i {v : Int32} (hr : va_Run p l e R s m args below meth c H locs cells slots 0 0 (F0 m pc ls st0) rest (qI v a) nA) (hS : va_S A0 H0 H locs) (hP : va_P D vwCl ws H)
    (kk : ∀ (H1 : Heap) (locs1 : List Loc), va_P D vwCl ws H1 → va_S A0 H0 H1 locs1 → W p l e R s m args below meth c H1 locs1 cells slots Q (F0 m (pc + 3) ls (.int v :: rest))) : W p l e R s m args below meth c H locs cells slots Q (F0 m pc ls st0) :=
  va_calli hr hS (fun _ _ h => h.elim) (fun _ h => h.elim) (fun r u t H1 locs1 _ _ hp _ _ hk hS1 => by rw [hp]; exact kk H1 locs1 (hP.kept (fun k q hq => hk q.1 (hP k q hq).lt id)) hS1)
theorem pr_v (hr : va_Run p l e R s m args below meth c H locs cells slots 0 0 (F0 m pc ls st0) rest (qV a) nA) (hS : va_S A0 H0 H locs) (hP : va_P D vwCl ws H)
    (kk : ∀ (H1 : Heap) (locs1 : List Loc), va_P D vwCl ws H1 → va_S A0 H0 H1 locs1 → W p l e R s m args below meth c H1 locs1 cells slots Q (F0 m (pc + 3) ls rest)) : W p l e R s m args below meth c H locs cells slots Q (F0 m pc ls st0) :=
  va_callv hr hS (fun _ _ h => h.elim) (fun _ h => h.elim) (fun u t H1 locs1 _ _ _ _ _ hk hS1 => kk H1 locs1 (hP.kept (fun k q hq => hk q.1 (hP k q hq).lt id)) hS1)
theorem pr_r {v : Nat} (hr : va_Run p l e R s m args below meth c H locs cells slots 0 0 (F0 m pc ls st0) rest (qR v a) nA) (hS : va_S A0 H0 H locs) (hP : va_P D vwCl ws H)
    (kk : ∀ (H1 : Heap) (locs1 : List Loc), va_P D vwCl ws H1 → va_S A0 H0 H1 locs1 → W p l e R s m args below meth c H1 locs1 cells slots Q (F0 m (pc + 3) ls (.ref v :: rest))) : W p l e R s m args below meth c H locs cells slots Q (F0 m pc ls st0) :=
  va_callr hr hS (fun _ _ h => h.elim) (fun _ h => h.elim) (fun u ra t H1 locs1 _ _ _ hb _ hk hS1 => by rw [show ra = v from hb]; exact kk H1 locs1 (hP.kept (fun k q hq => hk q.1 (hP k q hq).lt id)) hS1)
theorem mr_F (hD : va_D A0 ws) (hS : va_S A0 H0 H locs) (hA : ∀ q, H0.size ≤ q → A0 q) : ∀ q, va_A ws H.size q → A0 q := fun q h => h.elim (fun ⟨k, e, hk⟩ => hD.2 k (q, e) hk) (fun h => hA q (Nat.le_trans hS.1 h))
theorem mr_i0 {v : Int32} (hr : va_Run p l e R s m args below meth c H locs cells slots 0 0 (F0 m pc ls st0) rest (mI D (va_A ws H.size) w1 v a) (va_A ws H.size)) (hD : va_D A0 ws) (hS : va_S A0 H0 H locs) (hA : ∀ q, H0.size ≤ q → A0 q)
    (kk : ∀ (H1 : Heap) (locs1 : List Loc), va_P D vwCl w1 H1 → va_D A0 w1 → va_S A0 H0 H1 locs1 → W p l e R s m args below meth c H1 locs1 cells slots Q (F0 m (pc + 3) ls (.int v :: rest))) : W p l e R s m args below meth c H locs cells slots Q (F0 m pc ls st0) :=
  va_calli hr hS (fun q _ h => mr_F hD hS hA q h) (mr_F hD hS hA) (fun r u t H1 locs1 ht _ hp hb _ _ hS1 => by rw [hp]; exact kk H1 locs1 (by rw [← ht]; exact hb.1) (hb.2.weaken (fun _ q _ h => mr_F hD hS hA q.1 h)) hS1)
theorem mr_v0 (hr : va_Run p l e R s m args below meth c H locs cells slots 0 0 (F0 m pc ls st0) rest (mV D (va_A ws H.size) w1 a) (va_A ws H.size)) (hD : va_D A0 ws) (hS : va_S A0 H0 H locs) (hA : ∀ q, H0.size ≤ q → A0 q)
    (kk : ∀ (H1 : Heap) (locs1 : List Loc), va_P D vwCl w1 H1 → va_D A0 w1 → va_S A0 H0 H1 locs1 → W p l e R s m args below meth c H1 locs1 cells slots Q (F0 m (pc + 3) ls rest)) : W p l e R s m args below meth c H locs cells slots Q (F0 m pc ls st0) :=
  va_callv hr hS (fun q _ h => mr_F hD hS hA q h) (mr_F hD hS hA) (fun u t H1 locs1 ht _ _ hb _ _ hS1 => kk H1 locs1 (by rw [← ht]; exact hb.1) (hb.2.weaken (fun _ q _ h => mr_F hD hS hA q.1 h)) hS1)
theorem mr_fm {α : Type} {is : List Nat} {u w : List α} (h : is.map (fun i => u[i]?) = w.map some) : is.filterMap (fun i => u[i]?) = w := by
  have h1 : (is.map (fun i => u[i]?)).filterMap id = (w.map some).filterMap id := by rw [h]
  rw [List.filterMap_map, List.filterMap_map] at h1
  simpa using h1
theorem mr_i {v : Int32} (hr : va_Run p l e R s m args below meth c H locs cells slots 0 0 (F0 m pc ls st0) rest (mI D (va_A wc H.size) w1 v a) (va_A wc H.size)) (hP : va_P D vwCl ws H) (hD : va_D A0 ws) (hS : va_S A0 H0 H locs) (hA : ∀ q, H0.size ≤ q → A0 q)
    (isC isR pm : List Nat) (hC : isC.map (fun i => ws[i]?) = wc.map some) (hR : isR.map (fun i => ws[i]?) = (isR.filterMap (fun i => ws[i]?)).map some) (hn : va_nd isR = true) (hdis : ∀ i ∈ isR, i ∉ isC) (hn2 : va_nd pm = true) (hpm : pm.map (fun i => (isR.filterMap (fun i => ws[i]?) ++ w1)[i]?) = w2.map some)
    (kk : ∀ (H1 : Heap) (locs1 : List Loc), va_P D vwCl w2 H1 → va_D A0 w2 → va_S A0 H0 H1 locs1 → W p l e R s m args below meth c H1 locs1 cells slots Q (F0 m (pc + 3) ls (.int v :: rest))) : W p l e R s m args below meth c H locs cells slots Q (F0 m pc ls st0) :=
  have hF : ∀ q, va_A wc H.size q → A0 q := va_free hD hS hA isC hC
  va_calli hr hS (fun q _ h => hF q h) hF (fun r u t H1 locs1 ht _ hp hb _ hk hS1 => by
    rw [hp]
    obtain ⟨hP1, hD1⟩ := va_join (wr := isR.filterMap (fun i => ws[i]?)) (w1 := w1) hP hD isC isR hC hR hn hdis hk hF (by rw [← ht]; exact hb.1) hb.2
    exact kk H1 locs1 (hP1.sub pm (mr_fm hpm)) (hD1.sub pm hn2 hpm) hS1)
theorem mr_v (hr : va_Run p l e R s m args below meth c H locs cells slots 0 0 (F0 m pc ls st0) rest (mV D (va_A wc H.size) w1 a) (va_A wc H.size)) (hP : va_P D vwCl ws H) (hD : va_D A0 ws) (hS : va_S A0 H0 H locs) (hA : ∀ q, H0.size ≤ q → A0 q)
    (isC isR pm : List Nat) (hC : isC.map (fun i => ws[i]?) = wc.map some) (hR : isR.map (fun i => ws[i]?) = (isR.filterMap (fun i => ws[i]?)).map some) (hn : va_nd isR = true) (hdis : ∀ i ∈ isR, i ∉ isC) (hn2 : va_nd pm = true) (hpm : pm.map (fun i => (isR.filterMap (fun i => ws[i]?) ++ w1)[i]?) = w2.map some)
    (kk : ∀ (H1 : Heap) (locs1 : List Loc), va_P D vwCl w2 H1 → va_D A0 w2 → va_S A0 H0 H1 locs1 → W p l e R s m args below meth c H1 locs1 cells slots Q (F0 m (pc + 3) ls rest)) : W p l e R s m args below meth c H locs cells slots Q (F0 m pc ls st0) :=
  have hF : ∀ q, va_A wc H.size q → A0 q := va_free hD hS hA isC hC
  va_callv hr hS (fun q _ h => hF q h) hF (fun u t H1 locs1 ht _ _ hb _ hk hS1 => by
    obtain ⟨hP1, hD1⟩ := va_join (wr := isR.filterMap (fun i => ws[i]?)) (w1 := w1) hP hD isC isR hC hR hn hdis hk hF (by rw [← ht]; exact hb.1) hb.2
    exact kk H1 locs1 (hP1.sub pm (mr_fm hpm)) (hD1.sub pm hn2 hpm) hS1)
theorem prV {ci : Nat} {q : vw_C} {fs : List Value} (hG : gP D cyI cyZ s) (hP : va_P D vwCl wc H) (hq : vwCl[ci]? = some q) (hC : q.1 = C) (he : wc[0]? = some (b, .inr (ci, fs))) : PreV s H C b (pcP D cyI cyZ (Value.ref b :: As) wc) As := by
  subst hC
  exact ⟨pcP_blind, va_recv hG.1 hP hq he, fun U hU hW => ⟨rfl, by rw [hU]; exact hP, hG.warm hW⟩⟩
theorem prS (hG : gP D cyI cyZ s) (hP : va_P D vwCl wc H) : PreS s H (pcP D cyI cyZ As wc) As := ⟨pcP_blind, fun U hU hW => ⟨rfl, by rw [hU]; exact hP, hG.warm hW⟩⟩
theorem pmV {ci : Nat} {q : vw_C} {fs : List Value} {A : Nat → Prop} (hG : gP D cyI cyZ s) (hP : va_P D vwCl wc H) (hD : va_D A wc) (hq : vwCl[ci]? = some q) (hC : q.1 = C) (he : wc[0]? = some (b, .inr (ci, fs))) : PreV s H C b (pcM D cyI cyZ H.size (Value.ref b :: As) wc) As := by
  subst hC
  exact ⟨pcM_blind, va_recv hG.1 hP hq he, fun U hU hW => ⟨rfl, by rw [hU], by rw [hU]; exact hP, hG.warm hW, hD.weaken (fun _ _ _ _ => trivial)⟩⟩
theorem pmS {A : Nat → Prop} (hG : gP D cyI cyZ s) (hP : va_P D vwCl wc H) (hD : va_D A wc) : PreS s H (pcM D cyI cyZ H.size As wc) As := ⟨pcM_blind, fun U hU hW => ⟨rfl, by rw [hU], by rw [hU]; exact hP, hG.warm hW, hD.weaken (fun _ _ _ _ => trivial)⟩⟩
theorem sw_A {A B : Nat → Prop} {H0 H : Heap} {locs : List Loc} (h : va_S A H0 H locs) (hAB : ∀ q, A q → B q) : va_S B H0 H locs := ⟨h.1, fun q h1 h2 => h.2.1 q h1 (fun z => h2 (hAB q z)), fun l hl => hAB _ (h.2.2 l hl)⟩
theorem sw_n {B : Nat → Prop} {H0 H : Heap} {locs : List Loc} (h : va_S nA H0 H locs) : va_S B H0 H locs := sw_A h (fun _ z => z.elim)
end XCTX
/-! counted loops -/
def it {σ : Type} (f : Nat → σ → σ) (s : σ) : Nat → σ
  | 0 => s
  | n + 1 => f n (it f s n)
theorem it_0 {σ : Type} {f : Nat → σ → σ} {s : σ} : it f s 0 = s := rfl
theorem it_s {σ : Type} {f : Nat → σ → σ} {s x y : σ} {n : Nat} (h : x = it f s n) (h2 : f n x = y) : y = it f s (n + 1) := by rw [it, ← h, h2]
def anyN (P : Nat → Bool) : Nat → Bool
  | 0 => false
  | n + 1 => anyN P n || P n
theorem anyN_s {P : Nat → Bool} {n : Nat} (h : anyN P n = false) (h2 : P n = false) : anyN P (n + 1) = false := by rw [anyN, h, h2]; rfl
theorem anyN_t {P : Nat → Bool} {i : Nat} (h2 : P i = true) : ∀ n : Nat, i < n → anyN P n = true
  | 0, h => absurd h (Nat.not_lt_zero _)
  | n + 1, h => by
    rw [anyN]
    rcases Nat.lt_or_ge i n with q | q
    · rw [anyN_t h2 n q]; rfl
    · rw [show n = i by omega, h2, Bool.or_true]
theorem anyN_iff {P : Nat → Bool} : ∀ {n : Nat}, anyN P n = true ↔ ∃ i, i < n ∧ P i = true
  | 0 => ⟨fun h => (by cases h), fun ⟨_, h, _⟩ => absurd h (Nat.not_lt_zero _)⟩
  | n + 1 => by
    rw [anyN, Bool.or_eq_true, anyN_iff]
    constructor
    · rintro (⟨i, h1, h2⟩ | h)
      · exact ⟨i, by omega, h2⟩
      · exact ⟨n, by omega, h⟩
    · rintro ⟨i, h1, h2⟩
      rcases Nat.lt_or_ge i n with q | q
      · exact Or.inl ⟨i, q, h2⟩
      · exact Or.inr (by rw [show n = i by omega]; exact h2)
theorem nz_b {v : Int32} (h : v = 0 ∨ v = 1) : narrow .boolean (.int v) = .int v := by rcases h with rfl | rfl <;> rfl
theorem nr_b {v : Int32} (h : v = 0 ∨ v = 1) : vp_nar .boolean v = v := by rcases h with rfl | rfl <;> rfl
theorem vi_mono {x : Int32} {n k : Nat} (h : vp_in x n) (hk : n ≤ k) : vp_in x k := fun q => h (q.elim Or.inl (fun z => Or.inr (Nat.le_trans hk z)))
