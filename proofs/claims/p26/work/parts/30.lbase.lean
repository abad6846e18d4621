/-! ===== the law: its worlds, its calls ===== -/
/-- which of the three is no other -/
def zn (U : State) : Prop := va_Nc "java/lang/IllegalArgumentException" "java/lang/IndexOutOfBoundsException" U ∧ va_Nc "java/lang/IllegalStateException" "java/lang/IndexOutOfBoundsException" U ∧ va_Nc "java/lang/IllegalStateException" "java/lang/IllegalArgumentException" U
theorem zn.moved {u U : State} (h : u.vm.Alike U.vm) (q : zn u) : zn U := ⟨va_Nc.moved h q.1, va_Nc.moved h q.2.1, va_Nc.moved h q.2.2⟩
/-- what a throw needs of the start, its statics apart from A -/
def zqA (A : Nat → Prop) (U : State) (H : Heap) : Prop := vx_Zq Bundle.tN "UNASSIGNED_STACK" Bundle.steD A U H ∧ vx_Zq Bundle.tN "SUPPRESSED_SENTINEL" Bundle.listD A U H ∧ (∀ q ∈ tx_L, ∃ sa : Nat, vk_R RX2 q.1 q.2 sa U) ∧ (∀ x ∈ xc_L, va_Nw (.castable x x) U) ∧ ∀ y ∈ xd_L, va_Nw (.declares y) U
theorem zqA.zq {A : Nat → Prop} {U : State} (h : zqA A U U.heap) : zq U := ⟨vx_Zq.narrow h.1 (fun _ z => z.elim), vx_Zq.narrow h.2.1 (fun _ z => z.elim), h.2.2⟩
theorem zqA.kept {A : Nat → Prop} {U : State} {H0 H : Heap} {locs : List Loc} (h : zqA A U H0) (hS : va_S A H0 H locs) : zqA A U H := ⟨vx_Zq.kept h.1 hS.2.1, vx_Zq.kept h.2.1 hS.2.1, h.2.2⟩
theorem zqA.narrow {A B : Nat → Prop} {U : State} {H : Heap} (h : zqA A U H) (hAB : ∀ q, B q → A q) : zqA B U H := ⟨vx_Zq.narrow h.1 hAB, vx_Zq.narrow h.2.1 hAB, h.2.2⟩
theorem zqA.warm {A : Nat → Prop} {s U : State} {H : Heap} (hW : s.WarmedH U.vm) (hU : U.heap = H) (h : zqA A s H) : zqA A U U.heap := ⟨by rw [hU]; exact vx_Zq.moved hW.alike h.1, by rw [hU]; exact vx_Zq.moved hW.alike h.2.1, fun q hq => (h.2.2.1 q hq).imp (fun _ z => vk_R.warm hW z), fun x hx => va_Nw.warmC hW (h.2.2.2.1 x hx), fun x hx => va_Nw.warmD hW (h.2.2.2.2 x hx)⟩
theorem zqA.same {A : Nat → Prop} {u U : State} (hv : u.vm = U.vm) (hh : u.heap = U.heap) (h : zqA A u u.heap) : zqA A U U.heap := ⟨by rw [← hh]; exact vx_Zq.moved (by rw [hv]; exact Vm.Alike.refl _) h.1, by rw [← hh]; exact vx_Zq.moved (by rw [hv]; exact Vm.Alike.refl _) h.2.1, fun q hq => (h.2.2.1 q hq).imp (fun _ z => vk_R.same hv.symm z), fun x hx => va_Nw.same rfl hv (h.2.2.2.1 x hx), fun x hx => va_Nw.same rfl hv (h.2.2.2.2 x hx)⟩
def pcO (D : va_G) (cyI cyZ : ClassId) (sz : Nat) (av : List Value) (ws : va_W) : Array Value → State → Prop := va_Pc av (fun U => U.heap.size = sz ∧ va_P D vwCl ws U.heap ∧ gP D cyI cyZ U ∧ (zqA (va_A ws sz) U U.heap ∧ zn U) ∧ va_D (fun _ => True) ws)
theorem pcO_blind {D : va_G} {cyI cyZ : ClassId} {sz : Nat} {av : List Value} {ws : va_W} : FrameBlind (pcO D cyI cyZ sz av ws) := fun _ U g mk q => ⟨q.1, q.2.1, q.2.2.1, gP.same (u := U) (U := U.calling g mk _) rfl q.2.2.2.1, ⟨zqA.same (u := U) (U := U.calling g mk _) rfl rfl q.2.2.2.2.1.1, zn.moved (u := U) (U := U.calling g mk _) (Vm.Alike.refl U.vm) q.2.2.2.2.1.2⟩, q.2.2.2.2.2⟩
theorem poS {s : State} {H H0 : Heap} {locs : List Loc} {D : va_G} {cyI cyZ : ClassId} {wc : va_W} {As : List Value} {A : Nat → Prop} (hG : gP D cyI cyZ s) (hz : zqA A s H0) (hn : zn s) (hP : va_P D vwCl wc H) (hD : va_D A wc) (hS : va_S A H0 H locs) (hA : ∀ q, H0.size ≤ q → A q) : PreS s H (pcO D cyI cyZ H.size As wc) As :=
  ⟨pcO_blind, fun U hU hW => ⟨rfl, by rw [hU], by rw [hU]; exact hP, hG.warm hW, ⟨((hz.kept hS).narrow (mr_F hD hS hA)).warm hW hU, hn.moved hW.alike⟩, hD.weaken (fun _ _ _ _ => trivial)⟩⟩
theorem ps_nil {P : ExceptionTableEntry → Prop} : ∀ z ∈ ([] : List ExceptionTableEntry), P z := fun _ h => absurd h List.not_mem_nil
theorem ps_cons {P : ExceptionTableEntry → Prop} {x : ExceptionTableEntry} {L : List ExceptionTableEntry} (h : P x) (t : ∀ z ∈ L, P z) : ∀ z ∈ x :: L, P z := fun z hz => (List.mem_cons.mp hz).elim (fun e => by rw [e]; exact h) (t z)
section MO
variable {p : Program} {l : Launch} {e : Env} {R : Room} {s : State} {m : MethodId} {args : Array Value} {below : List Frame} {meth : Method} {c : Code} {H : Heap} {locs : List Loc} {cells slots : Nat} {Q : State → Prop}
variable {D : va_G} {pc : Nat} {ls : Array Slot} {rest st0 : List Value} {a : Array Value} {A0 : Nat → Prop} {H0 : Heap} {ws w1 w2 : va_W} {mc ms : Nat}
/-- a call that changes its world, its answer and its world given by other names -/
theorem mo_i {v v' : Int32} (hr : va_Run p l e R s m args below meth c H locs cells slots mc ms (F0 m pc ls st0) rest (mI D (va_A ws H.size) w1 v a) (va_A ws H.size)) (hD : va_D A0 ws) (hS : va_S A0 H0 H locs) (hA : ∀ q, H0.size ≤ q → A0 q) (ev : v = v') (ew : wE w1 w2)
    (kk : ∀ (H1 : Heap) (locs1 : List Loc), va_P D vwCl w2 H1 → va_D A0 w2 → va_S A0 H0 H1 locs1 → W p l e R s m args below meth c H1 locs1 (cells + mc) (slots + ms) Q (F0 m (pc + 3) ls (.int v' :: rest))) : W p l e R s m args below meth c H locs cells slots Q (F0 m pc ls st0) :=
  va_calli hr hS (fun q _ h => mr_F hD hS hA q h) (mr_F hD hS hA) (fun r u t H1 locs1 ht _ hp hb _ _ hS1 => by
    rw [hp, ev]
    exact kk H1 locs1 (ew.1 D H1 (by rw [← ht]; exact hb.1)) (ew.2 A0 (hb.2.weaken (fun _ q _ h => mr_F hD hS hA q.1 h))) hS1)
/-- a call that leaves its world -/
theorem po_i {v v' : Int32} (hr : va_Run p l e R s m args below meth c H locs cells slots 0 0 (F0 m pc ls st0) rest (qI v a) nA) (hS : va_S A0 H0 H locs) (hP : va_P D vwCl ws H) (ev : v = v')
    (kk : ∀ (H1 : Heap) (locs1 : List Loc), va_P D vwCl ws H1 → va_S A0 H0 H1 locs1 → W p l e R s m args below meth c H1 locs1 cells slots Q (F0 m (pc + 3) ls (.int v' :: rest))) : W p l e R s m args below meth c H locs cells slots Q (F0 m pc ls st0) :=
  pr_i hr hS hP (fun H1 locs1 h1 h2 => by rw [ev]; exact kk H1 locs1 h1 h2)
end MO
