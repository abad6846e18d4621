/-! throws: what a throw of the three kinds needs of the start; the code of a throw: 1, 2, 3 -/
def xn : Nat → String
  | 1 => "java/lang/IndexOutOfBoundsException"
  | 2 => "java/lang/IllegalArgumentException"
  | _ => "java/lang/IllegalStateException"
abbrev xnm : List String := ["java/lang/RuntimeException", "java/lang/Exception"]
def xc_L : List String := ["java/lang/IndexOutOfBoundsException", "java/lang/IllegalArgumentException", "java/lang/IllegalStateException"]
def xd_L : List MethodName := [Bundle.initS "java/lang/RuntimeException", Bundle.initS "java/lang/Exception", Bundle.initS Bundle.tN]
def tx_L : List (Nat × String) := [(225, "the merged table is filled by merging alone"), (222, "no such table"), (232, "no such column number"), (243, "the name is out of range"), (61, "the table has the column"), (237, "no such key"), (94, "the table has the row"), (241, "the table does not have the row"), (239, "the table does not have the column"), (110, "the value is out of range"), (121, "the rule is out of range"), (227, "no such side"), (169, "the list is not fresh"), (174, "some conflict is not settled"), (248, "no such conflict"), (211, "the conflict is settled")]
def zq (U : State) : Prop := vx_Zq Bundle.tN "UNASSIGNED_STACK" Bundle.steD nA U U.heap ∧ vx_Zq Bundle.tN "SUPPRESSED_SENTINEL" Bundle.listD nA U U.heap ∧ (∀ q ∈ tx_L, ∃ sa : Nat, vk_R RX2 q.1 q.2 sa U) ∧ (∀ x ∈ xc_L, va_Nw (.castable x x) U) ∧ ∀ y ∈ xd_L, va_Nw (.declares y) U
def zqH (s : State) (H : Heap) : Prop := vx_Zq Bundle.tN "UNASSIGNED_STACK" Bundle.steD nA s H ∧ vx_Zq Bundle.tN "SUPPRESSED_SENTINEL" Bundle.listD nA s H ∧ (∀ q ∈ tx_L, ∃ sa : Nat, vk_R RX2 q.1 q.2 sa s) ∧ (∀ x ∈ xc_L, va_Nw (.castable x x) s) ∧ ∀ y ∈ xd_L, va_Nw (.declares y) s
theorem zq.same {u U : State} (hv : u.vm = U.vm) (hh : u.heap = U.heap) (h : zq u) : zq U := ⟨by rw [← hh]; exact vx_Zq.moved (by rw [hv]; exact Vm.Alike.refl _) h.1, by rw [← hh]; exact vx_Zq.moved (by rw [hv]; exact Vm.Alike.refl _) h.2.1, fun q hq => (h.2.2.1 q hq).imp (fun _ z => vk_R.same hv.symm z), fun x hx => va_Nw.same rfl hv (h.2.2.2.1 x hx), fun x hx => va_Nw.same rfl hv (h.2.2.2.2 x hx)⟩
theorem zqH.warm {s U : State} {H : Heap} (hW : s.WarmedH U.vm) (hU : U.heap = H) (h : zqH s H) : zq U := ⟨by rw [hU]; exact vx_Zq.moved hW.alike h.1, by rw [hU]; exact vx_Zq.moved hW.alike h.2.1, fun q hq => (h.2.2.1 q hq).imp (fun _ z => vk_R.warm hW z), fun x hx => va_Nw.warmC hW (h.2.2.2.1 x hx), fun x hx => va_Nw.warmD hW (h.2.2.2.2 x hx)⟩
theorem zq.kept {s : State} {H : Heap} {locs : List Loc} (h : zq s) (hS : va_S nA s.heap H locs) : zqH s H := ⟨vx_Zq.kept h.1 (fun a h1 h2 => hS.2.1 a h1 h2), vx_Zq.kept h.2.1 (fun a h1 h2 => hS.2.1 a h1 h2), h.2.2.1, h.2.2.2⟩
def pcT (D : va_G) (cyI cyZ : ClassId) (av : List Value) (ws : va_W) : Array Value → State → Prop := va_Pc av (fun U => va_P D vwCl ws U.heap ∧ gP D cyI cyZ U ∧ zq U)
theorem pcT_blind {D : va_G} {cyI cyZ : ClassId} {av : List Value} {ws : va_W} : FrameBlind (pcT D cyI cyZ av ws) := fun _ U g mk q => ⟨q.1, q.2.1, gP.same (u := U) (U := U.calling g mk _) rfl q.2.2.1, zq.same (u := U) (U := U.calling g mk _) rfl rfl q.2.2.2⟩
theorem ptV {s : State} {H : Heap} {D : va_G} {cyI cyZ : ClassId} {wc : va_W} {b : Addr} {As : List Value} {C : String} {ci : Nat} {q : vw_C} {fs : List Value} (hG : gP D cyI cyZ s) (hz : zqH s H) (hP : va_P D vwCl wc H) (hq : vwCl[ci]? = some q) (hC : q.1 = C) (he : wc[0]? = some (b, .inr (ci, fs))) : PreV s H C b (pcT D cyI cyZ (Value.ref b :: As) wc) As := by
  subst hC
  exact ⟨pcT_blind, va_recv hG.1 hP hq he, fun U hU hW => ⟨rfl, by rw [hU]; exact hP, hG.warm hW, hz.warm hW hU⟩⟩
theorem ptS {s : State} {H : Heap} {D : va_G} {cyI cyZ : ClassId} {wc : va_W} {As : List Value} (hG : gP D cyI cyZ s) (hz : zqH s H) (hP : va_P D vwCl wc H) : PreS s H (pcT D cyI cyZ As wc) As := ⟨pcT_blind, fun U hU hW => ⟨rfl, by rw [hU]; exact hP, hG.warm hW, hz.warm hW hU⟩⟩
abbrev qFi : Array Value → State → Outcome → State → Prop := va_Qi (fun (_ : Int32) (_ : Unit) => False) (fun _ _ => True) nA
abbrev qFv : Array Value → State → Outcome → State → Prop := va_Qv (fun (_ : Unit) => False) (fun _ _ => True) nA
abbrev qFr : Array Value → State → Outcome → State → Prop := va_Qr (fun (_ : Unit) => False) (fun _ _ _ => True) nA
abbrev xX (k : Nat) : String → State → State → Prop := vx_X (fun (_ : Unit) => True) (fun E _ _ => E = xn k) nA
section XCR
variable {p : Program} {l : Launch} {e : Env} {R : Room} {s : State} {m : MethodId} {args : Array Value} {below : List Frame} {meth : Method} {c : Code} {H : Heap} {locs : List Loc} {cells slots : Nat} {Q : State → Prop}
variable {mc ms : Nat} {free : Addr → Prop} {A0 A1 : Nat → Prop} {H0 : Heap} {a : Array Value} {pc : Nat} {ls : Array Slot} {st0 rest : List Value}
theorem vx_callr {S SX : Type} {post : S → Prop} {px : SX → Prop} {B : S → Nat → State → Prop} {BX : String → SX → State → Prop} {AX : Nat → Prop} (hr : vx_Run p l e R s m args below meth c H locs cells slots mc ms (F0 m pc ls st0) rest (va_Qr post B A1 a) (vx_X px BX AX) free) (hS : va_S A0 H0 H locs) (hA : ∀ q, q < H.size → A1 q → A0 q) (hf : ∀ q, free q → A0 q) (hAX : ∀ q, q < H.size → AX q → A0 q)
    (kx : ∀ (E : String) (ce : Cell) (q9 : Addr) (u : SX) (t : State) (H1 : Heap) (locs1 : List Loc), t.heap = H1 → s.vm.Alike t.vm → px u → BX E u t → H.size ≤ H1.size → (∀ q : Nat, q < H.size → ¬ AX q → H1[q]? = H[q]?) → va_S A0 H0 H1 locs1 → H1[q9]? = some ce → ce.vm = .none → s.vm.findClass E = some ce.cls → vx_W p l e R s m args below meth c H1 locs1 (cells + mc) (slots + ms) Q (F0 m pc ls rest) q9)
    (kk : ∀ (u : S) (ra : Nat) (t : State) (H1 : Heap) (locs1 : List Loc), t.heap = H1 → s.vm.Alike t.vm → post u → B u ra t → H.size ≤ H1.size → (∀ q : Nat, q < H.size → ¬ A1 q → H1[q]? = H[q]?) → va_S A0 H0 H1 locs1 → W p l e R s m args below meth c H1 locs1 (cells + mc) (slots + ms) Q (F0 m (pc + 3) ls (.ref ra :: rest))) : W p l e R s m args below meth c H locs cells slots Q (F0 m pc ls st0) := by
  intro T hT X
  rcases hr T hT X with ⟨v, st₀, t, T', L, h0, X', hL, e1, e2, ⟨⟨u, ra, hv, hp, hb⟩, hF⟩, st⟩ | ⟨q, st₀, t, T', L, E, ce, h0, X', hL, e1, e2, ⟨u, hp, hb, hF⟩, hce, hcv, hcl, st⟩
  · cases hv
    obtain ⟨k1, k2, k3⟩ := vx_keep h0 e1 hS hA hf hL hF
    obtain ⟨t2, a1, b1⟩ := kk u ra t T'.heap (locs ++ L) e1.symm (by rw [← e2]; exact X'.warmed.alike) hp hb k1 k2 k3 T' rfl X'
    exact ⟨t2, st t2 a1, b1⟩
  · obtain ⟨k1, k2, k3⟩ := vx_keep h0 e1 hS hAX hf hL hF
    obtain ⟨t2, a1, b1⟩ := kx E ce q u t T'.heap (locs ++ L) e1.symm (by rw [← e2]; exact X'.warmed.alike) hp hb k1 k2 k3 (by rw [e1]; exact hce) hcv hcl T' rfl X'
    exact ⟨t2, st.trans a1, b1⟩
end XCR
def xbL (X : String) : List Cond := [.declares (Bundle.initS "java/lang/RuntimeException"), .declares (Bundle.initS "java/lang/Exception"), .declares (Bundle.initS Bundle.tN), .castable X X]
theorem zq.xb {s : State} {args : Array Value} {X : String} (h : zq s) (hX : X ∈ xc_L) : ∀ w ∈ xbL X, w.before args s = true := vx_c (va_Nw.use rfl (h.2.2.2.2 _ (List.mem_of_getElem? (i := 0) rfl))) (vx_c (va_Nw.use rfl (h.2.2.2.2 _ (List.mem_of_getElem? (i := 1) rfl))) (vx_c (va_Nw.use rfl (h.2.2.2.2 _ (List.mem_of_getElem? (i := 2) rfl))) (vx_c (va_Nw.use rfl (h.2.2.2.1 X hX)) vx_n)))
theorem xb_IO : ∀ w ∈ (vx_atS RX2 224 "java/lang/IndexOutOfBoundsException" xnm).filter (fun w => !goodWord w), w ∈ xbL "java/lang/IndexOutOfBoundsException" := by decide +kernel
theorem xb_IA : ∀ w ∈ (vx_atS RX2 112 "java/lang/IllegalArgumentException" xnm).filter (fun w => !goodWord w), w ∈ xbL "java/lang/IllegalArgumentException" := by decide +kernel
theorem xb_IS : ∀ w ∈ (vx_atS RX2 63 "java/lang/IllegalStateException" xnm).filter (fun w => !goodWord w), w ∈ xbL "java/lang/IllegalStateException" := by decide +kernel
theorem xg_IO : ∀ w ∈ Cond.classLink RX2 220 "java/lang/IndexOutOfBoundsException" :: Cond.initialized "java/lang/IndexOutOfBoundsException" :: vx_atS RX2 224 "java/lang/IndexOutOfBoundsException" xnm, vx_ot w = true := by decide +kernel
theorem xg_IA : ∀ w ∈ Cond.classLink RX2 108 "java/lang/IllegalArgumentException" :: Cond.initialized "java/lang/IllegalArgumentException" :: vx_atS RX2 112 "java/lang/IllegalArgumentException" xnm, vx_ot w = true := by decide +kernel
theorem xg_IS : ∀ w ∈ Cond.classLink RX2 59 "java/lang/IllegalStateException" :: Cond.initialized "java/lang/IllegalStateException" :: vx_atS RX2 63 "java/lang/IllegalStateException" xnm, vx_ot w = true := by decide +kernel
