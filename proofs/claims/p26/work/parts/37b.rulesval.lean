theorem rv24v : (f_X2_get rT10 rT17 rT18 rT19 3 0 1) = 21 := by decide +kernel
theorem rv25x : f_X2_get_x rT10 rT17 rT18 rT19 3 0 2 = 0 := by decide +kernel
theorem rv25v : (f_X2_get rT10 rT17 rT18 rT19 3 0 2) = 22 := by decide +kernel
theorem rv26x : f_X2_get_x rT10 rT17 rT18 rT19 3 0 3 = 0 := by decide +kernel
theorem rv26v : (f_X2_get rT10 rT17 rT18 rT19 3 0 3) = 34 := by decide +kernel
def rT21 : Tr := (15, 8388609, (upd (upd (upd (upd (fun _ => 0) 0 50) 1 51) 2 52) 3 53), (upd (upd (upd (upd (fun _ => 0) 0 24) 1 23) 2 40) 3 21))
theorem rv27x : f_X2_set_x rT10 rT17 rT18 2 0 2 40 = 0 := by decide +kernel
theorem rv27v : (f_X2_set rT10 rT17 rT18 1 2 0 2 40).1 = 22 := by decide +kernel
theorem rv27b : tE ((f_X2_set rT10 rT17 rT18 1 2 0 2 40).2.1) rT10 := tB_of (by decide +kernel)
theorem rv27o : tE ((f_X2_set rT10 rT17 rT18 1 2 0 2 40).2.2.1) rT17 := tB_of (by decide +kernel)
theorem rv27t : tE ((f_X2_set rT10 rT17 rT18 1 2 0 2 40).2.2.2.1) rT21 := tB_of (by decide +kernel)
theorem rv27f : (f_X2_set rT10 rT17 rT18 1 2 0 2 40).2.2.2.2 = 0 := by decide +kernel
def rT22 : Tr := (15, 8388609, (upd (upd (upd (upd (fun _ => 0) 0 50) 1 51) 2 52) 3 53), (upd (upd (upd (upd (fun _ => 0) 0 20) 1 21) 2 40) 3 34))
theorem tI_rT21 : tI rT21 := tIB_of (by decide +kernel)
theorem rv28m : MM rT10 rT17 rT21 rU7 rT22 := mmB_of (by decide +kernel)
theorem rv28e : EL rT10 rT17 rT21 rU7 (fun _ => 0) rT22 = [(1, 0, 0)] := by decide +kernel
theorem rv28q : (f_X2_merge rT10 rT17 rT21 rT19 rU7 (fun _ => 0) rL20).1 = (aps (f_X0_becomeEmpty rL20) [(1, 0, 0)]).1 ∧ tE (f_X2_merge rT10 rT17 rT21 rT19 rU7 (fun _ => 0) rL20).2.1 rT22 ∧ (f_X2_merge rT10 rT17 rT21 rT19 rU7 (fun _ => 0) rL20).2.2.1 = aps (f_X0_becomeEmpty rL20) [(1, 0, 0)] ∧ (f_X2_merge rT10 rT17 rT21 rT19 rU7 (fun _ => 0) rL20).2.2.2 = 1 := mg_lit tI_rT10 tI_rT17 tI_rT21 rv28m rv28e
theorem rv28w : (aps (f_X0_becomeEmpty rL20) [(1, 0, 0)]).1 = 1 := by decide +kernel
theorem rv28v : (f_X2_merge rT10 rT17 rT21 rT19 rU7 (fun _ => 0) rL20).1 = 1 := rv28q.1.trans rv28w
theorem rv28k : lE (aps (f_X0_becomeEmpty rL20) [(1, 0, 0)]) rL20 := lB_of (by decide +kernel)
theorem rv28l : lE (f_X2_merge rT10 rT17 rT21 rT19 rU7 (fun _ => 0) rL20).2.2.1 rL20 := by rw [rv28q.2.2.1]; exact rv28k
theorem rv29x : f_X2_get_x rT10 rT17 rT21 rT22 3 0 2 = 0 := by decide +kernel
theorem rv29v : (f_X2_get rT10 rT17 rT21 rT22 3 0 2) = 40 := by decide +kernel
def rL23 : Lr := (1, 0, (upd (fun _ => 0) 0 1), (fun _ => 0), (fun _ => 0), (upd (fun _ => 0) 0 1))
theorem rv30x : f_X2_settle_x rL20 1 0 1 = 0 := by decide +kernel
theorem rv30v : (f_X2_settle rT17 rT21 rT22 rL20 1 0 1).1 = 0 := by decide +kernel
theorem rv30m : tE ((f_X2_settle rT17 rT21 rT22 rL20 1 0 1).2.1) rT22 := tB_of (by decide +kernel)
theorem rv30l : lE ((f_X2_settle rT17 rT21 rT22 rL20 1 0 1).2.2) rL23 := lB_of (by decide +kernel)
theorem rv31x : f_X2_get_x rT10 rT17 rT21 rT22 3 0 0 = 0 := by decide +kernel
theorem rv31v : (f_X2_get rT10 rT17 rT21 rT22 3 0 0) = 20 := by decide +kernel
theorem rv32n : ∀ r c, r < 24 → c < 8 → cel rT22 r c = true → ¬ rT22.2.2.2 (r * 8 + c) = -20001 := vB_of (by decide +kernel)
def rT24 : Tr := (15, 8388617, (upd (upd (upd (upd (fun _ => 0) 0 50) 1 51) 2 52) 3 53), (upd (upd (upd (upd (fun _ => 0) 0 20) 1 21) 2 22) 3 23))
theorem rv33x : f_X2_addRow_x rT10 rT17 rT21 1 3 = 0 := by decide +kernel
theorem rv33v : (f_X2_addRow rT10 rT17 rT21 1 1 3).1 = 3 := by decide +kernel
theorem rv33b : tE ((f_X2_addRow rT10 rT17 rT21 1 1 3).2.1) rT10 := tB_of (by decide +kernel)
theorem rv33o : tE ((f_X2_addRow rT10 rT17 rT21 1 1 3).2.2.1) rT24 := tB_of (by decide +kernel)
theorem rv33t : tE ((f_X2_addRow rT10 rT17 rT21 1 1 3).2.2.2.1) rT21 := tB_of (by decide +kernel)
theorem rv33f : (f_X2_addRow rT10 rT17 rT21 1 1 3).2.2.2.2 = 0 := by decide +kernel
def rT25 : Tr := (15, 8388617, (upd (upd (upd (upd (fun _ => 0) 0 50) 1 51) 2 52) 3 53), (upd (upd (upd (upd (fun _ => 0) 0 24) 1 23) 2 40) 3 21))
theorem rv34x : f_X2_addRow_x rT10 rT24 rT21 2 3 = 0 := by decide +kernel
theorem rv34v : (f_X2_addRow rT10 rT24 rT21 0 2 3).1 = 3 := by decide +kernel
theorem rv34b : tE ((f_X2_addRow rT10 rT24 rT21 0 2 3).2.1) rT10 := tB_of (by decide +kernel)
theorem rv34o : tE ((f_X2_addRow rT10 rT24 rT21 0 2 3).2.2.1) rT24 := tB_of (by decide +kernel)
theorem rv34t : tE ((f_X2_addRow rT10 rT24 rT21 0 2 3).2.2.2.1) rT25 := tB_of (by decide +kernel)
theorem rv34f : (f_X2_addRow rT10 rT24 rT21 0 2 3).2.2.2.2 = 0 := by decide +kernel
def rT26 : Tr := (15, 8388617, (upd (upd (upd (upd (fun _ => 0) 0 50) 1 51) 2 52) 3 53), (upd (upd (upd (upd (upd (fun _ => 0) 0 20) 1 21) 2 22) 3 23) 24 9))
theorem rv35x : f_X2_set_x rT10 rT24 rT25 1 3 0 9 = 0 := by decide +kernel
theorem rv35v : (f_X2_set rT10 rT24 rT25 0 1 3 0 9).1 = 0 := by decide +kernel
theorem rv35b : tE ((f_X2_set rT10 rT24 rT25 0 1 3 0 9).2.1) rT10 := tB_of (by decide +kernel)
theorem rv35o : tE ((f_X2_set rT10 rT24 rT25 0 1 3 0 9).2.2.1) rT26 := tB_of (by decide +kernel)
theorem rv35t : tE ((f_X2_set rT10 rT24 rT25 0 1 3 0 9).2.2.2.1) rT25 := tB_of (by decide +kernel)
theorem rv35f : (f_X2_set rT10 rT24 rT25 0 1 3 0 9).2.2.2.2 = 0 := by decide +kernel
def rT27 : Tr := (15, 8388617, (upd (upd (upd (upd (fun _ => 0) 0 50) 1 51) 2 52) 3 53), (upd (upd (upd (upd (upd (fun _ => 0) 0 24) 1 23) 2 40) 3 21) 24 9))
theorem rv36x : f_X2_set_x rT10 rT26 rT25 2 3 0 9 = 0 := by decide +kernel
theorem rv36v : (f_X2_set rT10 rT26 rT25 0 2 3 0 9).1 = 0 := by decide +kernel
theorem rv36b : tE ((f_X2_set rT10 rT26 rT25 0 2 3 0 9).2.1) rT10 := tB_of (by decide +kernel)
theorem rv36o : tE ((f_X2_set rT10 rT26 rT25 0 2 3 0 9).2.2.1) rT26 := tB_of (by decide +kernel)
theorem rv36t : tE ((f_X2_set rT10 rT26 rT25 0 2 3 0 9).2.2.2.1) rT27 := tB_of (by decide +kernel)
theorem rv36f : (f_X2_set rT10 rT26 rT25 0 2 3 0 9).2.2.2.2 = 0 := by decide +kernel
def rT28 : Tr := (15, 8388617, (upd (upd (upd (upd (fun _ => 0) 0 50) 1 51) 2 52) 3 53), (upd (upd (upd (upd (upd (upd (fun _ => 0) 0 20) 1 21) 2 22) 3 23) 24 9) 27 4))
theorem rv37x : f_X2_set_x rT10 rT26 rT27 1 3 3 4 = 0 := by decide +kernel
theorem rv37v : (f_X2_set rT10 rT26 rT27 0 1 3 3 4).1 = 0 := by decide +kernel
theorem rv37b : tE ((f_X2_set rT10 rT26 rT27 0 1 3 3 4).2.1) rT10 := tB_of (by decide +kernel)
theorem rv37o : tE ((f_X2_set rT10 rT26 rT27 0 1 3 3 4).2.2.1) rT28 := tB_of (by decide +kernel)
theorem rv37t : tE ((f_X2_set rT10 rT26 rT27 0 1 3 3 4).2.2.2.1) rT27 := tB_of (by decide +kernel)
theorem rv37f : (f_X2_set rT10 rT26 rT27 0 1 3 3 4).2.2.2.2 = 0 := by decide +kernel
def rT29 : Tr := (15, 8388617, (upd (upd (upd (upd (fun _ => 0) 0 50) 1 51) 2 52) 3 53), (upd (upd (upd (upd (upd (upd (fun _ => 0) 0 24) 1 23) 2 40) 3 21) 24 9) 27 5))
theorem rv38x : f_X2_set_x rT10 rT28 rT27 2 3 3 5 = 0 := by decide +kernel
theorem rv38v : (f_X2_set rT10 rT28 rT27 0 2 3 3 5).1 = 0 := by decide +kernel
theorem rv38b : tE ((f_X2_set rT10 rT28 rT27 0 2 3 3 5).2.1) rT10 := tB_of (by decide +kernel)
theorem rv38o : tE ((f_X2_set rT10 rT28 rT27 0 2 3 3 5).2.2.1) rT28 := tB_of (by decide +kernel)
theorem rv38t : tE ((f_X2_set rT10 rT28 rT27 0 2 3 3 5).2.2.2.1) rT29 := tB_of (by decide +kernel)
theorem rv38f : (f_X2_set rT10 rT28 rT27 0 2 3 3 5).2.2.2.2 = 0 := by decide +kernel
def rT30 : Tr := (15, 8388617, (upd (upd (upd (upd (fun _ => 0) 0 50) 1 51) 2 52) 3 53), (upd (upd (upd (upd (upd (upd (fun _ => 0) 0 20) 1 21) 2 40) 3 34) 24 9) 27 9))
theorem tI_rT28 : tI rT28 := tIB_of (by decide +kernel)
theorem tI_rT29 : tI rT29 := tIB_of (by decide +kernel)
theorem rv39m : MM rT10 rT28 rT29 rU7 rT30 := mmB_of (by decide +kernel)
theorem rv39e : EL rT10 rT28 rT29 rU7 (fun _ => 0) rT30 = [(1, 0, 0)] := by decide +kernel
theorem rv39q : (f_X2_merge rT10 rT28 rT29 rT22 rU7 (fun _ => 0) rL23).1 = (aps (f_X0_becomeEmpty rL23) [(1, 0, 0)]).1 ∧ tE (f_X2_merge rT10 rT28 rT29 rT22 rU7 (fun _ => 0) rL23).2.1 rT30 ∧ (f_X2_merge rT10 rT28 rT29 rT22 rU7 (fun _ => 0) rL23).2.2.1 = aps (f_X0_becomeEmpty rL23) [(1, 0, 0)] ∧ (f_X2_merge rT10 rT28 rT29 rT22 rU7 (fun _ => 0) rL23).2.2.2 = 1 := mg_lit tI_rT10 tI_rT28 tI_rT29 rv39m rv39e
theorem rv39w : (aps (f_X0_becomeEmpty rL23) [(1, 0, 0)]).1 = 1 := by decide +kernel
theorem rv39v : (f_X2_merge rT10 rT28 rT29 rT22 rU7 (fun _ => 0) rL23).1 = 1 := rv39q.1.trans rv39w
theorem rv39k : lE (aps (f_X0_becomeEmpty rL23) [(1, 0, 0)]) rL20 := lB_of (by decide +kernel)
theorem rv39l : lE (f_X2_merge rT10 rT28 rT29 rT22 rU7 (fun _ => 0) rL23).2.2.1 rL20 := by rw [rv39q.2.2.1]; exact rv39k
theorem rv40x : f_X2_get_x rT10 rT28 rT29 rT30 3 3 0 = 0 := by decide +kernel
theorem rv40v : (f_X2_get rT10 rT28 rT29 rT30 3 3 0) = 9 := by decide +kernel
theorem rv41x : f_X2_get_x rT10 rT28 rT29 rT30 3 3 3 = 0 := by decide +kernel
theorem rv41v : (f_X2_get rT10 rT28 rT29 rT30 3 3 3) = 9 := by decide +kernel
def rT31 : Tr := (15, 8388617, (upd (upd (upd (upd (fun _ => 0) 0 50) 1 51) 2 52) 3 53), (upd (upd (upd (upd (upd (fun _ => 0) 0 24) 1 23) 2 40) 3 21) 27 5))
theorem rv42x : f_X2_set_x rT10 rT28 rT29 2 3 0 0 = 0 := by decide +kernel
theorem rv42v : (f_X2_set rT10 rT28 rT29 1 2 3 0 0).1 = 9 := by decide +kernel
theorem rv42b : tE ((f_X2_set rT10 rT28 rT29 1 2 3 0 0).2.1) rT10 := tB_of (by decide +kernel)
theorem rv42o : tE ((f_X2_set rT10 rT28 rT29 1 2 3 0 0).2.2.1) rT28 := tB_of (by decide +kernel)
theorem rv42t : tE ((f_X2_set rT10 rT28 rT29 1 2 3 0 0).2.2.2.1) rT31 := tB_of (by decide +kernel)
theorem rv42f : (f_X2_set rT10 rT28 rT29 1 2 3 0 0).2.2.2.2 = 0 := by decide +kernel
def rL32 : Lr := (2, 2, (upd (upd (fun _ => 0) 0 1) 1 1), (upd (fun _ => 0) 1 3), (fun _ => 0), (fun _ => 0))
theorem tI_rT31 : tI rT31 := tIB_of (by decide +kernel)
theorem rv43m : MM rT10 rT28 rT31 rU7 rT30 := mmB_of (by decide +kernel)
theorem rv43e : EL rT10 rT28 rT31 rU7 (fun _ => 0) rT30 = [(1, 0, 0), (1, 3, 0)] := by decide +kernel
theorem rv43q : (f_X2_merge rT10 rT28 rT31 rT30 rU7 (fun _ => 0) rL20).1 = (aps (f_X0_becomeEmpty rL20) [(1, 0, 0), (1, 3, 0)]).1 ∧ tE (f_X2_merge rT10 rT28 rT31 rT30 rU7 (fun _ => 0) rL20).2.1 rT30 ∧ (f_X2_merge rT10 rT28 rT31 rT30 rU7 (fun _ => 0) rL20).2.2.1 = aps (f_X0_becomeEmpty rL20) [(1, 0, 0), (1, 3, 0)] ∧ (f_X2_merge rT10 rT28 rT31 rT30 rU7 (fun _ => 0) rL20).2.2.2 = 1 := mg_lit tI_rT10 tI_rT28 tI_rT31 rv43m rv43e
theorem rv43w : (aps (f_X0_becomeEmpty rL20) [(1, 0, 0), (1, 3, 0)]).1 = 2 := by decide +kernel
theorem rv43v : (f_X2_merge rT10 rT28 rT31 rT30 rU7 (fun _ => 0) rL20).1 = 2 := rv43q.1.trans rv43w
theorem rv43k : lE (aps (f_X0_becomeEmpty rL20) [(1, 0, 0), (1, 3, 0)]) rL32 := lB_of (by decide +kernel)
theorem rv43l : lE (f_X2_merge rT10 rT28 rT31 rT30 rU7 (fun _ => 0) rL20).2.2.1 rL32 := by rw [rv43q.2.2.1]; exact rv43k
theorem rv44x : f_X2_requireConflict_x rL32 1 = 0 := by decide +kernel
theorem rv44k : f_X2_kindOf rL32 1 = 1 := by decide +kernel
theorem rv44y : f_X2_keyOf rL32 1 = 3 := by decide +kernel
theorem rv44c : f_X2_columnOf rL32 1 = 0 := by decide +kernel
theorem rv45x : f_X2_get_x rT10 rT28 rT31 rT30 3 3 0 = 0 := by decide +kernel
theorem rv45v : (f_X2_get rT10 rT28 rT31 rT30 3 3 0) = 9 := by decide +kernel
theorem rv46n : ∀ r c, r < 24 → c < 8 → cel rT30 r c = true → ¬ rT30.2.2.2 (r * 8 + c) = -20001 := vB_of (by decide +kernel)
def rR33 : Nat → Int32 := (upd (fun _ => 0) 1 1)
theorem rv47x : f_X2_setReference_x 1 = 0 := by decide +kernel
theorem rv47v : (f_X2_setReference (fun _ => 0) 1 1 1).1 = 1 := by decide +kernel
theorem rv47r : aE 8 ((f_X2_setReference (fun _ => 0) 1 1 1).2.1) rR33 := aB_of (by decide +kernel)
theorem rv47f : (f_X2_setReference (fun _ => 0) 1 1 1).2.2 = 0 := by decide +kernel
theorem rv48x : f_X2_setReference_x 1 = 0 := by decide +kernel
theorem rv48v : (f_X2_setReference rR33 0 1 1).1 = 0 := by decide +kernel
theorem rv48r : aE 8 ((f_X2_setReference rR33 0 1 1).2.1) rR33 := aB_of (by decide +kernel)
theorem rv48f : (f_X2_setReference rR33 0 1 1).2.2 = 0 := by decide +kernel
def rT34 : Tr := (15, 8388617, (upd (upd (upd (upd (fun _ => 0) 0 50) 1 51) 2 52) 3 53), (upd (upd (upd (upd (upd (upd (fun _ => 0) 0 20) 1 (-1)) 2 22) 3 23) 24 9) 27 4))
theorem rv49x : f_X2_set_x rT10 rT28 rT31 1 0 1 (-1) = 0 := by decide +kernel
theorem rv49v : (f_X2_set rT10 rT28 rT31 0 1 0 1 (-1)).1 = 21 := by decide +kernel
theorem rv49b : tE ((f_X2_set rT10 rT28 rT31 0 1 0 1 (-1)).2.1) rT10 := tB_of (by decide +kernel)
theorem rv49o : tE ((f_X2_set rT10 rT28 rT31 0 1 0 1 (-1)).2.2.1) rT34 := tB_of (by decide +kernel)
theorem rv49t : tE ((f_X2_set rT10 rT28 rT31 0 1 0 1 (-1)).2.2.2.1) rT31 := tB_of (by decide +kernel)
theorem rv49f : (f_X2_set rT10 rT28 rT31 0 1 0 1 (-1)).2.2.2.2 = 0 := by decide +kernel
def rT35 : Tr := (15, 8388617, (upd (upd (upd (upd (fun _ => 0) 0 50) 1 51) 2 52) 3 53), (upd (upd (upd (upd (upd (upd (fun _ => 0) 0 24) 1 23) 2 40) 3 21) 25 23) 27 5))
theorem rv50x : f_X2_set_x rT10 rT34 rT31 2 3 1 23 = 0 := by decide +kernel
theorem rv50v : (f_X2_set rT10 rT34 rT31 0 2 3 1 23).1 = 0 := by decide +kernel
theorem rv50b : tE ((f_X2_set rT10 rT34 rT31 0 2 3 1 23).2.1) rT10 := tB_of (by decide +kernel)
theorem rv50o : tE ((f_X2_set rT10 rT34 rT31 0 2 3 1 23).2.2.1) rT34 := tB_of (by decide +kernel)
theorem rv50t : tE ((f_X2_set rT10 rT34 rT31 0 2 3 1 23).2.2.2.1) rT35 := tB_of (by decide +kernel)
theorem rv50f : (f_X2_set rT10 rT34 rT31 0 2 3 1 23).2.2.2.2 = 0 := by decide +kernel
def rT36 : Tr := (15, 8388617, (upd (upd (upd (upd (fun _ => 0) 0 50) 1 51) 2 52) 3 53), (upd (upd (upd (upd (upd (upd (upd (fun _ => 0) 0 20) 1 (-1)) 2 22) 3 23) 24 9) 25 23) 27 4))
theorem rv51x : f_X2_set_x rT10 rT34 rT35 1 3 1 23 = 0 := by decide +kernel
theorem rv51v : (f_X2_set rT10 rT34 rT35 0 1 3 1 23).1 = 0 := by decide +kernel
theorem rv51b : tE ((f_X2_set rT10 rT34 rT35 0 1 3 1 23).2.1) rT10 := tB_of (by decide +kernel)
theorem rv51o : tE ((f_X2_set rT10 rT34 rT35 0 1 3 1 23).2.2.1) rT36 := tB_of (by decide +kernel)
theorem rv51t : tE ((f_X2_set rT10 rT34 rT35 0 1 3 1 23).2.2.2.1) rT35 := tB_of (by decide +kernel)
theorem rv51f : (f_X2_set rT10 rT34 rT35 0 1 3 1 23).2.2.2.2 = 0 := by decide +kernel
def rT37 : Tr := (15, 8388617, (upd (upd (upd (upd (fun _ => 0) 0 50) 1 51) 2 52) 3 53), (upd (upd (upd (upd (upd (upd (upd (fun _ => 0) 0 20) 1 (-1)) 2 40) 3 34) 24 9) 25 23) 27 9))
theorem tI_rT36 : tI rT36 := tIB_of (by decide +kernel)
theorem tI_rT35 : tI rT35 := tIB_of (by decide +kernel)
theorem rv52m : MM rT10 rT36 rT35 rU7 rT37 := mmB_of (by decide +kernel)
theorem rv52e : EL rT10 rT36 rT35 rU7 rR33 rT37 = [(1, 0, 0), (1, 3, 0)] := by decide +kernel
