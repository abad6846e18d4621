theorem rv52q : (f_X2_merge rT10 rT36 rT35 rT30 rU7 rR33 rL32).1 = (aps (f_X0_becomeEmpty rL32) [(1, 0, 0), (1, 3, 0)]).1 ∧ tE (f_X2_merge rT10 rT36 rT35 rT30 rU7 rR33 rL32).2.1 rT37 ∧ (f_X2_merge rT10 rT36 rT35 rT30 rU7 rR33 rL32).2.2.1 = aps (f_X0_becomeEmpty rL32) [(1, 0, 0), (1, 3, 0)] ∧ (f_X2_merge rT10 rT36 rT35 rT30 rU7 rR33 rL32).2.2.2 = 1 := mg_lit tI_rT10 tI_rT36 tI_rT35 rv52m rv52e
theorem rv52w : (aps (f_X0_becomeEmpty rL32) [(1, 0, 0), (1, 3, 0)]).1 = 2 := by decide +kernel
theorem rv52v : (f_X2_merge rT10 rT36 rT35 rT30 rU7 rR33 rL32).1 = 2 := rv52q.1.trans rv52w
theorem rv52k : lE (aps (f_X0_becomeEmpty rL32) [(1, 0, 0), (1, 3, 0)]) rL32 := lB_of (by decide +kernel)
theorem rv52l : lE (f_X2_merge rT10 rT36 rT35 rT30 rU7 rR33 rL32).2.2.1 rL32 := by rw [rv52q.2.2.1]; exact rv52k
theorem rv53x : f_X2_get_x rT10 rT36 rT35 rT37 3 0 1 = 0 := by decide +kernel
theorem rv53v : (f_X2_get rT10 rT36 rT35 rT37 3 0 1) = (-1) := by decide +kernel
def rT38 : Tr := (15, 9, (upd (upd (upd (upd (fun _ => 0) 0 50) 1 51) 2 52) 3 53), (upd (upd (upd (upd (upd (upd (upd (fun _ => 0) 0 20) 1 (-1)) 2 22) 3 23) 24 9) 25 23) 27 4))
theorem rv54x : f_X2_removeRow_x rT10 rT36 rT35 1 23 = 0 := by decide +kernel
theorem rv54v : (f_X2_removeRow rT10 rT36 rT35 1 1 23).1 = 2 := by decide +kernel
theorem rv54b : tE ((f_X2_removeRow rT10 rT36 rT35 1 1 23).2.1) rT10 := tB_of (by decide +kernel)
theorem rv54o : tE ((f_X2_removeRow rT10 rT36 rT35 1 1 23).2.2.1) rT38 := tB_of (by decide +kernel)
theorem rv54t : tE ((f_X2_removeRow rT10 rT36 rT35 1 1 23).2.2.2.1) rT35 := tB_of (by decide +kernel)
theorem rv54f : (f_X2_removeRow rT10 rT36 rT35 1 1 23).2.2.2.2 = 0 := by decide +kernel
def rT39 : Tr := (15, 9, (upd (upd (upd (upd (fun _ => 0) 0 50) 1 51) 2 52) 3 53), (upd (upd (upd (upd (upd (upd (upd (fun _ => 0) 0 20) 1 (-1)) 2 40) 3 34) 24 9) 25 23) 27 9))
def rL40 : Lr := (3, 3, (upd (upd (upd (fun _ => 0) 0 1) 1 1) 2 6), (upd (upd (fun _ => 0) 1 3) 2 3), (upd (fun _ => 0) 2 1), (fun _ => 0))
theorem tI_rT38 : tI rT38 := tIB_of (by decide +kernel)
theorem rv55m : MM rT10 rT38 rT35 rU7 rT39 := mmB_of (by decide +kernel)
theorem rv55e : EL rT10 rT38 rT35 rU7 rR33 rT39 = [(1, 0, 0), (1, 3, 0), (6, 3, 1)] := by decide +kernel
theorem rv55q : (f_X2_merge rT10 rT38 rT35 rT37 rU7 rR33 rL32).1 = (aps (f_X0_becomeEmpty rL32) [(1, 0, 0), (1, 3, 0), (6, 3, 1)]).1 ∧ tE (f_X2_merge rT10 rT38 rT35 rT37 rU7 rR33 rL32).2.1 rT39 ∧ (f_X2_merge rT10 rT38 rT35 rT37 rU7 rR33 rL32).2.2.1 = aps (f_X0_becomeEmpty rL32) [(1, 0, 0), (1, 3, 0), (6, 3, 1)] ∧ (f_X2_merge rT10 rT38 rT35 rT37 rU7 rR33 rL32).2.2.2 = 1 := mg_lit tI_rT10 tI_rT38 tI_rT35 rv55m rv55e
theorem rv55w : (aps (f_X0_becomeEmpty rL32) [(1, 0, 0), (1, 3, 0), (6, 3, 1)]).1 = 3 := by decide +kernel
theorem rv55v : (f_X2_merge rT10 rT38 rT35 rT37 rU7 rR33 rL32).1 = 3 := rv55q.1.trans rv55w
theorem rv55k : lE (aps (f_X0_becomeEmpty rL32) [(1, 0, 0), (1, 3, 0), (6, 3, 1)]) rL40 := lB_of (by decide +kernel)
theorem rv55l : lE (f_X2_merge rT10 rT38 rT35 rT37 rU7 rR33 rL32).2.2.1 rL40 := by rw [rv55q.2.2.1]; exact rv55k
theorem rv56x : f_X2_requireConflict_x rL40 2 = 0 := by decide +kernel
theorem rv56k : f_X2_kindOf rL40 2 = 6 := by decide +kernel
theorem rv56y : f_X2_keyOf rL40 2 = 3 := by decide +kernel
theorem rv56c : f_X2_columnOf rL40 2 = 1 := by decide +kernel
theorem rv57x : f_X2_rows_x 3 = 0 := by decide +kernel
theorem rv57v : (f_X2_rows rT10 rT38 rT35 rT39 3) = 9 := by decide +kernel
def rT41 : Tr := (15, 9, (upd (upd (upd (upd (fun _ => 0) 0 50) 1 51) 2 50) 3 53), (upd (upd (upd (upd (upd (upd (upd (fun _ => 0) 0 20) 1 (-1)) 2 22) 3 23) 24 9) 25 23) 27 4))
theorem rv58x : f_X2_rename_x rT10 rT38 rT35 1 2 50 = 0 := by decide +kernel
theorem rv58v : (f_X2_rename rT10 rT38 rT35 1 1 2 50).1 = 52 := by decide +kernel
theorem rv58b : tE ((f_X2_rename rT10 rT38 rT35 1 1 2 50).2.1) rT10 := tB_of (by decide +kernel)
theorem rv58o : tE ((f_X2_rename rT10 rT38 rT35 1 1 2 50).2.2.1) rT41 := tB_of (by decide +kernel)
theorem rv58t : tE ((f_X2_rename rT10 rT38 rT35 1 1 2 50).2.2.2.1) rT35 := tB_of (by decide +kernel)
theorem rv58f : (f_X2_rename rT10 rT38 rT35 1 1 2 50).2.2.2.2 = 0 := by decide +kernel
def rT42 : Tr := (15, 8388617, (upd (upd (upd (upd (fun _ => 0) 0 50) 1 51) 2 52) 3 50), (upd (upd (upd (upd (upd (upd (fun _ => 0) 0 24) 1 23) 2 40) 3 21) 25 23) 27 5))
theorem rv59x : f_X2_rename_x rT10 rT41 rT35 2 3 50 = 0 := by decide +kernel
theorem rv59v : (f_X2_rename rT10 rT41 rT35 0 2 3 50).1 = 53 := by decide +kernel
theorem rv59b : tE ((f_X2_rename rT10 rT41 rT35 0 2 3 50).2.1) rT10 := tB_of (by decide +kernel)
theorem rv59o : tE ((f_X2_rename rT10 rT41 rT35 0 2 3 50).2.2.1) rT41 := tB_of (by decide +kernel)
theorem rv59t : tE ((f_X2_rename rT10 rT41 rT35 0 2 3 50).2.2.2.1) rT42 := tB_of (by decide +kernel)
theorem rv59f : (f_X2_rename rT10 rT41 rT35 0 2 3 50).2.2.2.2 = 0 := by decide +kernel
def rT43 : Tr := (15, 9, (upd (upd (upd (upd (fun _ => 0) 0 50) 1 51) 2 50) 3 50), (upd (upd (upd (upd (upd (upd (upd (fun _ => 0) 0 20) 1 (-1)) 2 40) 3 34) 24 9) 25 23) 27 9))
def rL44 : Lr := (5, 5, (upd (upd (upd (upd (upd (fun _ => 0) 0 1) 1 1) 2 5) 3 5) 4 6), (upd (upd (upd (upd (fun _ => 0) 1 3) 2 (-1)) 3 (-1)) 4 3), (upd (upd (upd (fun _ => 0) 2 2) 3 3) 4 1), (fun _ => 0))
theorem tI_rT41 : tI rT41 := tIB_of (by decide +kernel)
theorem tI_rT42 : tI rT42 := tIB_of (by decide +kernel)
theorem rv60m : MM rT10 rT41 rT42 rU7 rT43 := mmB_of (by decide +kernel)
theorem rv60e : EL rT10 rT41 rT42 rU7 rR33 rT43 = [(1, 0, 0), (1, 3, 0), (5, (-1), 2), (5, (-1), 3), (6, 3, 1)] := by decide +kernel
theorem rv60q : (f_X2_merge rT10 rT41 rT42 rT39 rU7 rR33 rL40).1 = (aps (f_X0_becomeEmpty rL40) [(1, 0, 0), (1, 3, 0), (5, (-1), 2), (5, (-1), 3), (6, 3, 1)]).1 ∧ tE (f_X2_merge rT10 rT41 rT42 rT39 rU7 rR33 rL40).2.1 rT43 ∧ (f_X2_merge rT10 rT41 rT42 rT39 rU7 rR33 rL40).2.2.1 = aps (f_X0_becomeEmpty rL40) [(1, 0, 0), (1, 3, 0), (5, (-1), 2), (5, (-1), 3), (6, 3, 1)] ∧ (f_X2_merge rT10 rT41 rT42 rT39 rU7 rR33 rL40).2.2.2 = 1 := mg_lit tI_rT10 tI_rT41 tI_rT42 rv60m rv60e
theorem rv60w : (aps (f_X0_becomeEmpty rL40) [(1, 0, 0), (1, 3, 0), (5, (-1), 2), (5, (-1), 3), (6, 3, 1)]).1 = 5 := by decide +kernel
theorem rv60v : (f_X2_merge rT10 rT41 rT42 rT39 rU7 rR33 rL40).1 = 5 := rv60q.1.trans rv60w
theorem rv60k : lE (aps (f_X0_becomeEmpty rL40) [(1, 0, 0), (1, 3, 0), (5, (-1), 2), (5, (-1), 3), (6, 3, 1)]) rL44 := lB_of (by decide +kernel)
theorem rv60l : lE (f_X2_merge rT10 rT41 rT42 rT39 rU7 rR33 rL40).2.2.1 rL44 := by rw [rv60q.2.2.1]; exact rv60k
theorem rv61x : f_X2_requireConflict_x rL44 2 = 0 := by decide +kernel
theorem rv61k : f_X2_kindOf rL44 2 = 5 := by decide +kernel
theorem rv61y : f_X2_keyOf rL44 2 = (-1) := by decide +kernel
theorem rv61c : f_X2_columnOf rL44 2 = 2 := by decide +kernel
theorem rv62x : f_X2_requireConflict_x rL44 3 = 0 := by decide +kernel
theorem rv62k : f_X2_kindOf rL44 3 = 5 := by decide +kernel
theorem rv62y : f_X2_keyOf rL44 3 = (-1) := by decide +kernel
theorem rv62c : f_X2_columnOf rL44 3 = 3 := by decide +kernel
theorem rv63x : f_X2_requireConflict_x rL44 4 = 0 := by decide +kernel
theorem rv63k : f_X2_kindOf rL44 4 = 6 := by decide +kernel
theorem rv63y : f_X2_keyOf rL44 4 = 3 := by decide +kernel
theorem rv63c : f_X2_columnOf rL44 4 = 1 := by decide +kernel
theorem rv64x : f_X2_name_x rT10 rT41 rT42 rT43 3 2 = 0 := by decide +kernel
theorem rv64v : (f_X2_name rT10 rT41 rT42 rT43 3 2) = 50 := by decide +kernel
def rL45 : Lr := (5, 4, (upd (upd (upd (upd (upd (fun _ => 0) 0 1) 1 1) 2 5) 3 5) 4 6), (upd (upd (upd (upd (fun _ => 0) 1 3) 2 (-1)) 3 (-1)) 4 3), (upd (upd (upd (fun _ => 0) 2 2) 3 3) 4 1), (upd (fun _ => 0) 4 1))
theorem rv65x : f_X2_settle_x rL44 1 4 1 = 0 := by decide +kernel
theorem rv65v : (f_X2_settle rT41 rT42 rT43 rL44 1 4 1).1 = 4 := by decide +kernel
theorem rv65m : tE ((f_X2_settle rT41 rT42 rT43 rL44 1 4 1).2.1) rT43 := tB_of (by decide +kernel)
theorem rv65l : lE ((f_X2_settle rT41 rT42 rT43 rL44 1 4 1).2.2) rL45 := lB_of (by decide +kernel)
theorem rv66x : f_X2_get_x rT10 rT41 rT42 rT43 3 3 1 = 0 := by decide +kernel
theorem rv66v : (f_X2_get rT10 rT41 rT42 rT43 3 3 1) = 23 := by decide +kernel
def rL46 : Lr := (5, 3, (upd (upd (upd (upd (upd (fun _ => 0) 0 1) 1 1) 2 5) 3 5) 4 6), (upd (upd (upd (upd (fun _ => 0) 1 3) 2 (-1)) 3 (-1)) 4 3), (upd (upd (upd (fun _ => 0) 2 2) 3 3) 4 1), (upd (upd (fun _ => 0) 2 1) 4 1))
theorem rv67x : f_X2_settle_x rL45 1 2 2 = 0 := by decide +kernel
theorem rv67v : (f_X2_settle rT41 rT42 rT43 rL45 1 2 2).1 = 3 := by decide +kernel
theorem rv67m : tE ((f_X2_settle rT41 rT42 rT43 rL45 1 2 2).2.1) rT43 := tB_of (by decide +kernel)
theorem rv67l : lE ((f_X2_settle rT41 rT42 rT43 rL45 1 2 2).2.2) rL46 := lB_of (by decide +kernel)
theorem rv68x : f_X2_name_x rT10 rT41 rT42 rT43 3 2 = 0 := by decide +kernel
theorem rv68v : (f_X2_name rT10 rT41 rT42 rT43 3 2) = 50 := by decide +kernel
def rT47 : Tr := (47, 9, (upd (upd (upd (upd (upd (fun _ => 0) 0 50) 1 51) 2 50) 3 53) 5 1), (upd (upd (upd (upd (upd (upd (upd (fun _ => 0) 0 20) 1 (-1)) 2 22) 3 23) 24 9) 25 23) 27 4))
theorem rv69x : f_X2_addColumn_x rT10 rT41 rT42 1 5 1 = 0 := by decide +kernel
theorem rv69v : (f_X2_addColumn rT10 rT41 rT42 1 1 5 1).1 = 5 := by decide +kernel
theorem rv69b : tE ((f_X2_addColumn rT10 rT41 rT42 1 1 5 1).2.1) rT10 := tB_of (by decide +kernel)
theorem rv69o : tE ((f_X2_addColumn rT10 rT41 rT42 1 1 5 1).2.2.1) rT47 := tB_of (by decide +kernel)
theorem rv69t : tE ((f_X2_addColumn rT10 rT41 rT42 1 1 5 1).2.2.2.1) rT42 := tB_of (by decide +kernel)
theorem rv69f : (f_X2_addColumn rT10 rT41 rT42 1 1 5 1).2.2.2.2 = 0 := by decide +kernel
def rT48 : Tr := (47, 8388617, (upd (upd (upd (upd (upd (fun _ => 0) 0 50) 1 51) 2 52) 3 50) 5 2), (upd (upd (upd (upd (upd (upd (fun _ => 0) 0 24) 1 23) 2 40) 3 21) 25 23) 27 5))
theorem rv70x : f_X2_addColumn_x rT10 rT47 rT42 2 5 2 = 0 := by decide +kernel
theorem rv70v : (f_X2_addColumn rT10 rT47 rT42 0 2 5 2).1 = 5 := by decide +kernel
theorem rv70b : tE ((f_X2_addColumn rT10 rT47 rT42 0 2 5 2).2.1) rT10 := tB_of (by decide +kernel)
theorem rv70o : tE ((f_X2_addColumn rT10 rT47 rT42 0 2 5 2).2.2.1) rT47 := tB_of (by decide +kernel)
theorem rv70t : tE ((f_X2_addColumn rT10 rT47 rT42 0 2 5 2).2.2.2.1) rT48 := tB_of (by decide +kernel)
theorem rv70f : (f_X2_addColumn rT10 rT47 rT42 0 2 5 2).2.2.2.2 = 0 := by decide +kernel
def rT49 : Tr := (175, 8388617, (upd (upd (upd (upd (upd (upd (fun _ => 0) 0 50) 1 51) 2 52) 3 50) 5 2) 7 3), (upd (upd (upd (upd (upd (upd (fun _ => 0) 0 24) 1 23) 2 40) 3 21) 25 23) 27 5))
theorem rv71x : f_X2_addColumn_x rT10 rT47 rT48 2 7 3 = 0 := by decide +kernel
theorem rv71v : (f_X2_addColumn rT10 rT47 rT48 0 2 7 3).1 = 6 := by decide +kernel
theorem rv71b : tE ((f_X2_addColumn rT10 rT47 rT48 0 2 7 3).2.1) rT10 := tB_of (by decide +kernel)
theorem rv71o : tE ((f_X2_addColumn rT10 rT47 rT48 0 2 7 3).2.2.1) rT47 := tB_of (by decide +kernel)
theorem rv71t : tE ((f_X2_addColumn rT10 rT47 rT48 0 2 7 3).2.2.2.1) rT49 := tB_of (by decide +kernel)
theorem rv71f : (f_X2_addColumn rT10 rT47 rT48 0 2 7 3).2.2.2.2 = 0 := by decide +kernel
def rT50 : Tr := (175, 8388617, (upd (upd (upd (upd (upd (upd (fun _ => 0) 0 50) 1 51) 2 52) 3 50) 5 2) 7 3), (upd (upd (upd (upd (upd (upd (upd (fun _ => 0) 0 24) 1 23) 2 40) 3 21) 7 6) 25 23) 27 5))
theorem rv72x : f_X2_set_x rT10 rT47 rT49 2 0 7 6 = 0 := by decide +kernel
theorem rv72v : (f_X2_set rT10 rT47 rT49 0 2 0 7 6).1 = 0 := by decide +kernel
theorem rv72b : tE ((f_X2_set rT10 rT47 rT49 0 2 0 7 6).2.1) rT10 := tB_of (by decide +kernel)
theorem rv72o : tE ((f_X2_set rT10 rT47 rT49 0 2 0 7 6).2.2.1) rT47 := tB_of (by decide +kernel)
theorem rv72t : tE ((f_X2_set rT10 rT47 rT49 0 2 0 7 6).2.2.2.1) rT50 := tB_of (by decide +kernel)
theorem rv72f : (f_X2_set rT10 rT47 rT49 0 2 0 7 6).2.2.2.2 = 0 := by decide +kernel
def rT51 : Tr := (175, 9, (upd (upd (upd (upd (upd (upd (fun _ => 0) 0 50) 1 51) 2 50) 3 50) 5 1) 7 3), (upd (upd (upd (upd (upd (upd (upd (upd (fun _ => 0) 0 20) 1 (-1)) 2 40) 3 34) 7 6) 24 9) 25 23) 27 9))
def rL52 : Lr := (6, 6, (upd (upd (upd (upd (upd (upd (fun _ => 0) 0 4) 1 1) 2 1) 3 5) 4 5) 5 6), (upd (upd (upd (upd (upd (fun _ => 0) 0 (-1)) 2 3) 3 (-1)) 4 (-1)) 5 3), (upd (upd (upd (upd (fun _ => 0) 0 5) 3 2) 4 3) 5 1), (fun _ => 0))
theorem tI_rT47 : tI rT47 := tIB_of (by decide +kernel)
theorem tI_rT50 : tI rT50 := tIB_of (by decide +kernel)
theorem rv73m : MM rT10 rT47 rT50 rU7 rT51 := mmB_of (by decide +kernel)
theorem rv73e : EL rT10 rT47 rT50 rU7 rR33 rT51 = [(4, (-1), 5), (1, 0, 0), (1, 3, 0), (5, (-1), 2), (5, (-1), 3), (6, 3, 1)] := by decide +kernel
theorem rv73q : (f_X2_merge rT10 rT47 rT50 rT43 rU7 rR33 rL46).1 = (aps (f_X0_becomeEmpty rL46) [(4, (-1), 5), (1, 0, 0), (1, 3, 0), (5, (-1), 2), (5, (-1), 3), (6, 3, 1)]).1 ∧ tE (f_X2_merge rT10 rT47 rT50 rT43 rU7 rR33 rL46).2.1 rT51 ∧ (f_X2_merge rT10 rT47 rT50 rT43 rU7 rR33 rL46).2.2.1 = aps (f_X0_becomeEmpty rL46) [(4, (-1), 5), (1, 0, 0), (1, 3, 0), (5, (-1), 2), (5, (-1), 3), (6, 3, 1)] ∧ (f_X2_merge rT10 rT47 rT50 rT43 rU7 rR33 rL46).2.2.2 = 1 := mg_lit tI_rT10 tI_rT47 tI_rT50 rv73m rv73e
theorem rv73w : (aps (f_X0_becomeEmpty rL46) [(4, (-1), 5), (1, 0, 0), (1, 3, 0), (5, (-1), 2), (5, (-1), 3), (6, 3, 1)]).1 = 6 := by decide +kernel
theorem rv73v : (f_X2_merge rT10 rT47 rT50 rT43 rU7 rR33 rL46).1 = 6 := rv73q.1.trans rv73w
theorem rv73k : lE (aps (f_X0_becomeEmpty rL46) [(4, (-1), 5), (1, 0, 0), (1, 3, 0), (5, (-1), 2), (5, (-1), 3), (6, 3, 1)]) rL52 := lB_of (by decide +kernel)
theorem rv73l : lE (f_X2_merge rT10 rT47 rT50 rT43 rU7 rR33 rL46).2.2.1 rL52 := by rw [rv73q.2.2.1]; exact rv73k
theorem rv74x : f_X2_requireConflict_x rL52 0 = 0 := by decide +kernel
theorem rv74k : f_X2_kindOf rL52 0 = 4 := by decide +kernel
theorem rv74y : f_X2_keyOf rL52 0 = (-1) := by decide +kernel
theorem rv74c : f_X2_columnOf rL52 0 = 5 := by decide +kernel
theorem rv75x : f_X2_name_x rT10 rT47 rT50 rT51 3 5 = 0 := by decide +kernel
theorem rv75v : (f_X2_name rT10 rT47 rT50 rT51 3 5) = 1 := by decide +kernel
theorem rv76x : f_X2_get_x rT10 rT47 rT50 rT51 3 0 7 = 0 := by decide +kernel
theorem rv76v : (f_X2_get rT10 rT47 rT50 rT51 3 0 7) = 6 := by decide +kernel
def rT53 : Tr := (175, 9, (upd (upd (upd (upd (upd (upd (fun _ => 0) 0 50) 1 51) 2 50) 3 50) 5 2) 7 3), (upd (upd (upd (upd (upd (upd (upd (upd (fun _ => 0) 0 20) 1 (-1)) 2 40) 3 34) 7 6) 24 9) 25 23) 27 9))
def rL54 : Lr := (6, 5, (upd (upd (upd (upd (upd (upd (fun _ => 0) 0 4) 1 1) 2 1) 3 5) 4 5) 5 6), (upd (upd (upd (upd (upd (fun _ => 0) 0 (-1)) 2 3) 3 (-1)) 4 (-1)) 5 3), (upd (upd (upd (upd (fun _ => 0) 0 5) 3 2) 4 3) 5 1), (upd (fun _ => 0) 0 1))
theorem rv77x : f_X2_settle_x rL52 1 0 2 = 0 := by decide +kernel
theorem rv77v : (f_X2_settle rT47 rT50 rT51 rL52 1 0 2).1 = 5 := by decide +kernel
theorem rv77m : tE ((f_X2_settle rT47 rT50 rT51 rL52 1 0 2).2.1) rT53 := tB_of (by decide +kernel)
theorem rv77l : lE ((f_X2_settle rT47 rT50 rT51 rL52 1 0 2).2.2) rL54 := lB_of (by decide +kernel)
theorem rv78x : f_X2_name_x rT10 rT47 rT50 rT53 3 5 = 0 := by decide +kernel
theorem rv78v : (f_X2_name rT10 rT47 rT50 rT53 3 5) = 2 := by decide +kernel
theorem rv79x : f_X2_columns_x 3 = 0 := by decide +kernel
theorem rv79v : (f_X2_columns rT10 rT47 rT50 rT53 3) = 175 := by decide +kernel
theorem rv80m : MW rT10 rT47 rT50 rU7 rT53 := mwB_of (by decide +kernel)
theorem rv80n : ∀ r c, r < 24 → c < 8 → cel rT53 r c = true → ¬ rT53.2.2.2 (r * 8 + c) = -20001 := vB_of (by decide +kernel)
theorem rv81r : ¬ f_X1_hasRow rT47 3 = 0 := by decide +kernel
theorem rv81c : ¬ f_X1_hasColumn rT47 5 = 0 := by decide +kernel
