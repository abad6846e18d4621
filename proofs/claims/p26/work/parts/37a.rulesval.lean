def rT1 : Tr := (1, 0, (upd (fun _ => 0) 0 50), (fun _ => 0))
theorem rv1x : f_X2_addColumn_x t00 t00 t00 0 0 50 = 0 := by decide +kernel
theorem rv1v : (f_X2_addColumn t00 t00 t00 0 0 0 50).1 = 1 := by decide +kernel
theorem rv1b : tE ((f_X2_addColumn t00 t00 t00 0 0 0 50).2.1) rT1 := tB_of (by decide +kernel)
theorem rv1o : tE ((f_X2_addColumn t00 t00 t00 0 0 0 50).2.2.1) t00 := tB_of (by decide +kernel)
theorem rv1t : tE ((f_X2_addColumn t00 t00 t00 0 0 0 50).2.2.2.1) t00 := tB_of (by decide +kernel)
theorem rv1f : (f_X2_addColumn t00 t00 t00 0 0 0 50).2.2.2.2 = 0 := by decide +kernel
theorem rv2x : f_X2_setRule_x 0 0 = 0 := by decide +kernel
theorem rv2v : (f_X2_setRule (fun _ => 0) 0 0 0).1 = 0 := by decide +kernel
theorem rv2u : aE 8 ((f_X2_setRule (fun _ => 0) 0 0 0).2.1) (fun _ => 0) := aB_of (by decide +kernel)
theorem rv2f : (f_X2_setRule (fun _ => 0) 0 0 0).2.2 = 0 := by decide +kernel
def rT2 : Tr := (3, 0, (upd (upd (fun _ => 0) 0 50) 1 51), (fun _ => 0))
theorem rv3x : f_X2_addColumn_x rT1 t00 t00 0 1 51 = 0 := by decide +kernel
theorem rv3v : (f_X2_addColumn rT1 t00 t00 0 0 1 51).1 = 2 := by decide +kernel
theorem rv3b : tE ((f_X2_addColumn rT1 t00 t00 0 0 1 51).2.1) rT2 := tB_of (by decide +kernel)
theorem rv3o : tE ((f_X2_addColumn rT1 t00 t00 0 0 1 51).2.2.1) t00 := tB_of (by decide +kernel)
theorem rv3t : tE ((f_X2_addColumn rT1 t00 t00 0 0 1 51).2.2.2.1) t00 := tB_of (by decide +kernel)
theorem rv3f : (f_X2_addColumn rT1 t00 t00 0 0 1 51).2.2.2.2 = 0 := by decide +kernel
def rU3 : Nat → Int32 := (upd (fun _ => 0) 1 1)
theorem rv4x : f_X2_setRule_x 1 1 = 0 := by decide +kernel
theorem rv4v : (f_X2_setRule (fun _ => 0) 0 1 1).1 = 0 := by decide +kernel
theorem rv4u : aE 8 ((f_X2_setRule (fun _ => 0) 0 1 1).2.1) rU3 := aB_of (by decide +kernel)
theorem rv4f : (f_X2_setRule (fun _ => 0) 0 1 1).2.2 = 0 := by decide +kernel
def rT4 : Tr := (7, 0, (upd (upd (upd (fun _ => 0) 0 50) 1 51) 2 52), (fun _ => 0))
theorem rv5x : f_X2_addColumn_x rT2 t00 t00 0 2 52 = 0 := by decide +kernel
theorem rv5v : (f_X2_addColumn rT2 t00 t00 0 0 2 52).1 = 3 := by decide +kernel
theorem rv5b : tE ((f_X2_addColumn rT2 t00 t00 0 0 2 52).2.1) rT4 := tB_of (by decide +kernel)
theorem rv5o : tE ((f_X2_addColumn rT2 t00 t00 0 0 2 52).2.2.1) t00 := tB_of (by decide +kernel)
theorem rv5t : tE ((f_X2_addColumn rT2 t00 t00 0 0 2 52).2.2.2.1) t00 := tB_of (by decide +kernel)
theorem rv5f : (f_X2_addColumn rT2 t00 t00 0 0 2 52).2.2.2.2 = 0 := by decide +kernel
def rU5 : Nat → Int32 := (upd (upd (fun _ => 0) 1 1) 2 2)
theorem rv6x : f_X2_setRule_x 2 2 = 0 := by decide +kernel
theorem rv6v : (f_X2_setRule rU3 0 2 2).1 = 0 := by decide +kernel
theorem rv6u : aE 8 ((f_X2_setRule rU3 0 2 2).2.1) rU5 := aB_of (by decide +kernel)
theorem rv6f : (f_X2_setRule rU3 0 2 2).2.2 = 0 := by decide +kernel
def rT6 : Tr := (15, 0, (upd (upd (upd (upd (fun _ => 0) 0 50) 1 51) 2 52) 3 53), (fun _ => 0))
theorem rv7x : f_X2_addColumn_x rT4 t00 t00 0 3 53 = 0 := by decide +kernel
theorem rv7v : (f_X2_addColumn rT4 t00 t00 0 0 3 53).1 = 4 := by decide +kernel
theorem rv7b : tE ((f_X2_addColumn rT4 t00 t00 0 0 3 53).2.1) rT6 := tB_of (by decide +kernel)
theorem rv7o : tE ((f_X2_addColumn rT4 t00 t00 0 0 3 53).2.2.1) t00 := tB_of (by decide +kernel)
theorem rv7t : tE ((f_X2_addColumn rT4 t00 t00 0 0 3 53).2.2.2.1) t00 := tB_of (by decide +kernel)
theorem rv7f : (f_X2_addColumn rT4 t00 t00 0 0 3 53).2.2.2.2 = 0 := by decide +kernel
def rU7 : Nat → Int32 := (upd (upd (upd (fun _ => 0) 1 1) 2 2) 3 3)
theorem rv8x : f_X2_setRule_x 3 3 = 0 := by decide +kernel
theorem rv8v : (f_X2_setRule rU5 0 3 3).1 = 0 := by decide +kernel
theorem rv8u : aE 8 ((f_X2_setRule rU5 0 3 3).2.1) rU7 := aB_of (by decide +kernel)
theorem rv8f : (f_X2_setRule rU5 0 3 3).2.2 = 0 := by decide +kernel
def rT8 : Tr := (15, 1, (upd (upd (upd (upd (fun _ => 0) 0 50) 1 51) 2 52) 3 53), (fun _ => 0))
theorem rv9x : f_X2_addRow_x rT6 t00 t00 0 0 = 0 := by decide +kernel
theorem rv9v : (f_X2_addRow rT6 t00 t00 0 0 0).1 = 1 := by decide +kernel
theorem rv9b : tE ((f_X2_addRow rT6 t00 t00 0 0 0).2.1) rT8 := tB_of (by decide +kernel)
theorem rv9o : tE ((f_X2_addRow rT6 t00 t00 0 0 0).2.2.1) t00 := tB_of (by decide +kernel)
theorem rv9t : tE ((f_X2_addRow rT6 t00 t00 0 0 0).2.2.2.1) t00 := tB_of (by decide +kernel)
theorem rv9f : (f_X2_addRow rT6 t00 t00 0 0 0).2.2.2.2 = 0 := by decide +kernel
def rT9 : Tr := (15, 8388609, (upd (upd (upd (upd (fun _ => 0) 0 50) 1 51) 2 52) 3 53), (fun _ => 0))
theorem rv10x : f_X2_addRow_x rT8 t00 t00 0 23 = 0 := by decide +kernel
theorem rv10v : (f_X2_addRow rT8 t00 t00 0 0 23).1 = 2 := by decide +kernel
theorem rv10b : tE ((f_X2_addRow rT8 t00 t00 0 0 23).2.1) rT9 := tB_of (by decide +kernel)
theorem rv10o : tE ((f_X2_addRow rT8 t00 t00 0 0 23).2.2.1) t00 := tB_of (by decide +kernel)
theorem rv10t : tE ((f_X2_addRow rT8 t00 t00 0 0 23).2.2.2.1) t00 := tB_of (by decide +kernel)
theorem rv10f : (f_X2_addRow rT8 t00 t00 0 0 23).2.2.2.2 = 0 := by decide +kernel
def rT10 : Tr := (15, 8388609, (upd (upd (upd (upd (fun _ => 0) 0 50) 1 51) 2 52) 3 53), (upd (fun _ => 0) 3 10))
theorem rv11x : f_X2_set_x rT9 t00 t00 0 0 3 10 = 0 := by decide +kernel
theorem rv11v : (f_X2_set rT9 t00 t00 0 0 0 3 10).1 = 0 := by decide +kernel
theorem rv11b : tE ((f_X2_set rT9 t00 t00 0 0 0 3 10).2.1) rT10 := tB_of (by decide +kernel)
theorem rv11o : tE ((f_X2_set rT9 t00 t00 0 0 0 3 10).2.2.1) t00 := tB_of (by decide +kernel)
theorem rv11t : tE ((f_X2_set rT9 t00 t00 0 0 0 3 10).2.2.2.1) t00 := tB_of (by decide +kernel)
theorem rv11f : (f_X2_set rT9 t00 t00 0 0 0 3 10).2.2.2.2 = 0 := by decide +kernel
theorem rv12v : (f_X2_fork rT10 t00 t00 t00 l00).1 = 8 := by decide +kernel
theorem rv12l : lE ((f_X2_fork rT10 t00 t00 t00 l00).2.2.2.2.1) l00 := lB_of (by decide +kernel)
def rT11 : Tr := (15, 8388609, (upd (upd (upd (upd (fun _ => 0) 0 50) 1 51) 2 52) 3 53), (upd (upd (fun _ => 0) 0 20) 3 10))
theorem rv13x : f_X2_set_x rT10 rT10 rT10 1 0 0 20 = 0 := by decide +kernel
theorem rv13v : (f_X2_set rT10 rT10 rT10 0 1 0 0 20).1 = 0 := by decide +kernel
theorem rv13b : tE ((f_X2_set rT10 rT10 rT10 0 1 0 0 20).2.1) rT10 := tB_of (by decide +kernel)
theorem rv13o : tE ((f_X2_set rT10 rT10 rT10 0 1 0 0 20).2.2.1) rT11 := tB_of (by decide +kernel)
theorem rv13t : tE ((f_X2_set rT10 rT10 rT10 0 1 0 0 20).2.2.2.1) rT10 := tB_of (by decide +kernel)
theorem rv13f : (f_X2_set rT10 rT10 rT10 0 1 0 0 20).2.2.2.2 = 0 := by decide +kernel
def rT12 : Tr := (15, 8388609, (upd (upd (upd (upd (fun _ => 0) 0 50) 1 51) 2 52) 3 53), (upd (upd (fun _ => 0) 0 24) 3 10))
theorem rv14x : f_X2_set_x rT10 rT11 rT10 2 0 0 24 = 0 := by decide +kernel
theorem rv14v : (f_X2_set rT10 rT11 rT10 0 2 0 0 24).1 = 0 := by decide +kernel
theorem rv14b : tE ((f_X2_set rT10 rT11 rT10 0 2 0 0 24).2.1) rT10 := tB_of (by decide +kernel)
theorem rv14o : tE ((f_X2_set rT10 rT11 rT10 0 2 0 0 24).2.2.1) rT11 := tB_of (by decide +kernel)
theorem rv14t : tE ((f_X2_set rT10 rT11 rT10 0 2 0 0 24).2.2.2.1) rT12 := tB_of (by decide +kernel)
theorem rv14f : (f_X2_set rT10 rT11 rT10 0 2 0 0 24).2.2.2.2 = 0 := by decide +kernel
def rT13 : Tr := (15, 8388609, (upd (upd (upd (upd (fun _ => 0) 0 50) 1 51) 2 52) 3 53), (upd (upd (upd (fun _ => 0) 0 20) 1 21) 3 10))
theorem rv15x : f_X2_set_x rT10 rT11 rT12 1 0 1 21 = 0 := by decide +kernel
theorem rv15v : (f_X2_set rT10 rT11 rT12 0 1 0 1 21).1 = 0 := by decide +kernel
theorem rv15b : tE ((f_X2_set rT10 rT11 rT12 0 1 0 1 21).2.1) rT10 := tB_of (by decide +kernel)
theorem rv15o : tE ((f_X2_set rT10 rT11 rT12 0 1 0 1 21).2.2.1) rT13 := tB_of (by decide +kernel)
theorem rv15t : tE ((f_X2_set rT10 rT11 rT12 0 1 0 1 21).2.2.2.1) rT12 := tB_of (by decide +kernel)
theorem rv15f : (f_X2_set rT10 rT11 rT12 0 1 0 1 21).2.2.2.2 = 0 := by decide +kernel
def rT14 : Tr := (15, 8388609, (upd (upd (upd (upd (fun _ => 0) 0 50) 1 51) 2 52) 3 53), (upd (upd (upd (fun _ => 0) 0 24) 1 23) 3 10))
theorem rv16x : f_X2_set_x rT10 rT13 rT12 2 0 1 23 = 0 := by decide +kernel
theorem rv16v : (f_X2_set rT10 rT13 rT12 0 2 0 1 23).1 = 0 := by decide +kernel
theorem rv16b : tE ((f_X2_set rT10 rT13 rT12 0 2 0 1 23).2.1) rT10 := tB_of (by decide +kernel)
theorem rv16o : tE ((f_X2_set rT10 rT13 rT12 0 2 0 1 23).2.2.1) rT13 := tB_of (by decide +kernel)
theorem rv16t : tE ((f_X2_set rT10 rT13 rT12 0 2 0 1 23).2.2.2.1) rT14 := tB_of (by decide +kernel)
theorem rv16f : (f_X2_set rT10 rT13 rT12 0 2 0 1 23).2.2.2.2 = 0 := by decide +kernel
def rT15 : Tr := (15, 8388609, (upd (upd (upd (upd (fun _ => 0) 0 50) 1 51) 2 52) 3 53), (upd (upd (upd (upd (fun _ => 0) 0 20) 1 21) 2 22) 3 10))
theorem rv17x : f_X2_set_x rT10 rT13 rT14 1 0 2 22 = 0 := by decide +kernel
theorem rv17v : (f_X2_set rT10 rT13 rT14 0 1 0 2 22).1 = 0 := by decide +kernel
theorem rv17b : tE ((f_X2_set rT10 rT13 rT14 0 1 0 2 22).2.1) rT10 := tB_of (by decide +kernel)
theorem rv17o : tE ((f_X2_set rT10 rT13 rT14 0 1 0 2 22).2.2.1) rT15 := tB_of (by decide +kernel)
theorem rv17t : tE ((f_X2_set rT10 rT13 rT14 0 1 0 2 22).2.2.2.1) rT14 := tB_of (by decide +kernel)
theorem rv17f : (f_X2_set rT10 rT13 rT14 0 1 0 2 22).2.2.2.2 = 0 := by decide +kernel
def rT16 : Tr := (15, 8388609, (upd (upd (upd (upd (fun _ => 0) 0 50) 1 51) 2 52) 3 53), (upd (upd (upd (upd (fun _ => 0) 0 24) 1 23) 2 22) 3 10))
theorem rv18x : f_X2_set_x rT10 rT15 rT14 2 0 2 22 = 0 := by decide +kernel
theorem rv18v : (f_X2_set rT10 rT15 rT14 0 2 0 2 22).1 = 0 := by decide +kernel
theorem rv18b : tE ((f_X2_set rT10 rT15 rT14 0 2 0 2 22).2.1) rT10 := tB_of (by decide +kernel)
theorem rv18o : tE ((f_X2_set rT10 rT15 rT14 0 2 0 2 22).2.2.1) rT15 := tB_of (by decide +kernel)
theorem rv18t : tE ((f_X2_set rT10 rT15 rT14 0 2 0 2 22).2.2.2.1) rT16 := tB_of (by decide +kernel)
theorem rv18f : (f_X2_set rT10 rT15 rT14 0 2 0 2 22).2.2.2.2 = 0 := by decide +kernel
def rT17 : Tr := (15, 8388609, (upd (upd (upd (upd (fun _ => 0) 0 50) 1 51) 2 52) 3 53), (upd (upd (upd (upd (fun _ => 0) 0 20) 1 21) 2 22) 3 23))
theorem rv19x : f_X2_set_x rT10 rT15 rT16 1 0 3 23 = 0 := by decide +kernel
theorem rv19v : (f_X2_set rT10 rT15 rT16 0 1 0 3 23).1 = 10 := by decide +kernel
theorem rv19b : tE ((f_X2_set rT10 rT15 rT16 0 1 0 3 23).2.1) rT10 := tB_of (by decide +kernel)
theorem rv19o : tE ((f_X2_set rT10 rT15 rT16 0 1 0 3 23).2.2.1) rT17 := tB_of (by decide +kernel)
theorem rv19t : tE ((f_X2_set rT10 rT15 rT16 0 1 0 3 23).2.2.2.1) rT16 := tB_of (by decide +kernel)
theorem rv19f : (f_X2_set rT10 rT15 rT16 0 1 0 3 23).2.2.2.2 = 0 := by decide +kernel
def rT18 : Tr := (15, 8388609, (upd (upd (upd (upd (fun _ => 0) 0 50) 1 51) 2 52) 3 53), (upd (upd (upd (upd (fun _ => 0) 0 24) 1 23) 2 22) 3 21))
theorem rv20x : f_X2_set_x rT10 rT17 rT16 2 0 3 21 = 0 := by decide +kernel
theorem rv20v : (f_X2_set rT10 rT17 rT16 0 2 0 3 21).1 = 10 := by decide +kernel
theorem rv20b : tE ((f_X2_set rT10 rT17 rT16 0 2 0 3 21).2.1) rT10 := tB_of (by decide +kernel)
theorem rv20o : tE ((f_X2_set rT10 rT17 rT16 0 2 0 3 21).2.2.1) rT17 := tB_of (by decide +kernel)
theorem rv20t : tE ((f_X2_set rT10 rT17 rT16 0 2 0 3 21).2.2.2.1) rT18 := tB_of (by decide +kernel)
theorem rv20f : (f_X2_set rT10 rT17 rT16 0 2 0 3 21).2.2.2.2 = 0 := by decide +kernel
def rT19 : Tr := (15, 8388609, (upd (upd (upd (upd (fun _ => 0) 0 50) 1 51) 2 52) 3 53), (upd (upd (upd (upd (fun _ => 0) 0 20) 1 21) 2 22) 3 34))
def rL20 : Lr := (1, 1, (upd (fun _ => 0) 0 1), (fun _ => 0), (fun _ => 0), (fun _ => 0))
theorem tI_rT10 : tI rT10 := tIB_of (by decide +kernel)
theorem tI_rT17 : tI rT17 := tIB_of (by decide +kernel)
theorem tI_rT18 : tI rT18 := tIB_of (by decide +kernel)
theorem rv21m : MM rT10 rT17 rT18 rU7 rT19 := mmB_of (by decide +kernel)
theorem rv21e : EL rT10 rT17 rT18 rU7 (fun _ => 0) rT19 = [(1, 0, 0)] := by decide +kernel
theorem rv21q : (f_X2_merge rT10 rT17 rT18 t00 rU7 (fun _ => 0) l00).1 = (aps (f_X0_becomeEmpty l00) [(1, 0, 0)]).1 ∧ tE (f_X2_merge rT10 rT17 rT18 t00 rU7 (fun _ => 0) l00).2.1 rT19 ∧ (f_X2_merge rT10 rT17 rT18 t00 rU7 (fun _ => 0) l00).2.2.1 = aps (f_X0_becomeEmpty l00) [(1, 0, 0)] ∧ (f_X2_merge rT10 rT17 rT18 t00 rU7 (fun _ => 0) l00).2.2.2 = 1 := mg_lit tI_rT10 tI_rT17 tI_rT18 rv21m rv21e
theorem rv21w : (aps (f_X0_becomeEmpty l00) [(1, 0, 0)]).1 = 1 := by decide +kernel
theorem rv21v : (f_X2_merge rT10 rT17 rT18 t00 rU7 (fun _ => 0) l00).1 = 1 := rv21q.1.trans rv21w
theorem rv21k : lE (aps (f_X0_becomeEmpty l00) [(1, 0, 0)]) rL20 := lB_of (by decide +kernel)
theorem rv21l : lE (f_X2_merge rT10 rT17 rT18 t00 rU7 (fun _ => 0) l00).2.2.1 rL20 := by rw [rv21q.2.2.1]; exact rv21k
theorem rv22x : f_X2_requireConflict_x rL20 0 = 0 := by decide +kernel
theorem rv22k : f_X2_kindOf rL20 0 = 1 := by decide +kernel
theorem rv22y : f_X2_keyOf rL20 0 = 0 := by decide +kernel
theorem rv22c : f_X2_columnOf rL20 0 = 0 := by decide +kernel
theorem rv23x : f_X2_get_x rT10 rT17 rT18 rT19 3 0 0 = 0 := by decide +kernel
theorem rv23v : (f_X2_get rT10 rT17 rT18 rT19 3 0 0) = 20 := by decide +kernel
theorem rv24x : f_X2_get_x rT10 rT17 rT18 rT19 3 0 1 = 0 := by decide +kernel
