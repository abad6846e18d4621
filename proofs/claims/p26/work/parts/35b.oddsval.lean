theorem ov30f : (f_X2_dropColumn oT7 oT9 oT7 0 1 2).2.2.2.2 = 0 := by decide +kernel
def oT11 : Tr := (3, 224, (upd (upd (fun _ => 0) 0 10) 1 20), (upd (upd (fun _ => 0) 40 101) 49 7))
theorem ov31x : f_X2_addRow_x oT7 oT10 oT7 1 7 = 0 := by decide +kernel
theorem ov31v : (f_X2_addRow oT7 oT10 oT7 0 1 7).1 = 3 := by decide +kernel
theorem ov31b : tE ((f_X2_addRow oT7 oT10 oT7 0 1 7).2.1) oT7 := tB_of (by decide +kernel)
theorem ov31o : tE ((f_X2_addRow oT7 oT10 oT7 0 1 7).2.2.1) oT11 := tB_of (by decide +kernel)
theorem ov31t : tE ((f_X2_addRow oT7 oT10 oT7 0 1 7).2.2.2.1) oT7 := tB_of (by decide +kernel)
theorem ov31f : (f_X2_addRow oT7 oT10 oT7 0 1 7).2.2.2.2 = 0 := by decide +kernel
def oT12 : Tr := (3, 224, (upd (upd (fun _ => 0) 0 10) 1 20), (upd (upd (upd (fun _ => 0) 40 101) 49 7) 56 1))
theorem ov32x : f_X2_set_x oT7 oT11 oT7 1 7 0 1 = 0 := by decide +kernel
theorem ov32v : (f_X2_set oT7 oT11 oT7 0 1 7 0 1).1 = 0 := by decide +kernel
theorem ov32b : tE ((f_X2_set oT7 oT11 oT7 0 1 7 0 1).2.1) oT7 := tB_of (by decide +kernel)
theorem ov32o : tE ((f_X2_set oT7 oT11 oT7 0 1 7 0 1).2.2.1) oT12 := tB_of (by decide +kernel)
theorem ov32t : tE ((f_X2_set oT7 oT11 oT7 0 1 7 0 1).2.2.2.1) oT7 := tB_of (by decide +kernel)
theorem ov32f : (f_X2_set oT7 oT11 oT7 0 1 7 0 1).2.2.2.2 = 0 := by decide +kernel
def oT13 : Tr := (3, 224, (upd (upd (fun _ => 0) 0 10) 1 20), (upd (upd (upd (fun _ => 0) 40 101) 49 8) 56 1))
theorem ov33x : f_X2_set_x oT7 oT12 oT7 1 6 1 8 = 0 := by decide +kernel
theorem ov33v : (f_X2_set oT7 oT12 oT7 0 1 6 1 8).1 = 7 := by decide +kernel
theorem ov33b : tE ((f_X2_set oT7 oT12 oT7 0 1 6 1 8).2.1) oT7 := tB_of (by decide +kernel)
theorem ov33o : tE ((f_X2_set oT7 oT12 oT7 0 1 6 1 8).2.2.1) oT13 := tB_of (by decide +kernel)
theorem ov33t : tE ((f_X2_set oT7 oT12 oT7 0 1 6 1 8).2.2.2.1) oT7 := tB_of (by decide +kernel)
theorem ov33f : (f_X2_set oT7 oT12 oT7 0 1 6 1 8).2.2.2.2 = 0 := by decide +kernel
theorem ov34x : f_X2_changes_x 1 = 0 := by decide +kernel
theorem ov34v : (f_X2_changes oT7 oT13 oT7 1) = 5 := by decide +kernel
def oT14 : Tr := (7, 96, (upd (upd (upd (fun _ => 0) 0 10) 1 11) 2 12), (upd (upd (fun _ => 0) 40 102) 49 7))
theorem ov35x : f_X2_set_x oT7 oT13 oT7 2 5 0 102 = 0 := by decide +kernel
theorem ov35v : (f_X2_set oT7 oT13 oT7 0 2 5 0 102).1 = 100 := by decide +kernel
theorem ov35b : tE ((f_X2_set oT7 oT13 oT7 0 2 5 0 102).2.1) oT7 := tB_of (by decide +kernel)
theorem ov35o : tE ((f_X2_set oT7 oT13 oT7 0 2 5 0 102).2.2.1) oT13 := tB_of (by decide +kernel)
theorem ov35t : tE ((f_X2_set oT7 oT13 oT7 0 2 5 0 102).2.2.2.1) oT14 := tB_of (by decide +kernel)
theorem ov35f : (f_X2_set oT7 oT13 oT7 0 2 5 0 102).2.2.2.2 = 0 := by decide +kernel
def oT15 : Tr := (7, 96, (upd (upd (upd (fun _ => 0) 0 10) 1 11) 2 12), (upd (upd (upd (fun _ => 0) 40 102) 42 3) 49 7))
theorem ov36x : f_X2_set_x oT7 oT13 oT14 2 5 2 3 = 0 := by decide +kernel
theorem ov36v : (f_X2_set oT7 oT13 oT14 0 2 5 2 3).1 = 0 := by decide +kernel
theorem ov36b : tE ((f_X2_set oT7 oT13 oT14 0 2 5 2 3).2.1) oT7 := tB_of (by decide +kernel)
theorem ov36o : tE ((f_X2_set oT7 oT13 oT14 0 2 5 2 3).2.2.1) oT13 := tB_of (by decide +kernel)
theorem ov36t : tE ((f_X2_set oT7 oT13 oT14 0 2 5 2 3).2.2.2.1) oT15 := tB_of (by decide +kernel)
theorem ov36f : (f_X2_set oT7 oT13 oT14 0 2 5 2 3).2.2.2.2 = 0 := by decide +kernel
def oT16 : Tr := (7, 32, (upd (upd (upd (fun _ => 0) 0 10) 1 11) 2 12), (upd (upd (fun _ => 0) 40 102) 42 3))
theorem ov37x : f_X2_removeRow_x oT7 oT13 oT15 2 6 = 0 := by decide +kernel
theorem ov37v : (f_X2_removeRow oT7 oT13 oT15 0 2 6).1 = 1 := by decide +kernel
theorem ov37b : tE ((f_X2_removeRow oT7 oT13 oT15 0 2 6).2.1) oT7 := tB_of (by decide +kernel)
theorem ov37o : tE ((f_X2_removeRow oT7 oT13 oT15 0 2 6).2.2.1) oT13 := tB_of (by decide +kernel)
theorem ov37t : tE ((f_X2_removeRow oT7 oT13 oT15 0 2 6).2.2.2.1) oT16 := tB_of (by decide +kernel)
theorem ov37f : (f_X2_removeRow oT7 oT13 oT15 0 2 6).2.2.2.2 = 0 := by decide +kernel
def oT17 : Tr := (7, 32, (upd (upd (upd (fun _ => 0) 0 10) 1 21) 2 12), (upd (upd (fun _ => 0) 40 102) 42 3))
theorem ov38x : f_X2_rename_x oT7 oT13 oT16 2 1 21 = 0 := by decide +kernel
theorem ov38v : (f_X2_rename oT7 oT13 oT16 0 2 1 21).1 = 11 := by decide +kernel
theorem ov38b : tE ((f_X2_rename oT7 oT13 oT16 0 2 1 21).2.1) oT7 := tB_of (by decide +kernel)
theorem ov38o : tE ((f_X2_rename oT7 oT13 oT16 0 2 1 21).2.2.1) oT13 := tB_of (by decide +kernel)
theorem ov38t : tE ((f_X2_rename oT7 oT13 oT16 0 2 1 21).2.2.2.1) oT17 := tB_of (by decide +kernel)
theorem ov38f : (f_X2_rename oT7 oT13 oT16 0 2 1 21).2.2.2.2 = 0 := by decide +kernel
theorem ov39x : f_X2_changes_x 2 = 0 := by decide +kernel
theorem ov39v : (f_X2_changes oT7 oT13 oT17 2) = 4 := by decide +kernel
def oT18 : Tr := (7, 224, (upd (upd (upd (fun _ => 0) 0 10) 1 20) 2 12), (upd (upd (upd (upd (fun _ => 0) 40 101) 42 3) 49 8) 56 1))
def oL19 : Lr := (4, 4, (upd (upd (upd (upd (fun _ => 0) 0 4) 1 3) 2 2) 3 1), (upd (upd (upd (upd (fun _ => 0) 0 (-1)) 1 (-1)) 2 6) 3 5), (upd (upd (upd (fun _ => 0) 0 1) 1 2) 2 (-1)), (fun _ => 0))
theorem tI_oT13 : tI oT13 := tIB_of (by decide +kernel)
theorem tI_oT17 : tI oT17 := tIB_of (by decide +kernel)
theorem ov40m : MM oT7 oT13 oT17 (fun _ => 0) oT18 := mmB_of (by decide +kernel)
theorem ov40e : EL oT7 oT13 oT17 (fun _ => 0) (fun _ => 0) oT18 = [(4, (-1), 1), (3, (-1), 2), (2, 6, (-1)), (1, 5, 0)] := by decide +kernel
theorem ov40q : (f_X2_merge oT7 oT13 oT17 t00 (fun _ => 0) (fun _ => 0) l00).1 = (aps (f_X0_becomeEmpty l00) [(4, (-1), 1), (3, (-1), 2), (2, 6, (-1)), (1, 5, 0)]).1 ∧ tE (f_X2_merge oT7 oT13 oT17 t00 (fun _ => 0) (fun _ => 0) l00).2.1 oT18 ∧ (f_X2_merge oT7 oT13 oT17 t00 (fun _ => 0) (fun _ => 0) l00).2.2.1 = aps (f_X0_becomeEmpty l00) [(4, (-1), 1), (3, (-1), 2), (2, 6, (-1)), (1, 5, 0)] ∧ (f_X2_merge oT7 oT13 oT17 t00 (fun _ => 0) (fun _ => 0) l00).2.2.2 = 1 := mg_lit tI_oT7 tI_oT13 tI_oT17 ov40m ov40e
theorem ov40w : (aps (f_X0_becomeEmpty l00) [(4, (-1), 1), (3, (-1), 2), (2, 6, (-1)), (1, 5, 0)]).1 = 4 := by decide +kernel
theorem ov40v : (f_X2_merge oT7 oT13 oT17 t00 (fun _ => 0) (fun _ => 0) l00).1 = 4 := ov40q.1.trans ov40w
theorem ov40k : lE (aps (f_X0_becomeEmpty l00) [(4, (-1), 1), (3, (-1), 2), (2, 6, (-1)), (1, 5, 0)]) oL19 := lB_of (by decide +kernel)
theorem ov40l : lE (f_X2_merge oT7 oT13 oT17 t00 (fun _ => 0) (fun _ => 0) l00).2.2.1 oL19 := by rw [ov40q.2.2.1]; exact ov40k
theorem ov41v : (f_X2_open oL19) = 4 := by decide +kernel
theorem ov42x : f_X2_requireConflict_x oL19 0 = 0 := by decide +kernel
theorem ov42k : f_X2_kindOf oL19 0 = 4 := by decide +kernel
theorem ov42y : f_X2_keyOf oL19 0 = (-1) := by decide +kernel
theorem ov42c : f_X2_columnOf oL19 0 = 1 := by decide +kernel
theorem ov43x : f_X2_requireConflict_x oL19 1 = 0 := by decide +kernel
theorem ov43k : f_X2_kindOf oL19 1 = 3 := by decide +kernel
theorem ov43y : f_X2_keyOf oL19 1 = (-1) := by decide +kernel
theorem ov43c : f_X2_columnOf oL19 1 = 2 := by decide +kernel
theorem ov44x : f_X2_requireConflict_x oL19 2 = 0 := by decide +kernel
theorem ov44k : f_X2_kindOf oL19 2 = 2 := by decide +kernel
theorem ov44y : f_X2_keyOf oL19 2 = 6 := by decide +kernel
theorem ov44c : f_X2_columnOf oL19 2 = (-1) := by decide +kernel
theorem ov45x : f_X2_requireConflict_x oL19 3 = 0 := by decide +kernel
theorem ov45k : f_X2_kindOf oL19 3 = 1 := by decide +kernel
theorem ov45y : f_X2_keyOf oL19 3 = 5 := by decide +kernel
theorem ov45c : f_X2_columnOf oL19 3 = 0 := by decide +kernel
theorem ov46x : f_X2_columns_x 3 = 0 := by decide +kernel
theorem ov46v : (f_X2_columns oT7 oT13 oT17 oT18 3) = 7 := by decide +kernel
theorem ov47x : f_X2_rows_x 3 = 0 := by decide +kernel
theorem ov47v : (f_X2_rows oT7 oT13 oT17 oT18 3) = 224 := by decide +kernel
theorem ov48x : f_X2_name_x oT7 oT13 oT17 oT18 3 1 = 0 := by decide +kernel
theorem ov48v : (f_X2_name oT7 oT13 oT17 oT18 3 1) = 20 := by decide +kernel
theorem ov49x : f_X2_get_x oT7 oT13 oT17 oT18 3 5 0 = 0 := by decide +kernel
theorem ov49v : (f_X2_get oT7 oT13 oT17 oT18 3 5 0) = 101 := by decide +kernel
theorem ov50x : f_X2_get_x oT7 oT13 oT17 oT18 3 5 2 = 0 := by decide +kernel
theorem ov50v : (f_X2_get oT7 oT13 oT17 oT18 3 5 2) = 3 := by decide +kernel
theorem ov51x : f_X2_get_x oT7 oT13 oT17 oT18 3 6 1 = 0 := by decide +kernel
theorem ov51v : (f_X2_get oT7 oT13 oT17 oT18 3 6 1) = 8 := by decide +kernel
theorem ov52x : f_X2_get_x oT7 oT13 oT17 oT18 3 6 2 = 0 := by decide +kernel
theorem ov52v : (f_X2_get oT7 oT13 oT17 oT18 3 6 2) = 0 := by decide +kernel
theorem ov53x : f_X2_get_x oT7 oT13 oT17 oT18 3 7 0 = 0 := by decide +kernel
theorem ov53v : (f_X2_get oT7 oT13 oT17 oT18 3 7 0) = 1 := by decide +kernel
theorem ov54n : ∀ r c, r < 24 → c < 8 → cel oT18 r c = true → ¬ oT18.2.2.2 (r * 8 + c) = -20001 := vB_of (by decide +kernel)
theorem ov55r : ¬ f_X1_hasRow oT13 7 = 0 := by decide +kernel
theorem ov55c : ¬ f_X1_hasColumn oT13 1 = 0 := by decide +kernel
theorem ov56x : f_X2_accept_x oL19 1 = 3 := by decide +kernel
def oT20 : Tr := (7, 224, (upd (upd (upd (fun _ => 0) 0 10) 1 20) 2 12), (upd (upd (upd (upd (fun _ => 0) 40 102) 42 3) 49 8) 56 1))
def oL21 : Lr := (4, 3, (upd (upd (upd (upd (fun _ => 0) 0 4) 1 3) 2 2) 3 1), (upd (upd (upd (upd (fun _ => 0) 0 (-1)) 1 (-1)) 2 6) 3 5), (upd (upd (upd (fun _ => 0) 0 1) 1 2) 2 (-1)), (upd (fun _ => 0) 3 1))
theorem ov57x : f_X2_settle_x oL19 1 3 2 = 0 := by decide +kernel
theorem ov57v : (f_X2_settle oT13 oT17 oT18 oL19 1 3 2).1 = 3 := by decide +kernel
theorem ov57m : tE ((f_X2_settle oT13 oT17 oT18 oL19 1 3 2).2.1) oT20 := tB_of (by decide +kernel)
theorem ov57l : lE ((f_X2_settle oT13 oT17 oT18 oL19 1 3 2).2.2) oL21 := lB_of (by decide +kernel)
theorem ov58x : f_X2_get_x oT7 oT13 oT17 oT20 3 5 0 = 0 := by decide +kernel
theorem ov58v : (f_X2_get oT7 oT13 oT17 oT20 3 5 0) = 102 := by decide +kernel
def oT22 : Tr := (7, 224, (upd (upd (upd (fun _ => 0) 0 10) 1 21) 2 12), (upd (upd (upd (upd (fun _ => 0) 40 102) 42 3) 49 8) 56 1))
def oL23 : Lr := (4, 2, (upd (upd (upd (upd (fun _ => 0) 0 4) 1 3) 2 2) 3 1), (upd (upd (upd (upd (fun _ => 0) 0 (-1)) 1 (-1)) 2 6) 3 5), (upd (upd (upd (fun _ => 0) 0 1) 1 2) 2 (-1)), (upd (upd (fun _ => 0) 0 1) 3 1))
theorem ov59x : f_X2_settle_x oL21 1 0 2 = 0 := by decide +kernel
