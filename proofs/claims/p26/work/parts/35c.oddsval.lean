theorem ov59v : (f_X2_settle oT13 oT17 oT20 oL21 1 0 2).1 = 2 := by decide +kernel
theorem ov59m : tE ((f_X2_settle oT13 oT17 oT20 oL21 1 0 2).2.1) oT22 := tB_of (by decide +kernel)
theorem ov59l : lE ((f_X2_settle oT13 oT17 oT20 oL21 1 0 2).2.2) oL23 := lB_of (by decide +kernel)
theorem ov60x : f_X2_name_x oT7 oT13 oT17 oT22 3 1 = 0 := by decide +kernel
theorem ov60v : (f_X2_name oT7 oT13 oT17 oT22 3 1) = 21 := by decide +kernel
def oT24 : Tr := (3, 224, (upd (upd (fun _ => 0) 0 10) 1 21), (upd (upd (upd (fun _ => 0) 40 102) 49 8) 56 1))
def oL25 : Lr := (4, 1, (upd (upd (upd (upd (fun _ => 0) 0 4) 1 3) 2 2) 3 1), (upd (upd (upd (upd (fun _ => 0) 0 (-1)) 1 (-1)) 2 6) 3 5), (upd (upd (upd (fun _ => 0) 0 1) 1 2) 2 (-1)), (upd (upd (upd (fun _ => 0) 0 1) 1 1) 3 1))
theorem ov61x : f_X2_settle_x oL23 1 1 1 = 0 := by decide +kernel
theorem ov61v : (f_X2_settle oT13 oT17 oT22 oL23 1 1 1).1 = 1 := by decide +kernel
theorem ov61m : tE ((f_X2_settle oT13 oT17 oT22 oL23 1 1 1).2.1) oT24 := tB_of (by decide +kernel)
theorem ov61l : lE ((f_X2_settle oT13 oT17 oT22 oL23 1 1 1).2.2) oL25 := lB_of (by decide +kernel)
theorem ov62x : f_X2_columns_x 3 = 0 := by decide +kernel
theorem ov62v : (f_X2_columns oT7 oT13 oT17 oT24 3) = 3 := by decide +kernel
theorem ov63x : f_X2_get_x oT7 oT13 oT17 oT24 3 5 2 = 1 := by decide +kernel
def oL26 : Lr := (4, 0, (upd (upd (upd (upd (fun _ => 0) 0 4) 1 3) 2 2) 3 1), (upd (upd (upd (upd (fun _ => 0) 0 (-1)) 1 (-1)) 2 6) 3 5), (upd (upd (upd (fun _ => 0) 0 1) 1 2) 2 (-1)), (upd (upd (upd (upd (fun _ => 0) 0 1) 1 1) 2 1) 3 1))
theorem ov64x : f_X2_settle_x oL25 1 2 1 = 0 := by decide +kernel
theorem ov64v : (f_X2_settle oT13 oT17 oT24 oL25 1 2 1).1 = 0 := by decide +kernel
theorem ov64m : tE ((f_X2_settle oT13 oT17 oT24 oL25 1 2 1).2.1) oT24 := tB_of (by decide +kernel)
theorem ov64l : lE ((f_X2_settle oT13 oT17 oT24 oL25 1 2 1).2.2) oL26 := lB_of (by decide +kernel)
theorem ov65x : f_X2_rows_x 3 = 0 := by decide +kernel
theorem ov65v : (f_X2_rows oT7 oT13 oT17 oT24 3) = 224 := by decide +kernel
theorem ov66x : f_X2_settle_x oL26 1 2 1 = 3 := by decide +kernel
theorem ov67v : (f_X2_conflicts oL26) = 4 := by decide +kernel
def oL27 : Lr := (0, 0, (upd (upd (upd (upd (fun _ => 0) 0 4) 1 3) 2 2) 3 1), (upd (upd (upd (upd (fun _ => 0) 0 (-1)) 1 (-1)) 2 6) 3 5), (upd (upd (upd (fun _ => 0) 0 1) 1 2) 2 (-1)), (upd (upd (upd (upd (fun _ => 0) 0 1) 1 1) 2 1) 3 1))
theorem ov68x : f_X2_accept_x oL26 1 = 0 := by decide +kernel
theorem ov68v : (f_X2_accept oT7 oT13 oT17 oT24 oL26 1).1 = 6 := by decide +kernel
theorem ov68l : lE ((f_X2_accept oT7 oT13 oT17 oT24 oL26 1).2.2.2.2.2.1) oL27 := lB_of (by decide +kernel)
theorem ov68a : tE (f_X2_accept oT7 oT13 oT17 oT24 oL26 1).2.1 oT24 ∧ tE (f_X2_accept oT7 oT13 oT17 oT24 oL26 1).2.2.1 oT24 ∧ tE (f_X2_accept oT7 oT13 oT17 oT24 oL26 1).2.2.2.1 oT24 ∧ tE (f_X2_accept oT7 oT13 oT17 oT24 oL26 1).2.2.2.2.1 t00 ∧ (f_X2_accept oT7 oT13 oT17 oT24 oL26 1).2.2.2.2.2.2 = 0 := acc_E ov68x
theorem ov69x : f_X2_columns_x 0 = 0 := by decide +kernel
theorem ov69v : (f_X2_columns oT24 oT24 oT24 t00 0) = 3 := by decide +kernel
theorem ov70x : f_X2_rows_x 2 = 0 := by decide +kernel
theorem ov70v : (f_X2_rows oT24 oT24 oT24 t00 2) = 224 := by decide +kernel
theorem ov71x : f_X2_get_x oT24 oT24 oT24 t00 0 6 1 = 0 := by decide +kernel
theorem ov71v : (f_X2_get oT24 oT24 oT24 t00 0 6 1) = 8 := by decide +kernel
theorem ov72x : f_X2_get_x oT24 oT24 oT24 t00 1 5 0 = 0 := by decide +kernel
theorem ov72v : (f_X2_get oT24 oT24 oT24 t00 1 5 0) = 102 := by decide +kernel
theorem ov73x : f_X2_name_x oT24 oT24 oT24 t00 2 1 = 0 := by decide +kernel
theorem ov73v : (f_X2_name oT24 oT24 oT24 t00 2 1) = 21 := by decide +kernel
theorem ov74v : (f_X2_conflicts oL27) = 0 := by decide +kernel
theorem ov75x : f_X2_rows_x 3 = 0 := by decide +kernel
theorem ov75v : (f_X2_rows oT24 oT24 oT24 t00 3) = 0 := by decide +kernel
def oT28 : Tr := (3, 224, (upd (upd (fun _ => 0) 0 10) 1 21), (upd (upd (upd (fun _ => 0) 40 1) 49 8) 56 1))
theorem ov76x : f_X2_set_x oT24 oT24 oT24 1 5 0 1 = 0 := by decide +kernel
theorem ov76v : (f_X2_set oT24 oT24 oT24 0 1 5 0 1).1 = 102 := by decide +kernel
theorem ov76b : tE ((f_X2_set oT24 oT24 oT24 0 1 5 0 1).2.1) oT24 := tB_of (by decide +kernel)
theorem ov76o : tE ((f_X2_set oT24 oT24 oT24 0 1 5 0 1).2.2.1) oT28 := tB_of (by decide +kernel)
theorem ov76t : tE ((f_X2_set oT24 oT24 oT24 0 1 5 0 1).2.2.2.1) oT24 := tB_of (by decide +kernel)
theorem ov76f : (f_X2_set oT24 oT24 oT24 0 1 5 0 1).2.2.2.2 = 0 := by decide +kernel
def oT29 : Tr := (3, 224, (upd (upd (fun _ => 0) 0 10) 1 21), (upd (upd (upd (fun _ => 0) 40 2) 49 8) 56 1))
theorem ov77x : f_X2_set_x oT24 oT28 oT24 2 5 0 2 = 0 := by decide +kernel
theorem ov77v : (f_X2_set oT24 oT28 oT24 0 2 5 0 2).1 = 102 := by decide +kernel
theorem ov77b : tE ((f_X2_set oT24 oT28 oT24 0 2 5 0 2).2.1) oT24 := tB_of (by decide +kernel)
theorem ov77o : tE ((f_X2_set oT24 oT28 oT24 0 2 5 0 2).2.2.1) oT28 := tB_of (by decide +kernel)
theorem ov77t : tE ((f_X2_set oT24 oT28 oT24 0 2 5 0 2).2.2.2.1) oT29 := tB_of (by decide +kernel)
theorem ov77f : (f_X2_set oT24 oT28 oT24 0 2 5 0 2).2.2.2.2 = 0 := by decide +kernel
def oL30 : Lr := (1, 1, (upd (upd (upd (upd (fun _ => 0) 0 1) 1 3) 2 2) 3 1), (upd (upd (upd (upd (fun _ => 0) 0 5) 1 (-1)) 2 6) 3 5), (upd (upd (fun _ => 0) 1 2) 2 (-1)), (upd (upd (upd (fun _ => 0) 1 1) 2 1) 3 1))
theorem tI_oT24 : tI oT24 := tIB_of (by decide +kernel)
theorem tI_oT28 : tI oT28 := tIB_of (by decide +kernel)
theorem tI_oT29 : tI oT29 := tIB_of (by decide +kernel)
theorem ov78m : MM oT24 oT28 oT29 (fun _ => 0) oT28 := mmB_of (by decide +kernel)
theorem ov78e : EL oT24 oT28 oT29 (fun _ => 0) (fun _ => 0) oT28 = [(1, 5, 0)] := by decide +kernel
theorem ov78q : (f_X2_merge oT24 oT28 oT29 t00 (fun _ => 0) (fun _ => 0) oL27).1 = (aps (f_X0_becomeEmpty oL27) [(1, 5, 0)]).1 ∧ tE (f_X2_merge oT24 oT28 oT29 t00 (fun _ => 0) (fun _ => 0) oL27).2.1 oT28 ∧ (f_X2_merge oT24 oT28 oT29 t00 (fun _ => 0) (fun _ => 0) oL27).2.2.1 = aps (f_X0_becomeEmpty oL27) [(1, 5, 0)] ∧ (f_X2_merge oT24 oT28 oT29 t00 (fun _ => 0) (fun _ => 0) oL27).2.2.2 = 1 := mg_lit tI_oT24 tI_oT28 tI_oT29 ov78m ov78e
theorem ov78w : (aps (f_X0_becomeEmpty oL27) [(1, 5, 0)]).1 = 1 := by decide +kernel
theorem ov78v : (f_X2_merge oT24 oT28 oT29 t00 (fun _ => 0) (fun _ => 0) oL27).1 = 1 := ov78q.1.trans ov78w
theorem ov78k : lE (aps (f_X0_becomeEmpty oL27) [(1, 5, 0)]) oL30 := lB_of (by decide +kernel)
theorem ov78l : lE (f_X2_merge oT24 oT28 oT29 t00 (fun _ => 0) (fun _ => 0) oL27).2.2.1 oL30 := by rw [ov78q.2.2.1]; exact ov78k
def oT31 : Tr := (3, 224, (upd (upd (fun _ => 0) 0 10) 1 21), (upd (upd (upd (fun _ => 0) 40 3) 49 8) 56 1))
theorem ov79x : f_X2_set_x oT24 oT28 oT29 2 5 0 3 = 0 := by decide +kernel
theorem ov79v : (f_X2_set oT24 oT28 oT29 1 2 5 0 3).1 = 2 := by decide +kernel
theorem ov79b : tE ((f_X2_set oT24 oT28 oT29 1 2 5 0 3).2.1) oT24 := tB_of (by decide +kernel)
theorem ov79o : tE ((f_X2_set oT24 oT28 oT29 1 2 5 0 3).2.2.1) oT28 := tB_of (by decide +kernel)
theorem ov79t : tE ((f_X2_set oT24 oT28 oT29 1 2 5 0 3).2.2.2.1) oT31 := tB_of (by decide +kernel)
theorem ov79f : (f_X2_set oT24 oT28 oT29 1 2 5 0 3).2.2.2.2 = 0 := by decide +kernel
theorem ov80v : (f_X2_conflicts oL30) = 1 := by decide +kernel
theorem ov81v : (f_X2_open oL30) = 1 := by decide +kernel
theorem ov82x : f_X2_requireConflict_x oL30 0 = 0 := by decide +kernel
theorem ov82k : f_X2_kindOf oL30 0 = 1 := by decide +kernel
theorem ov82y : f_X2_keyOf oL30 0 = 5 := by decide +kernel
theorem ov82c : f_X2_columnOf oL30 0 = 0 := by decide +kernel
theorem ov83x : f_X2_get_x oT24 oT28 oT31 oT28 3 5 0 = 0 := by decide +kernel
theorem ov83v : (f_X2_get oT24 oT28 oT31 oT28 3 5 0) = 1 := by decide +kernel
theorem ov84x : f_X2_settle_x oL30 0 0 2 = 3 := by decide +kernel
theorem ov85x : f_X2_accept_x oL30 0 = 3 := by decide +kernel
theorem tI_oT31 : tI oT31 := tIB_of (by decide +kernel)
theorem ov86m : MM oT24 oT28 oT31 (fun _ => 0) oT28 := mmB_of (by decide +kernel)
theorem ov86e : EL oT24 oT28 oT31 (fun _ => 0) (fun _ => 0) oT28 = [(1, 5, 0)] := by decide +kernel
theorem ov86q : (f_X2_merge oT24 oT28 oT31 oT28 (fun _ => 0) (fun _ => 0) oL30).1 = (aps (f_X0_becomeEmpty oL30) [(1, 5, 0)]).1 ∧ tE (f_X2_merge oT24 oT28 oT31 oT28 (fun _ => 0) (fun _ => 0) oL30).2.1 oT28 ∧ (f_X2_merge oT24 oT28 oT31 oT28 (fun _ => 0) (fun _ => 0) oL30).2.2.1 = aps (f_X0_becomeEmpty oL30) [(1, 5, 0)] ∧ (f_X2_merge oT24 oT28 oT31 oT28 (fun _ => 0) (fun _ => 0) oL30).2.2.2 = 1 := mg_lit tI_oT24 tI_oT28 tI_oT31 ov86m ov86e
theorem ov86w : (aps (f_X0_becomeEmpty oL30) [(1, 5, 0)]).1 = 1 := by decide +kernel
theorem ov86v : (f_X2_merge oT24 oT28 oT31 oT28 (fun _ => 0) (fun _ => 0) oL30).1 = 1 := ov86q.1.trans ov86w
theorem ov86k : lE (aps (f_X0_becomeEmpty oL30) [(1, 5, 0)]) oL30 := lB_of (by decide +kernel)
theorem ov86l : lE (f_X2_merge oT24 oT28 oT31 oT28 (fun _ => 0) (fun _ => 0) oL30).2.2.1 oL30 := by rw [ov86q.2.2.1]; exact ov86k
def oL32 : Lr := (1, 0, (upd (upd (upd (upd (fun _ => 0) 0 1) 1 3) 2 2) 3 1), (upd (upd (upd (upd (fun _ => 0) 0 5) 1 (-1)) 2 6) 3 5), (upd (upd (fun _ => 0) 1 2) 2 (-1)), (upd (upd (upd (upd (fun _ => 0) 0 1) 1 1) 2 1) 3 1))
theorem ov87x : f_X2_settle_x oL30 1 0 2 = 0 := by decide +kernel
theorem ov87v : (f_X2_settle oT28 oT31 oT28 oL30 1 0 2).1 = 0 := by decide +kernel
theorem ov87m : tE ((f_X2_settle oT28 oT31 oT28 oL30 1 0 2).2.1) oT31 := tB_of (by decide +kernel)
theorem ov87l : lE ((f_X2_settle oT28 oT31 oT28 oL30 1 0 2).2.2) oL32 := lB_of (by decide +kernel)
theorem ov88x : f_X2_get_x oT24 oT28 oT31 oT31 3 5 0 = 0 := by decide +kernel
theorem ov88v : (f_X2_get oT24 oT28 oT31 oT31 3 5 0) = 3 := by decide +kernel
theorem ov89x : f_X2_rename_x oT24 oT28 oT31 2 0 10 = 0 := by decide +kernel
theorem ov89v : (f_X2_rename oT24 oT28 oT31 1 2 0 10).1 = 10 := by decide +kernel
theorem ov89b : tE ((f_X2_rename oT24 oT28 oT31 1 2 0 10).2.1) oT24 := tB_of (by decide +kernel)
theorem ov89o : tE ((f_X2_rename oT24 oT28 oT31 1 2 0 10).2.2.1) oT28 := tB_of (by decide +kernel)
theorem ov89t : tE ((f_X2_rename oT24 oT28 oT31 1 2 0 10).2.2.2.1) oT31 := tB_of (by decide +kernel)
theorem ov89f : (f_X2_rename oT24 oT28 oT31 1 2 0 10).2.2.2.2 = 0 := by decide +kernel
theorem ov90x : f_X2_accept_x oL32 0 = 3 := by decide +kernel
def oL33 : Lr := (0, 0, (upd (upd (upd (upd (fun _ => 0) 0 1) 1 3) 2 2) 3 1), (upd (upd (upd (upd (fun _ => 0) 0 5) 1 (-1)) 2 6) 3 5), (upd (upd (fun _ => 0) 1 2) 2 (-1)), (upd (upd (upd (upd (fun _ => 0) 0 1) 1 1) 2 1) 3 1))
theorem ov91v : (f_X2_fork oT24 oT28 oT31 oT31 oL32).1 = 6 := by decide +kernel
theorem ov91l : lE ((f_X2_fork oT24 oT28 oT31 oT31 oL32).2.2.2.2.1) oL33 := lB_of (by decide +kernel)
theorem ov92v : (f_X2_conflicts oL33) = 0 := by decide +kernel
theorem ov93x : f_X2_get_x oT24 oT24 oT24 t00 1 5 0 = 0 := by decide +kernel
theorem ov93v : (f_X2_get oT24 oT24 oT24 t00 1 5 0) = 102 := by decide +kernel
theorem ov94r : ¬ f_X1_hasRow oT24 5 = 0 := by decide +kernel
theorem ov94c : ¬ f_X1_hasColumn oT24 0 = 0 := by decide +kernel
