theorem ov1x : f_X2_columns_x 0 = 0 := by decide +kernel
theorem ov1v : (f_X2_columns t00 t00 t00 t00 0) = 0 := by decide +kernel
theorem ov2x : f_X2_rows_x 3 = 0 := by decide +kernel
theorem ov2v : (f_X2_rows t00 t00 t00 t00 3) = 0 := by decide +kernel
theorem ov3v : (f_X2_conflicts l00) = 0 := by decide +kernel
theorem ov4v : (f_X2_open l00) = 0 := by decide +kernel
theorem ov5x : f_X2_accept_x l00 0 = 3 := by decide +kernel
def oT1 : Tr := (1, 0, (upd (fun _ => 0) 0 10), (fun _ => 0))
theorem ov6x : f_X2_addColumn_x t00 t00 t00 0 0 10 = 0 := by decide +kernel
theorem ov6v : (f_X2_addColumn t00 t00 t00 0 0 0 10).1 = 1 := by decide +kernel
theorem ov6b : tE ((f_X2_addColumn t00 t00 t00 0 0 0 10).2.1) oT1 := tB_of (by decide +kernel)
theorem ov6o : tE ((f_X2_addColumn t00 t00 t00 0 0 0 10).2.2.1) t00 := tB_of (by decide +kernel)
theorem ov6t : tE ((f_X2_addColumn t00 t00 t00 0 0 0 10).2.2.2.1) t00 := tB_of (by decide +kernel)
theorem ov6f : (f_X2_addColumn t00 t00 t00 0 0 0 10).2.2.2.2 = 0 := by decide +kernel
def oT2 : Tr := (3, 0, (upd (upd (fun _ => 0) 0 10) 1 11), (fun _ => 0))
theorem ov7x : f_X2_addColumn_x oT1 t00 t00 0 1 11 = 0 := by decide +kernel
theorem ov7v : (f_X2_addColumn oT1 t00 t00 0 0 1 11).1 = 2 := by decide +kernel
theorem ov7b : tE ((f_X2_addColumn oT1 t00 t00 0 0 1 11).2.1) oT2 := tB_of (by decide +kernel)
theorem ov7o : tE ((f_X2_addColumn oT1 t00 t00 0 0 1 11).2.2.1) t00 := tB_of (by decide +kernel)
theorem ov7t : tE ((f_X2_addColumn oT1 t00 t00 0 0 1 11).2.2.2.1) t00 := tB_of (by decide +kernel)
theorem ov7f : (f_X2_addColumn oT1 t00 t00 0 0 1 11).2.2.2.2 = 0 := by decide +kernel
def oT3 : Tr := (7, 0, (upd (upd (upd (fun _ => 0) 0 10) 1 11) 2 12), (fun _ => 0))
theorem ov8x : f_X2_addColumn_x oT2 t00 t00 0 2 12 = 0 := by decide +kernel
theorem ov8v : (f_X2_addColumn oT2 t00 t00 0 0 2 12).1 = 3 := by decide +kernel
theorem ov8b : tE ((f_X2_addColumn oT2 t00 t00 0 0 2 12).2.1) oT3 := tB_of (by decide +kernel)
theorem ov8o : tE ((f_X2_addColumn oT2 t00 t00 0 0 2 12).2.2.1) t00 := tB_of (by decide +kernel)
theorem ov8t : tE ((f_X2_addColumn oT2 t00 t00 0 0 2 12).2.2.2.1) t00 := tB_of (by decide +kernel)
theorem ov8f : (f_X2_addColumn oT2 t00 t00 0 0 2 12).2.2.2.2 = 0 := by decide +kernel
def oT4 : Tr := (7, 32, (upd (upd (upd (fun _ => 0) 0 10) 1 11) 2 12), (fun _ => 0))
theorem ov9x : f_X2_addRow_x oT3 t00 t00 0 5 = 0 := by decide +kernel
theorem ov9v : (f_X2_addRow oT3 t00 t00 0 0 5).1 = 1 := by decide +kernel
theorem ov9b : tE ((f_X2_addRow oT3 t00 t00 0 0 5).2.1) oT4 := tB_of (by decide +kernel)
theorem ov9o : tE ((f_X2_addRow oT3 t00 t00 0 0 5).2.2.1) t00 := tB_of (by decide +kernel)
theorem ov9t : tE ((f_X2_addRow oT3 t00 t00 0 0 5).2.2.2.1) t00 := tB_of (by decide +kernel)
theorem ov9f : (f_X2_addRow oT3 t00 t00 0 0 5).2.2.2.2 = 0 := by decide +kernel
def oT5 : Tr := (7, 96, (upd (upd (upd (fun _ => 0) 0 10) 1 11) 2 12), (fun _ => 0))
theorem ov10x : f_X2_addRow_x oT4 t00 t00 0 6 = 0 := by decide +kernel
theorem ov10v : (f_X2_addRow oT4 t00 t00 0 0 6).1 = 2 := by decide +kernel
theorem ov10b : tE ((f_X2_addRow oT4 t00 t00 0 0 6).2.1) oT5 := tB_of (by decide +kernel)
theorem ov10o : tE ((f_X2_addRow oT4 t00 t00 0 0 6).2.2.1) t00 := tB_of (by decide +kernel)
theorem ov10t : tE ((f_X2_addRow oT4 t00 t00 0 0 6).2.2.2.1) t00 := tB_of (by decide +kernel)
theorem ov10f : (f_X2_addRow oT4 t00 t00 0 0 6).2.2.2.2 = 0 := by decide +kernel
def oT6 : Tr := (7, 96, (upd (upd (upd (fun _ => 0) 0 10) 1 11) 2 12), (upd (fun _ => 0) 40 100))
theorem ov11x : f_X2_set_x oT5 t00 t00 0 5 0 100 = 0 := by decide +kernel
theorem ov11v : (f_X2_set oT5 t00 t00 0 0 5 0 100).1 = 0 := by decide +kernel
theorem ov11b : tE ((f_X2_set oT5 t00 t00 0 0 5 0 100).2.1) oT6 := tB_of (by decide +kernel)
theorem ov11o : tE ((f_X2_set oT5 t00 t00 0 0 5 0 100).2.2.1) t00 := tB_of (by decide +kernel)
theorem ov11t : tE ((f_X2_set oT5 t00 t00 0 0 5 0 100).2.2.2.1) t00 := tB_of (by decide +kernel)
theorem ov11f : (f_X2_set oT5 t00 t00 0 0 5 0 100).2.2.2.2 = 0 := by decide +kernel
def oT7 : Tr := (7, 96, (upd (upd (upd (fun _ => 0) 0 10) 1 11) 2 12), (upd (upd (fun _ => 0) 40 100) 49 7))
theorem ov12x : f_X2_set_x oT6 t00 t00 0 6 1 7 = 0 := by decide +kernel
theorem ov12v : (f_X2_set oT6 t00 t00 0 0 6 1 7).1 = 0 := by decide +kernel
theorem ov12b : tE ((f_X2_set oT6 t00 t00 0 0 6 1 7).2.1) oT7 := tB_of (by decide +kernel)
theorem ov12o : tE ((f_X2_set oT6 t00 t00 0 0 6 1 7).2.2.1) t00 := tB_of (by decide +kernel)
theorem ov12t : tE ((f_X2_set oT6 t00 t00 0 0 6 1 7).2.2.2.1) t00 := tB_of (by decide +kernel)
theorem ov12f : (f_X2_set oT6 t00 t00 0 0 6 1 7).2.2.2.2 = 0 := by decide +kernel
theorem ov13x : f_X2_changes_x 1 = 0 := by decide +kernel
theorem ov13v : (f_X2_changes oT7 t00 t00 1) = 5 := by decide +kernel
theorem ov14v : (f_X2_fork oT7 t00 t00 t00 l00).1 = 6 := by decide +kernel
theorem ov14l : lE ((f_X2_fork oT7 t00 t00 t00 l00).2.2.2.2.1) l00 := lB_of (by decide +kernel)
theorem ov15x : f_X2_columns_x 1 = 0 := by decide +kernel
theorem ov15v : (f_X2_columns oT7 oT7 oT7 t00 1) = 7 := by decide +kernel
theorem ov16x : f_X2_rows_x 2 = 0 := by decide +kernel
theorem ov16v : (f_X2_rows oT7 oT7 oT7 t00 2) = 96 := by decide +kernel
theorem ov17x : f_X2_changes_x 1 = 0 := by decide +kernel
theorem ov17v : (f_X2_changes oT7 oT7 oT7 1) = 0 := by decide +kernel
theorem ov18x : f_X2_get_x oT7 oT7 oT7 t00 2 5 0 = 0 := by decide +kernel
theorem ov18v : (f_X2_get oT7 oT7 oT7 t00 2 5 0) = 100 := by decide +kernel
theorem ov19x : f_X2_columns_x 3 = 0 := by decide +kernel
theorem ov19v : (f_X2_columns oT7 oT7 oT7 t00 3) = 0 := by decide +kernel
theorem ov20r : ¬ f_X1_hasRow oT7 5 = 0 := by decide +kernel
theorem ov20c : ¬ f_X1_hasColumn oT7 2 = 0 := by decide +kernel
theorem tI_oT7 : tI oT7 := tIB_of (by decide +kernel)
theorem ov21m : MM oT7 oT7 oT7 (fun _ => 0) oT7 := mmB_of (by decide +kernel)
theorem ov21e : EL oT7 oT7 oT7 (fun _ => 0) (fun _ => 0) oT7 = [] := by decide +kernel
theorem ov21q : (f_X2_merge oT7 oT7 oT7 t00 (fun _ => 0) (fun _ => 0) l00).1 = (aps (f_X0_becomeEmpty l00) []).1 ∧ tE (f_X2_merge oT7 oT7 oT7 t00 (fun _ => 0) (fun _ => 0) l00).2.1 oT7 ∧ (f_X2_merge oT7 oT7 oT7 t00 (fun _ => 0) (fun _ => 0) l00).2.2.1 = aps (f_X0_becomeEmpty l00) [] ∧ (f_X2_merge oT7 oT7 oT7 t00 (fun _ => 0) (fun _ => 0) l00).2.2.2 = 1 := mg_lit tI_oT7 tI_oT7 tI_oT7 ov21m ov21e
theorem ov21w : (aps (f_X0_becomeEmpty l00) []).1 = 0 := by decide +kernel
theorem ov21v : (f_X2_merge oT7 oT7 oT7 t00 (fun _ => 0) (fun _ => 0) l00).1 = 0 := ov21q.1.trans ov21w
theorem ov21k : lE (aps (f_X0_becomeEmpty l00) []) l00 := lB_of (by decide +kernel)
theorem ov21l : lE (f_X2_merge oT7 oT7 oT7 t00 (fun _ => 0) (fun _ => 0) l00).2.2.1 l00 := by rw [ov21q.2.2.1]; exact ov21k
theorem ov22x : f_X2_columns_x 3 = 0 := by decide +kernel
theorem ov22v : (f_X2_columns oT7 oT7 oT7 oT7 3) = 7 := by decide +kernel
theorem ov23x : f_X2_get_x oT7 oT7 oT7 oT7 3 5 0 = 0 := by decide +kernel
theorem ov23v : (f_X2_get oT7 oT7 oT7 oT7 3 5 0) = 100 := by decide +kernel
theorem ov24x : f_X2_name_x oT7 oT7 oT7 oT7 3 2 = 0 := by decide +kernel
theorem ov24v : (f_X2_name oT7 oT7 oT7 oT7 3 2) = 12 := by decide +kernel
theorem ov25n : ∀ r c, r < 24 → c < 8 → cel oT7 r c = true → ¬ oT7.2.2.2 (r * 8 + c) = -20001 := vB_of (by decide +kernel)
theorem ov26x : f_X2_accept_x l00 1 = 0 := by decide +kernel
theorem ov26v : (f_X2_accept oT7 oT7 oT7 oT7 l00 1).1 = 6 := by decide +kernel
theorem ov26l : lE ((f_X2_accept oT7 oT7 oT7 oT7 l00 1).2.2.2.2.2.1) l00 := lB_of (by decide +kernel)
theorem ov26a : tE (f_X2_accept oT7 oT7 oT7 oT7 l00 1).2.1 oT7 ∧ tE (f_X2_accept oT7 oT7 oT7 oT7 l00 1).2.2.1 oT7 ∧ tE (f_X2_accept oT7 oT7 oT7 oT7 l00 1).2.2.2.1 oT7 ∧ tE (f_X2_accept oT7 oT7 oT7 oT7 l00 1).2.2.2.2.1 t00 ∧ (f_X2_accept oT7 oT7 oT7 oT7 l00 1).2.2.2.2.2.2 = 0 := acc_E ov26x
theorem ov27x : f_X2_columns_x 3 = 0 := by decide +kernel
theorem ov27v : (f_X2_columns oT7 oT7 oT7 t00 3) = 0 := by decide +kernel
def oT8 : Tr := (7, 96, (upd (upd (upd (fun _ => 0) 0 10) 1 11) 2 12), (upd (upd (fun _ => 0) 40 101) 49 7))
theorem ov28x : f_X2_set_x oT7 oT7 oT7 1 5 0 101 = 0 := by decide +kernel
theorem ov28v : (f_X2_set oT7 oT7 oT7 0 1 5 0 101).1 = 100 := by decide +kernel
theorem ov28b : tE ((f_X2_set oT7 oT7 oT7 0 1 5 0 101).2.1) oT7 := tB_of (by decide +kernel)
theorem ov28o : tE ((f_X2_set oT7 oT7 oT7 0 1 5 0 101).2.2.1) oT8 := tB_of (by decide +kernel)
theorem ov28t : tE ((f_X2_set oT7 oT7 oT7 0 1 5 0 101).2.2.2.1) oT7 := tB_of (by decide +kernel)
theorem ov28f : (f_X2_set oT7 oT7 oT7 0 1 5 0 101).2.2.2.2 = 0 := by decide +kernel
def oT9 : Tr := (7, 96, (upd (upd (upd (fun _ => 0) 0 10) 1 20) 2 12), (upd (upd (fun _ => 0) 40 101) 49 7))
theorem ov29x : f_X2_rename_x oT7 oT8 oT7 1 1 20 = 0 := by decide +kernel
theorem ov29v : (f_X2_rename oT7 oT8 oT7 0 1 1 20).1 = 11 := by decide +kernel
theorem ov29b : tE ((f_X2_rename oT7 oT8 oT7 0 1 1 20).2.1) oT7 := tB_of (by decide +kernel)
theorem ov29o : tE ((f_X2_rename oT7 oT8 oT7 0 1 1 20).2.2.1) oT9 := tB_of (by decide +kernel)
theorem ov29t : tE ((f_X2_rename oT7 oT8 oT7 0 1 1 20).2.2.2.1) oT7 := tB_of (by decide +kernel)
theorem ov29f : (f_X2_rename oT7 oT8 oT7 0 1 1 20).2.2.2.2 = 0 := by decide +kernel
def oT10 : Tr := (3, 96, (upd (upd (fun _ => 0) 0 10) 1 20), (upd (upd (fun _ => 0) 40 101) 49 7))
theorem ov30x : f_X2_dropColumn_x oT7 oT9 oT7 1 2 = 0 := by decide +kernel
theorem ov30v : (f_X2_dropColumn oT7 oT9 oT7 0 1 2).1 = 12 := by decide +kernel
theorem ov30b : tE ((f_X2_dropColumn oT7 oT9 oT7 0 1 2).2.1) oT7 := tB_of (by decide +kernel)
theorem ov30o : tE ((f_X2_dropColumn oT7 oT9 oT7 0 1 2).2.2.1) oT10 := tB_of (by decide +kernel)
theorem ov30t : tE ((f_X2_dropColumn oT7 oT9 oT7 0 1 2).2.2.2.1) oT7 := tB_of (by decide +kernel)
