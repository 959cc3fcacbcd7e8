/-! ===== records of methods ===== -/
def M_L_agreed : MT := (my_L_agreed, method_21_code, 4, (some .int), [(0, 9, 12, 13)], [(0, .aload_n 2, 1), (1, .iconst 0, 1), (2, .aload_n 0, 1), (3, .iload_n 1, 1), (4, .invokevirtual 75, 3), (7, .i2l, 1), (8, .lastore, 1), (9, .goto 6, 3), (12, .astore_n 3, 1), (13, .iconst 1, 1), (14, .ireturn, 1), (15, .iconst 0, 1), (16, .ireturn, 1)], [], [(75, my_X11_agreed, 1, 21, 2, 4, 24)], [], [], [1500, 1501, 1502, 85])
theorem ok_L_agreed : mt_ok M_L_agreed = true := by decide +kernel
theorem cw_L_agreed : Cond.codeWith (mt_y M_L_agreed) (mt_b M_L_agreed) (mt_l M_L_agreed) (mt_r M_L_agreed) (mt_h M_L_agreed) ∈ lw_tbl := List.mem_of_getElem? (i := 1499) (by decide +kernel)
def M_L_count : MT := (my_L_count, method_22_code, 4, (some .int), [(0, 9, 12, 13)], [(0, .aload_n 2, 1), (1, .iconst 0, 1), (2, .aload_n 0, 1), (3, .iload_n 1, 1), (4, .invokevirtual 78, 3), (7, .i2l, 1), (8, .lastore, 1), (9, .goto 6, 3), (12, .astore_n 3, 1), (13, .iconst 1, 1), (14, .ireturn, 1), (15, .iconst 0, 1), (16, .ireturn, 1)], [], [(78, my_X11_count, 1, 21, 2, 4, 24)], [], [], [1507, 1508, 1509, 85])
theorem ok_L_count : mt_ok M_L_count = true := by decide +kernel
theorem cw_L_count : Cond.codeWith (mt_y M_L_count) (mt_b M_L_count) (mt_l M_L_count) (mt_r M_L_count) (mt_h M_L_count) ∈ lw_tbl := List.mem_of_getElem? (i := 1506) (by decide +kernel)
