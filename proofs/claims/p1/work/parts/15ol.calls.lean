theorem c_keeper_7_0 {G : GE} (hst : (ge_l G).stackTraces = false) {x : Nat}  : CC G 4 4 24 my_X11_keeper x [.int (nI 7), .int (nI 0)] E3 0 (nI 0) := by
  intro h f
  refine ex_M_of ok_X11_keeper cw_X11_keeper rfl hst (Nat.le_of_ble_eq_true rfl) ?_
  refine ex_iload_n ok_X11_keeper (mi 0 rfl) rfl ?_
  refine ex_bipush ok_X11_keeper (mi 1 rfl) ?_
  refine ex_callSr (As := [_, _]) ok_X11_keeper (mi 2 rfl) rfl (m_reqOk hst (pk_in 7 9 (by decide)) (by decide) (by decide)) rfl rfl rfl (by decide) (Nat.le_of_ble_eq_true rfl) (by decide) ?_
  refine ex_iload_n ok_X11_keeper (mi 3 rfl) rfl ?_
  refine ex_bipush ok_X11_keeper (mi 4 rfl) ?_
  refine ex_callSr (As := [_, _]) ok_X11_keeper (mi 5 rfl) rfl (m_reqOk hst (pk_in 0 8 (by decide)) (by decide) (by decide)) rfl rfl rfl (by decide) (Nat.le_of_ble_eq_true rfl) (by decide) ?_
  refine ex_aload_n ok_X11_keeper (mi 6 rfl) rfl ?_
  refine ex_getRx ok_X11_keeper (mi 7 rfl) rfl rfl (fk f.1 0 rfl) (fr f.1 56 rfl) (fk f.1 44 rfl) (by decide) ?_
  refine ex_iload_n ok_X11_keeper (mi 8 rfl) rfl ?_
  refine ex_aaldx (n := 2) ok_X11_keeper (mi 9 rfl) (by decide) (fk f.1 44 rfl) (fn f.1 44 rfl) (pk_in 7 9 (by decide)) (fo f.2.1 10 rfl) (fk f.1 59 rfl) (by decide) ?_
  refine ex_iload_n ok_X11_keeper (mi 10 rfl) rfl ?_
  refine ex_callVr (As := [_]) (v := some (.int (nI 0))) (g1 := h) ok_X11_keeper (mi 11 rfl) rfl ?c rfl (fk f.1 59 rfl) rfl rfl (by decide) (by decide) (Nat.le_of_ble_eq_true rfl) (by decide) ?_
  case c =>
    refine ex_M_of ok_X3_tell cw_X3_tell rfl hst (Nat.le_of_ble_eq_true rfl) ?_
    refine ex_iload_n ok_X3_tell (mi 0 rfl) rfl ?_
    refine ex_tblk (tgt := 44) ok_X3_tell (mi 1 rfl) (by decide) (by decide) (by decide) (by decide) ?_
    refine ex_aload_n ok_X3_tell (mi 2 rfl) rfl ?_
    refine ex_getIx ok_X3_tell (mi 3 rfl) rfl rfl (fk f.1 59 rfl) (fi f.2.2.1 165 rfl) ?_
    refine ex_iret ok_X3_tell (mi 4 rfl) rfl ?_
    exact ⟨inlI (by decide), rfl⟩
  refine ex_iret ok_X11_keeper (mi 12 rfl) rfl ?_
  exact ⟨Or.inl ⟨rfl, inlI (by decide)⟩, kp0⟩
theorem c_keeper_7_1 {G : GE} (hst : (ge_l G).stackTraces = false) {x : Nat}  : CC G 4 4 24 my_X11_keeper x [.int (nI 7), .int (nI 1)] E3 0 ((-1)) := by
  intro h f
  refine ex_M_of ok_X11_keeper cw_X11_keeper rfl hst (Nat.le_of_ble_eq_true rfl) ?_
  refine ex_iload_n ok_X11_keeper (mi 0 rfl) rfl ?_
  refine ex_bipush ok_X11_keeper (mi 1 rfl) ?_
  refine ex_callSr (As := [_, _]) ok_X11_keeper (mi 2 rfl) rfl (m_reqOk hst (pk_in 7 9 (by decide)) (by decide) (by decide)) rfl rfl rfl (by decide) (Nat.le_of_ble_eq_true rfl) (by decide) ?_
  refine ex_iload_n ok_X11_keeper (mi 3 rfl) rfl ?_
  refine ex_bipush ok_X11_keeper (mi 4 rfl) ?_
  refine ex_callSr (As := [_, _]) ok_X11_keeper (mi 5 rfl) rfl (m_reqOk hst (pk_in 1 8 (by decide)) (by decide) (by decide)) rfl rfl rfl (by decide) (Nat.le_of_ble_eq_true rfl) (by decide) ?_
  refine ex_aload_n ok_X11_keeper (mi 6 rfl) rfl ?_
  refine ex_getRx ok_X11_keeper (mi 7 rfl) rfl rfl (fk f.1 0 rfl) (fr f.1 56 rfl) (fk f.1 44 rfl) (by decide) ?_
  refine ex_iload_n ok_X11_keeper (mi 8 rfl) rfl ?_
  refine ex_aaldx (n := 2) ok_X11_keeper (mi 9 rfl) (by decide) (fk f.1 44 rfl) (fn f.1 44 rfl) (pk_in 7 9 (by decide)) (fo f.2.1 10 rfl) (fk f.1 59 rfl) (by decide) ?_
  refine ex_iload_n ok_X11_keeper (mi 10 rfl) rfl ?_
  refine ex_callVr (As := [_]) (v := some (.int (-1))) (g1 := h) ok_X11_keeper (mi 11 rfl) rfl ?c rfl (fk f.1 59 rfl) rfl rfl (by decide) (by decide) (Nat.le_of_ble_eq_true rfl) (by decide) ?_
  case c =>
    refine ex_M_of ok_X3_tell cw_X3_tell rfl hst (Nat.le_of_ble_eq_true rfl) ?_
    refine ex_iload_n ok_X3_tell (mi 0 rfl) rfl ?_
    refine ex_tblk (tgt := 49) ok_X3_tell (mi 1 rfl) (by decide) (by decide) (by decide) (by decide) ?_
    refine ex_aload_n ok_X3_tell (mi 5 rfl) rfl ?_
    refine ex_getIx ok_X3_tell (mi 6 rfl) rfl rfl (fk f.1 59 rfl) (fi f.2.2.1 166 rfl) ?_
    refine ex_iret ok_X3_tell (mi 7 rfl) rfl ?_
    exact ⟨inlI (by decide), rfl⟩
  refine ex_iret ok_X11_keeper (mi 12 rfl) rfl ?_
  exact ⟨Or.inl ⟨rfl, inlI (by decide)⟩, kp0⟩
theorem c_keeper_7_2 {G : GE} (hst : (ge_l G).stackTraces = false) {x : Nat}  : CC G 4 4 24 my_X11_keeper x [.int (nI 7), .int (nI 2)] E3 0 (nI 0) := by
  intro h f
  refine ex_M_of ok_X11_keeper cw_X11_keeper rfl hst (Nat.le_of_ble_eq_true rfl) ?_
  refine ex_iload_n ok_X11_keeper (mi 0 rfl) rfl ?_
  refine ex_bipush ok_X11_keeper (mi 1 rfl) ?_
  refine ex_callSr (As := [_, _]) ok_X11_keeper (mi 2 rfl) rfl (m_reqOk hst (pk_in 7 9 (by decide)) (by decide) (by decide)) rfl rfl rfl (by decide) (Nat.le_of_ble_eq_true rfl) (by decide) ?_
  refine ex_iload_n ok_X11_keeper (mi 3 rfl) rfl ?_
  refine ex_bipush ok_X11_keeper (mi 4 rfl) ?_
  refine ex_callSr (As := [_, _]) ok_X11_keeper (mi 5 rfl) rfl (m_reqOk hst (pk_in 2 8 (by decide)) (by decide) (by decide)) rfl rfl rfl (by decide) (Nat.le_of_ble_eq_true rfl) (by decide) ?_
  refine ex_aload_n ok_X11_keeper (mi 6 rfl) rfl ?_
  refine ex_getRx ok_X11_keeper (mi 7 rfl) rfl rfl (fk f.1 0 rfl) (fr f.1 56 rfl) (fk f.1 44 rfl) (by decide) ?_
  refine ex_iload_n ok_X11_keeper (mi 8 rfl) rfl ?_
  refine ex_aaldx (n := 2) ok_X11_keeper (mi 9 rfl) (by decide) (fk f.1 44 rfl) (fn f.1 44 rfl) (pk_in 7 9 (by decide)) (fo f.2.1 10 rfl) (fk f.1 59 rfl) (by decide) ?_
  refine ex_iload_n ok_X11_keeper (mi 10 rfl) rfl ?_
  refine ex_callVr (As := [_]) (v := some (.int (nI 0))) (g1 := h) ok_X11_keeper (mi 11 rfl) rfl ?c rfl (fk f.1 59 rfl) rfl rfl (by decide) (by decide) (Nat.le_of_ble_eq_true rfl) (by decide) ?_
  case c =>
    refine ex_M_of ok_X3_tell cw_X3_tell rfl hst (Nat.le_of_ble_eq_true rfl) ?_
    refine ex_iload_n ok_X3_tell (mi 0 rfl) rfl ?_
    refine ex_tblk (tgt := 54) ok_X3_tell (mi 1 rfl) (by decide) (by decide) (by decide) (by decide) ?_
    refine ex_aload_n ok_X3_tell (mi 8 rfl) rfl ?_
    refine ex_getIx ok_X3_tell (mi 9 rfl) rfl rfl (fk f.1 59 rfl) (fi f.2.2.1 168 rfl) ?_
    refine ex_iret ok_X3_tell (mi 10 rfl) rfl ?_
    exact ⟨inlI (by decide), rfl⟩
  refine ex_iret ok_X11_keeper (mi 12 rfl) rfl ?_
  exact ⟨Or.inl ⟨rfl, inlI (by decide)⟩, kp0⟩
theorem c_keeper_7_3 {G : GE} (hst : (ge_l G).stackTraces = false) {x : Nat}  : CC G 4 4 24 my_X11_keeper x [.int (nI 7), .int (nI 3)] E3 0 (nI 0) := by
  intro h f
  refine ex_M_of ok_X11_keeper cw_X11_keeper rfl hst (Nat.le_of_ble_eq_true rfl) ?_
  refine ex_iload_n ok_X11_keeper (mi 0 rfl) rfl ?_
  refine ex_bipush ok_X11_keeper (mi 1 rfl) ?_
  refine ex_callSr (As := [_, _]) ok_X11_keeper (mi 2 rfl) rfl (m_reqOk hst (pk_in 7 9 (by decide)) (by decide) (by decide)) rfl rfl rfl (by decide) (Nat.le_of_ble_eq_true rfl) (by decide) ?_
  refine ex_iload_n ok_X11_keeper (mi 3 rfl) rfl ?_
  refine ex_bipush ok_X11_keeper (mi 4 rfl) ?_
  refine ex_callSr (As := [_, _]) ok_X11_keeper (mi 5 rfl) rfl (m_reqOk hst (pk_in 3 8 (by decide)) (by decide) (by decide)) rfl rfl rfl (by decide) (Nat.le_of_ble_eq_true rfl) (by decide) ?_
  refine ex_aload_n ok_X11_keeper (mi 6 rfl) rfl ?_
  refine ex_getRx ok_X11_keeper (mi 7 rfl) rfl rfl (fk f.1 0 rfl) (fr f.1 56 rfl) (fk f.1 44 rfl) (by decide) ?_
  refine ex_iload_n ok_X11_keeper (mi 8 rfl) rfl ?_
  refine ex_aaldx (n := 2) ok_X11_keeper (mi 9 rfl) (by decide) (fk f.1 44 rfl) (fn f.1 44 rfl) (pk_in 7 9 (by decide)) (fo f.2.1 10 rfl) (fk f.1 59 rfl) (by decide) ?_
  refine ex_iload_n ok_X11_keeper (mi 10 rfl) rfl ?_
  refine ex_callVr (As := [_]) (v := some (.int (nI 0))) (g1 := h) ok_X11_keeper (mi 11 rfl) rfl ?c rfl (fk f.1 59 rfl) rfl rfl (by decide) (by decide) (Nat.le_of_ble_eq_true rfl) (by decide) ?_
  case c =>
    refine ex_M_of ok_X3_tell cw_X3_tell rfl hst (Nat.le_of_ble_eq_true rfl) ?_
    refine ex_iload_n ok_X3_tell (mi 0 rfl) rfl ?_
    refine ex_tblk (tgt := 59) ok_X3_tell (mi 1 rfl) (by decide) (by decide) (by decide) (by decide) ?_
    refine ex_aload_n ok_X3_tell (mi 11 rfl) rfl ?_
    refine ex_getRx ok_X3_tell (mi 12 rfl) rfl rfl (fk f.1 59 rfl) (fr f.1 78 rfl) (fk f.1 60 rfl) (by decide) ?_
    refine ex_callSr (As := [_]) ok_X3_tell (mi 13 rfl) rfl (m_X7_size0 hst (sh_sub 864 f.1 (by decide +kernel) (by decide +kernel)) (tA_sub 864 10 (nI 0) f.2.2.2.1 (by decide +kernel))) rfl rfl rfl (by decide) (Nat.le_of_ble_eq_true rfl) (by decide) ?_
    refine ex_iret ok_X3_tell (mi 14 rfl) rfl ?_
    exact ⟨inlI (by decide), rfl⟩
  refine ex_iret ok_X11_keeper (mi 12 rfl) rfl ?_
  exact ⟨Or.inl ⟨rfl, inlI (by decide)⟩, kp0⟩
theorem c_keeper_7_4 {G : GE} (hst : (ge_l G).stackTraces = false) {x : Nat}  : CC G 4 4 24 my_X11_keeper x [.int (nI 7), .int (nI 4)] E3 0 ((-1)) := by
  intro h f
  refine ex_M_of ok_X11_keeper cw_X11_keeper rfl hst (Nat.le_of_ble_eq_true rfl) ?_
  refine ex_iload_n ok_X11_keeper (mi 0 rfl) rfl ?_
  refine ex_bipush ok_X11_keeper (mi 1 rfl) ?_
  refine ex_callSr (As := [_, _]) ok_X11_keeper (mi 2 rfl) rfl (m_reqOk hst (pk_in 7 9 (by decide)) (by decide) (by decide)) rfl rfl rfl (by decide) (Nat.le_of_ble_eq_true rfl) (by decide) ?_
  refine ex_iload_n ok_X11_keeper (mi 3 rfl) rfl ?_
  refine ex_bipush ok_X11_keeper (mi 4 rfl) ?_
  refine ex_callSr (As := [_, _]) ok_X11_keeper (mi 5 rfl) rfl (m_reqOk hst (pk_in 4 8 (by decide)) (by decide) (by decide)) rfl rfl rfl (by decide) (Nat.le_of_ble_eq_true rfl) (by decide) ?_
  refine ex_aload_n ok_X11_keeper (mi 6 rfl) rfl ?_
  refine ex_getRx ok_X11_keeper (mi 7 rfl) rfl rfl (fk f.1 0 rfl) (fr f.1 56 rfl) (fk f.1 44 rfl) (by decide) ?_
  refine ex_iload_n ok_X11_keeper (mi 8 rfl) rfl ?_
  refine ex_aaldx (n := 2) ok_X11_keeper (mi 9 rfl) (by decide) (fk f.1 44 rfl) (fn f.1 44 rfl) (pk_in 7 9 (by decide)) (fo f.2.1 10 rfl) (fk f.1 59 rfl) (by decide) ?_
  refine ex_iload_n ok_X11_keeper (mi 10 rfl) rfl ?_
  refine ex_callVr (As := [_]) (v := some (.int (-1))) (g1 := h) ok_X11_keeper (mi 11 rfl) rfl ?c rfl (fk f.1 59 rfl) rfl rfl (by decide) (by decide) (Nat.le_of_ble_eq_true rfl) (by decide) ?_
  case c =>
    refine ex_M_of ok_X3_tell cw_X3_tell rfl hst (Nat.le_of_ble_eq_true rfl) ?_
    refine ex_iload_n ok_X3_tell (mi 0 rfl) rfl ?_
    refine ex_tblk (tgt := 67) ok_X3_tell (mi 1 rfl) (by decide) (by decide) (by decide) (by decide) ?_
    refine ex_aload_n ok_X3_tell (mi 15 rfl) rfl ?_
    refine ex_getIx ok_X3_tell (mi 16 rfl) rfl rfl (fk f.1 59 rfl) (fi f.2.2.1 169 rfl) ?_
    refine ex_iret ok_X3_tell (mi 17 rfl) rfl ?_
    exact ⟨inlI (by decide), rfl⟩
  refine ex_iret ok_X11_keeper (mi 12 rfl) rfl ?_
  exact ⟨Or.inl ⟨rfl, inlI (by decide)⟩, kp0⟩
theorem c_keeper_7_5 {G : GE} (hst : (ge_l G).stackTraces = false) {x : Nat}  : CC G 4 4 24 my_X11_keeper x [.int (nI 7), .int (nI 5)] E3 0 ((-1)) := by
  intro h f
  refine ex_M_of ok_X11_keeper cw_X11_keeper rfl hst (Nat.le_of_ble_eq_true rfl) ?_
  refine ex_iload_n ok_X11_keeper (mi 0 rfl) rfl ?_
  refine ex_bipush ok_X11_keeper (mi 1 rfl) ?_
  refine ex_callSr (As := [_, _]) ok_X11_keeper (mi 2 rfl) rfl (m_reqOk hst (pk_in 7 9 (by decide)) (by decide) (by decide)) rfl rfl rfl (by decide) (Nat.le_of_ble_eq_true rfl) (by decide) ?_
  refine ex_iload_n ok_X11_keeper (mi 3 rfl) rfl ?_
  refine ex_bipush ok_X11_keeper (mi 4 rfl) ?_
  refine ex_callSr (As := [_, _]) ok_X11_keeper (mi 5 rfl) rfl (m_reqOk hst (pk_in 5 8 (by decide)) (by decide) (by decide)) rfl rfl rfl (by decide) (Nat.le_of_ble_eq_true rfl) (by decide) ?_
  refine ex_aload_n ok_X11_keeper (mi 6 rfl) rfl ?_
  refine ex_getRx ok_X11_keeper (mi 7 rfl) rfl rfl (fk f.1 0 rfl) (fr f.1 56 rfl) (fk f.1 44 rfl) (by decide) ?_
  refine ex_iload_n ok_X11_keeper (mi 8 rfl) rfl ?_
  refine ex_aaldx (n := 2) ok_X11_keeper (mi 9 rfl) (by decide) (fk f.1 44 rfl) (fn f.1 44 rfl) (pk_in 7 9 (by decide)) (fo f.2.1 10 rfl) (fk f.1 59 rfl) (by decide) ?_
  refine ex_iload_n ok_X11_keeper (mi 10 rfl) rfl ?_
  refine ex_callVr (As := [_]) (v := some (.int (-1))) (g1 := h) ok_X11_keeper (mi 11 rfl) rfl ?c rfl (fk f.1 59 rfl) rfl rfl (by decide) (by decide) (Nat.le_of_ble_eq_true rfl) (by decide) ?_
  case c =>
    refine ex_M_of ok_X3_tell cw_X3_tell rfl hst (Nat.le_of_ble_eq_true rfl) ?_
    refine ex_iload_n ok_X3_tell (mi 0 rfl) rfl ?_
    refine ex_tblk (tgt := 72) ok_X3_tell (mi 1 rfl) (by decide) (by decide) (by decide) (by decide) ?_
    refine ex_aload_n ok_X3_tell (mi 18 rfl) rfl ?_
    refine ex_getIx ok_X3_tell (mi 19 rfl) rfl rfl (fk f.1 59 rfl) (fi f.2.2.1 170 rfl) ?_
    refine ex_iret ok_X3_tell (mi 20 rfl) rfl ?_
    exact ⟨inlI (by decide), rfl⟩
  refine ex_iret ok_X11_keeper (mi 12 rfl) rfl ?_
  exact ⟨Or.inl ⟨rfl, inlI (by decide)⟩, kp0⟩
theorem c_keeper_7_6 {G : GE} (hst : (ge_l G).stackTraces = false) {x : Nat}  : CC G 4 4 24 my_X11_keeper x [.int (nI 7), .int (nI 6)] E3 0 (nI 0) := by
  intro h f
  refine ex_M_of ok_X11_keeper cw_X11_keeper rfl hst (Nat.le_of_ble_eq_true rfl) ?_
  refine ex_iload_n ok_X11_keeper (mi 0 rfl) rfl ?_
  refine ex_bipush ok_X11_keeper (mi 1 rfl) ?_
  refine ex_callSr (As := [_, _]) ok_X11_keeper (mi 2 rfl) rfl (m_reqOk hst (pk_in 7 9 (by decide)) (by decide) (by decide)) rfl rfl rfl (by decide) (Nat.le_of_ble_eq_true rfl) (by decide) ?_
  refine ex_iload_n ok_X11_keeper (mi 3 rfl) rfl ?_
  refine ex_bipush ok_X11_keeper (mi 4 rfl) ?_
  refine ex_callSr (As := [_, _]) ok_X11_keeper (mi 5 rfl) rfl (m_reqOk hst (pk_in 6 8 (by decide)) (by decide) (by decide)) rfl rfl rfl (by decide) (Nat.le_of_ble_eq_true rfl) (by decide) ?_
  refine ex_aload_n ok_X11_keeper (mi 6 rfl) rfl ?_
  refine ex_getRx ok_X11_keeper (mi 7 rfl) rfl rfl (fk f.1 0 rfl) (fr f.1 56 rfl) (fk f.1 44 rfl) (by decide) ?_
  refine ex_iload_n ok_X11_keeper (mi 8 rfl) rfl ?_
  refine ex_aaldx (n := 2) ok_X11_keeper (mi 9 rfl) (by decide) (fk f.1 44 rfl) (fn f.1 44 rfl) (pk_in 7 9 (by decide)) (fo f.2.1 10 rfl) (fk f.1 59 rfl) (by decide) ?_
  refine ex_iload_n ok_X11_keeper (mi 10 rfl) rfl ?_
  refine ex_callVr (As := [_]) (v := some (.int (nI 0))) (g1 := h) ok_X11_keeper (mi 11 rfl) rfl ?c rfl (fk f.1 59 rfl) rfl rfl (by decide) (by decide) (Nat.le_of_ble_eq_true rfl) (by decide) ?_
  case c =>
    refine ex_M_of ok_X3_tell cw_X3_tell rfl hst (Nat.le_of_ble_eq_true rfl) ?_
    refine ex_iload_n ok_X3_tell (mi 0 rfl) rfl ?_
    refine ex_tblk (tgt := 77) ok_X3_tell (mi 1 rfl) (by decide) (by decide) (by decide) (by decide) ?_
    refine ex_aload_n ok_X3_tell (mi 21 rfl) rfl ?_
    refine ex_getIx ok_X3_tell (mi 22 rfl) rfl rfl (fk f.1 59 rfl) (fi f.2.2.1 171 rfl) ?_
    refine ex_iret ok_X3_tell (mi 23 rfl) rfl ?_
    exact ⟨inlI (by decide), rfl⟩
  refine ex_iret ok_X11_keeper (mi 12 rfl) rfl ?_
  exact ⟨Or.inl ⟨rfl, inlI (by decide)⟩, kp0⟩
theorem c_keeper_7_7 {G : GE} (hst : (ge_l G).stackTraces = false) {x : Nat}  : CC G 4 4 24 my_X11_keeper x [.int (nI 7), .int (nI 7)] E3 0 (nI 0) := by
  intro h f
  refine ex_M_of ok_X11_keeper cw_X11_keeper rfl hst (Nat.le_of_ble_eq_true rfl) ?_
  refine ex_iload_n ok_X11_keeper (mi 0 rfl) rfl ?_
  refine ex_bipush ok_X11_keeper (mi 1 rfl) ?_
  refine ex_callSr (As := [_, _]) ok_X11_keeper (mi 2 rfl) rfl (m_reqOk hst (pk_in 7 9 (by decide)) (by decide) (by decide)) rfl rfl rfl (by decide) (Nat.le_of_ble_eq_true rfl) (by decide) ?_
  refine ex_iload_n ok_X11_keeper (mi 3 rfl) rfl ?_
  refine ex_bipush ok_X11_keeper (mi 4 rfl) ?_
  refine ex_callSr (As := [_, _]) ok_X11_keeper (mi 5 rfl) rfl (m_reqOk hst (pk_in 7 8 (by decide)) (by decide) (by decide)) rfl rfl rfl (by decide) (Nat.le_of_ble_eq_true rfl) (by decide) ?_
  refine ex_aload_n ok_X11_keeper (mi 6 rfl) rfl ?_
  refine ex_getRx ok_X11_keeper (mi 7 rfl) rfl rfl (fk f.1 0 rfl) (fr f.1 56 rfl) (fk f.1 44 rfl) (by decide) ?_
  refine ex_iload_n ok_X11_keeper (mi 8 rfl) rfl ?_
  refine ex_aaldx (n := 2) ok_X11_keeper (mi 9 rfl) (by decide) (fk f.1 44 rfl) (fn f.1 44 rfl) (pk_in 7 9 (by decide)) (fo f.2.1 10 rfl) (fk f.1 59 rfl) (by decide) ?_
  refine ex_iload_n ok_X11_keeper (mi 10 rfl) rfl ?_
  refine ex_callVr (As := [_]) (v := some (.int (nI 0))) (g1 := h) ok_X11_keeper (mi 11 rfl) rfl ?c rfl (fk f.1 59 rfl) rfl rfl (by decide) (by decide) (Nat.le_of_ble_eq_true rfl) (by decide) ?_
  case c =>
    refine ex_M_of ok_X3_tell cw_X3_tell rfl hst (Nat.le_of_ble_eq_true rfl) ?_
    refine ex_iload_n ok_X3_tell (mi 0 rfl) rfl ?_
    refine ex_tblk (tgt := 82) ok_X3_tell (mi 1 rfl) (by decide) (by decide) (by decide) (by decide) ?_
    refine ex_aload_n ok_X3_tell (mi 24 rfl) rfl ?_
    refine ex_getIx ok_X3_tell (mi 25 rfl) rfl rfl (fk f.1 59 rfl) (fi f.2.2.1 172 rfl) ?_
    refine ex_iret ok_X3_tell (mi 26 rfl) rfl ?_
    exact ⟨inlI (by decide), rfl⟩
  refine ex_iret ok_X11_keeper (mi 12 rfl) rfl ?_
  exact ⟨Or.inl ⟨rfl, inlI (by decide)⟩, kp0⟩
theorem c_entry_7 {G : GE} (hst : (ge_l G).stackTraces = false) {x : Nat} {p1 p2 : Int32} : CC G 3 4 24 my_X11_entry x [.int (nI 7), .int p1, .int p2] E3 1 (nI 0) := by
  intro h f
  refine ex_M_of ok_X11_entry cw_X11_entry rfl hst (Nat.le_of_ble_eq_true rfl) ?_
  refine ex_iload_n ok_X11_entry (mi 0 rfl) rfl ?_
  refine ex_bipush ok_X11_entry (mi 1 rfl) ?_
  refine ex_callSr (As := [_, _]) ok_X11_entry (mi 2 rfl) rfl (m_reqOk hst (pk_in 7 9 (by decide)) (by decide) (by decide)) rfl rfl rfl (by decide) (Nat.le_of_ble_eq_true rfl) (by decide) ?_
  refine ex_aload_n ok_X11_entry (mi 3 rfl) rfl ?_
  refine ex_getRx ok_X11_entry (mi 4 rfl) rfl rfl (fk f.1 0 rfl) (fr f.1 56 rfl) (fk f.1 44 rfl) (by decide) ?_
  refine ex_iload_n ok_X11_entry (mi 5 rfl) rfl ?_
  refine ex_aaldx (n := 2) ok_X11_entry (mi 6 rfl) (by decide) (fk f.1 44 rfl) (fn f.1 44 rfl) (pk_in 7 9 (by decide)) (fo f.2.1 10 rfl) (fk f.1 59 rfl) (by decide) ?_
  refine ex_getRx ok_X11_entry (mi 7 rfl) rfl rfl (fk f.1 59 rfl) (fr f.1 78 rfl) (fk f.1 60 rfl) (by decide) ?_
  refine ex_iload_n ok_X11_entry (mi 8 rfl) rfl ?_
  refine ex_callSr (As := [_, _]) ok_X11_entry (mi 9 rfl) rfl (m_at0 hst (sh_sub 864 f.1 (by decide +kernel) (by decide +kernel)) (tA_sub 864 10 (nI 0) f.2.2.2.1 (by decide +kernel))) rfl rfl rfl (by decide) (Nat.le_of_ble_eq_true rfl) (by decide) ?_
  refine ex_istore ok_X11_entry (mi 10 rfl) ?_
  refine ex_iload ok_X11_entry (mi 11 rfl) rfl ?_
  refine ex_sipush ok_X11_entry (mi 12 rfl) ?_
  refine ex_callSt (e := 100) (As := [_, _]) ok_X11_entry (mi 13 rfl) rfl (m_reqBad (m := 300) hst (by unfold vp_in; decide) (by decide) (by decide)) rfl rfl rfl (by decide) (Nat.le_of_ble_eq_true rfl) (by decide) (fun n hn => ?_)
  exact ⟨Or.inr ⟨by decide, rfl⟩, kpZ kp0 hn⟩
theorem c_keeper_8_0 {G : GE} (hst : (ge_l G).stackTraces = false) {x : Nat}  : CC G 4 4 24 my_X11_keeper x [.int (nI 8), .int (nI 0)] E3 0 (nI 0) := by
  intro h f
  refine ex_M_of ok_X11_keeper cw_X11_keeper rfl hst (Nat.le_of_ble_eq_true rfl) ?_
  refine ex_iload_n ok_X11_keeper (mi 0 rfl) rfl ?_
  refine ex_bipush ok_X11_keeper (mi 1 rfl) ?_
  refine ex_callSr (As := [_, _]) ok_X11_keeper (mi 2 rfl) rfl (m_reqOk hst (pk_in 8 9 (by decide)) (by decide) (by decide)) rfl rfl rfl (by decide) (Nat.le_of_ble_eq_true rfl) (by decide) ?_
  refine ex_iload_n ok_X11_keeper (mi 3 rfl) rfl ?_
  refine ex_bipush ok_X11_keeper (mi 4 rfl) ?_
  refine ex_callSr (As := [_, _]) ok_X11_keeper (mi 5 rfl) rfl (m_reqOk hst (pk_in 0 8 (by decide)) (by decide) (by decide)) rfl rfl rfl (by decide) (Nat.le_of_ble_eq_true rfl) (by decide) ?_
  refine ex_aload_n ok_X11_keeper (mi 6 rfl) rfl ?_
  refine ex_getRx ok_X11_keeper (mi 7 rfl) rfl rfl (fk f.1 0 rfl) (fr f.1 56 rfl) (fk f.1 44 rfl) (by decide) ?_
  refine ex_iload_n ok_X11_keeper (mi 8 rfl) rfl ?_
  refine ex_aaldx (n := 2) ok_X11_keeper (mi 9 rfl) (by decide) (fk f.1 44 rfl) (fn f.1 44 rfl) (pk_in 8 9 (by decide)) (fo f.2.1 11 rfl) (fk f.1 61 rfl) (by decide) ?_
  refine ex_iload_n ok_X11_keeper (mi 10 rfl) rfl ?_
  refine ex_callVr (As := [_]) (v := some (.int (nI 0))) (g1 := h) ok_X11_keeper (mi 11 rfl) rfl ?c rfl (fk f.1 61 rfl) rfl rfl (by decide) (by decide) (Nat.le_of_ble_eq_true rfl) (by decide) ?_
  case c =>
    refine ex_M_of ok_X3_tell cw_X3_tell rfl hst (Nat.le_of_ble_eq_true rfl) ?_
    refine ex_iload_n ok_X3_tell (mi 0 rfl) rfl ?_
    refine ex_tblk (tgt := 44) ok_X3_tell (mi 1 rfl) (by decide) (by decide) (by decide) (by decide) ?_
    refine ex_aload_n ok_X3_tell (mi 2 rfl) rfl ?_
    refine ex_getIx ok_X3_tell (mi 3 rfl) rfl rfl (fk f.1 61 rfl) (fi f.2.2.1 173 rfl) ?_
    refine ex_iret ok_X3_tell (mi 4 rfl) rfl ?_
    exact ⟨inlI (by decide), rfl⟩
  refine ex_iret ok_X11_keeper (mi 12 rfl) rfl ?_
  exact ⟨Or.inl ⟨rfl, inlI (by decide)⟩, kp0⟩
theorem c_keeper_8_1 {G : GE} (hst : (ge_l G).stackTraces = false) {x : Nat}  : CC G 4 4 24 my_X11_keeper x [.int (nI 8), .int (nI 1)] E3 0 ((-1)) := by
  intro h f
  refine ex_M_of ok_X11_keeper cw_X11_keeper rfl hst (Nat.le_of_ble_eq_true rfl) ?_
  refine ex_iload_n ok_X11_keeper (mi 0 rfl) rfl ?_
  refine ex_bipush ok_X11_keeper (mi 1 rfl) ?_
  refine ex_callSr (As := [_, _]) ok_X11_keeper (mi 2 rfl) rfl (m_reqOk hst (pk_in 8 9 (by decide)) (by decide) (by decide)) rfl rfl rfl (by decide) (Nat.le_of_ble_eq_true rfl) (by decide) ?_
  refine ex_iload_n ok_X11_keeper (mi 3 rfl) rfl ?_
  refine ex_bipush ok_X11_keeper (mi 4 rfl) ?_
  refine ex_callSr (As := [_, _]) ok_X11_keeper (mi 5 rfl) rfl (m_reqOk hst (pk_in 1 8 (by decide)) (by decide) (by decide)) rfl rfl rfl (by decide) (Nat.le_of_ble_eq_true rfl) (by decide) ?_
  refine ex_aload_n ok_X11_keeper (mi 6 rfl) rfl ?_
  refine ex_getRx ok_X11_keeper (mi 7 rfl) rfl rfl (fk f.1 0 rfl) (fr f.1 56 rfl) (fk f.1 44 rfl) (by decide) ?_
  refine ex_iload_n ok_X11_keeper (mi 8 rfl) rfl ?_
  refine ex_aaldx (n := 2) ok_X11_keeper (mi 9 rfl) (by decide) (fk f.1 44 rfl) (fn f.1 44 rfl) (pk_in 8 9 (by decide)) (fo f.2.1 11 rfl) (fk f.1 61 rfl) (by decide) ?_
  refine ex_iload_n ok_X11_keeper (mi 10 rfl) rfl ?_
  refine ex_callVr (As := [_]) (v := some (.int (-1))) (g1 := h) ok_X11_keeper (mi 11 rfl) rfl ?c rfl (fk f.1 61 rfl) rfl rfl (by decide) (by decide) (Nat.le_of_ble_eq_true rfl) (by decide) ?_
  case c =>
    refine ex_M_of ok_X3_tell cw_X3_tell rfl hst (Nat.le_of_ble_eq_true rfl) ?_
    refine ex_iload_n ok_X3_tell (mi 0 rfl) rfl ?_
    refine ex_tblk (tgt := 49) ok_X3_tell (mi 1 rfl) (by decide) (by decide) (by decide) (by decide) ?_
    refine ex_aload_n ok_X3_tell (mi 5 rfl) rfl ?_
    refine ex_getIx ok_X3_tell (mi 6 rfl) rfl rfl (fk f.1 61 rfl) (fi f.2.2.1 174 rfl) ?_
    refine ex_iret ok_X3_tell (mi 7 rfl) rfl ?_
    exact ⟨inlI (by decide), rfl⟩
  refine ex_iret ok_X11_keeper (mi 12 rfl) rfl ?_
  exact ⟨Or.inl ⟨rfl, inlI (by decide)⟩, kp0⟩
theorem c_keeper_8_2 {G : GE} (hst : (ge_l G).stackTraces = false) {x : Nat}  : CC G 4 4 24 my_X11_keeper x [.int (nI 8), .int (nI 2)] E3 0 (nI 0) := by
  intro h f
  refine ex_M_of ok_X11_keeper cw_X11_keeper rfl hst (Nat.le_of_ble_eq_true rfl) ?_
  refine ex_iload_n ok_X11_keeper (mi 0 rfl) rfl ?_
  refine ex_bipush ok_X11_keeper (mi 1 rfl) ?_
  refine ex_callSr (As := [_, _]) ok_X11_keeper (mi 2 rfl) rfl (m_reqOk hst (pk_in 8 9 (by decide)) (by decide) (by decide)) rfl rfl rfl (by decide) (Nat.le_of_ble_eq_true rfl) (by decide) ?_
  refine ex_iload_n ok_X11_keeper (mi 3 rfl) rfl ?_
  refine ex_bipush ok_X11_keeper (mi 4 rfl) ?_
  refine ex_callSr (As := [_, _]) ok_X11_keeper (mi 5 rfl) rfl (m_reqOk hst (pk_in 2 8 (by decide)) (by decide) (by decide)) rfl rfl rfl (by decide) (Nat.le_of_ble_eq_true rfl) (by decide) ?_
  refine ex_aload_n ok_X11_keeper (mi 6 rfl) rfl ?_
  refine ex_getRx ok_X11_keeper (mi 7 rfl) rfl rfl (fk f.1 0 rfl) (fr f.1 56 rfl) (fk f.1 44 rfl) (by decide) ?_
  refine ex_iload_n ok_X11_keeper (mi 8 rfl) rfl ?_
  refine ex_aaldx (n := 2) ok_X11_keeper (mi 9 rfl) (by decide) (fk f.1 44 rfl) (fn f.1 44 rfl) (pk_in 8 9 (by decide)) (fo f.2.1 11 rfl) (fk f.1 61 rfl) (by decide) ?_
  refine ex_iload_n ok_X11_keeper (mi 10 rfl) rfl ?_
  refine ex_callVr (As := [_]) (v := some (.int (nI 0))) (g1 := h) ok_X11_keeper (mi 11 rfl) rfl ?c rfl (fk f.1 61 rfl) rfl rfl (by decide) (by decide) (Nat.le_of_ble_eq_true rfl) (by decide) ?_
  case c =>
    refine ex_M_of ok_X3_tell cw_X3_tell rfl hst (Nat.le_of_ble_eq_true rfl) ?_
    refine ex_iload_n ok_X3_tell (mi 0 rfl) rfl ?_
    refine ex_tblk (tgt := 54) ok_X3_tell (mi 1 rfl) (by decide) (by decide) (by decide) (by decide) ?_
    refine ex_aload_n ok_X3_tell (mi 8 rfl) rfl ?_
    refine ex_getIx ok_X3_tell (mi 9 rfl) rfl rfl (fk f.1 61 rfl) (fi f.2.2.1 176 rfl) ?_
    refine ex_iret ok_X3_tell (mi 10 rfl) rfl ?_
    exact ⟨inlI (by decide), rfl⟩
  refine ex_iret ok_X11_keeper (mi 12 rfl) rfl ?_
  exact ⟨Or.inl ⟨rfl, inlI (by decide)⟩, kp0⟩
theorem c_keeper_8_3 {G : GE} (hst : (ge_l G).stackTraces = false) {x : Nat}  : CC G 4 4 24 my_X11_keeper x [.int (nI 8), .int (nI 3)] E3 0 (nI 0) := by
  intro h f
  refine ex_M_of ok_X11_keeper cw_X11_keeper rfl hst (Nat.le_of_ble_eq_true rfl) ?_
  refine ex_iload_n ok_X11_keeper (mi 0 rfl) rfl ?_
  refine ex_bipush ok_X11_keeper (mi 1 rfl) ?_
  refine ex_callSr (As := [_, _]) ok_X11_keeper (mi 2 rfl) rfl (m_reqOk hst (pk_in 8 9 (by decide)) (by decide) (by decide)) rfl rfl rfl (by decide) (Nat.le_of_ble_eq_true rfl) (by decide) ?_
  refine ex_iload_n ok_X11_keeper (mi 3 rfl) rfl ?_
  refine ex_bipush ok_X11_keeper (mi 4 rfl) ?_
  refine ex_callSr (As := [_, _]) ok_X11_keeper (mi 5 rfl) rfl (m_reqOk hst (pk_in 3 8 (by decide)) (by decide) (by decide)) rfl rfl rfl (by decide) (Nat.le_of_ble_eq_true rfl) (by decide) ?_
  refine ex_aload_n ok_X11_keeper (mi 6 rfl) rfl ?_
  refine ex_getRx ok_X11_keeper (mi 7 rfl) rfl rfl (fk f.1 0 rfl) (fr f.1 56 rfl) (fk f.1 44 rfl) (by decide) ?_
  refine ex_iload_n ok_X11_keeper (mi 8 rfl) rfl ?_
  refine ex_aaldx (n := 2) ok_X11_keeper (mi 9 rfl) (by decide) (fk f.1 44 rfl) (fn f.1 44 rfl) (pk_in 8 9 (by decide)) (fo f.2.1 11 rfl) (fk f.1 61 rfl) (by decide) ?_
  refine ex_iload_n ok_X11_keeper (mi 10 rfl) rfl ?_
  refine ex_callVr (As := [_]) (v := some (.int (nI 0))) (g1 := h) ok_X11_keeper (mi 11 rfl) rfl ?c rfl (fk f.1 61 rfl) rfl rfl (by decide) (by decide) (Nat.le_of_ble_eq_true rfl) (by decide) ?_
  case c =>
    refine ex_M_of ok_X3_tell cw_X3_tell rfl hst (Nat.le_of_ble_eq_true rfl) ?_
    refine ex_iload_n ok_X3_tell (mi 0 rfl) rfl ?_
    refine ex_tblk (tgt := 59) ok_X3_tell (mi 1 rfl) (by decide) (by decide) (by decide) (by decide) ?_
    refine ex_aload_n ok_X3_tell (mi 11 rfl) rfl ?_
    refine ex_getRx ok_X3_tell (mi 12 rfl) rfl rfl (fk f.1 61 rfl) (fr f.1 81 rfl) (fk f.1 62 rfl) (by decide) ?_
    refine ex_callSr (As := [_]) ok_X3_tell (mi 13 rfl) rfl (m_X7_size0 hst (sh_sub 866 f.1 (by decide +kernel) (by decide +kernel)) (tA_sub 866 10 (nI 0) f.2.2.2.1 (by decide +kernel))) rfl rfl rfl (by decide) (Nat.le_of_ble_eq_true rfl) (by decide) ?_
    refine ex_iret ok_X3_tell (mi 14 rfl) rfl ?_
    exact ⟨inlI (by decide), rfl⟩
  refine ex_iret ok_X11_keeper (mi 12 rfl) rfl ?_
  exact ⟨Or.inl ⟨rfl, inlI (by decide)⟩, kp0⟩
theorem c_keeper_8_4 {G : GE} (hst : (ge_l G).stackTraces = false) {x : Nat}  : CC G 4 4 24 my_X11_keeper x [.int (nI 8), .int (nI 4)] E3 0 ((-1)) := by
  intro h f
  refine ex_M_of ok_X11_keeper cw_X11_keeper rfl hst (Nat.le_of_ble_eq_true rfl) ?_
  refine ex_iload_n ok_X11_keeper (mi 0 rfl) rfl ?_
  refine ex_bipush ok_X11_keeper (mi 1 rfl) ?_
  refine ex_callSr (As := [_, _]) ok_X11_keeper (mi 2 rfl) rfl (m_reqOk hst (pk_in 8 9 (by decide)) (by decide) (by decide)) rfl rfl rfl (by decide) (Nat.le_of_ble_eq_true rfl) (by decide) ?_
  refine ex_iload_n ok_X11_keeper (mi 3 rfl) rfl ?_
  refine ex_bipush ok_X11_keeper (mi 4 rfl) ?_
  refine ex_callSr (As := [_, _]) ok_X11_keeper (mi 5 rfl) rfl (m_reqOk hst (pk_in 4 8 (by decide)) (by decide) (by decide)) rfl rfl rfl (by decide) (Nat.le_of_ble_eq_true rfl) (by decide) ?_
  refine ex_aload_n ok_X11_keeper (mi 6 rfl) rfl ?_
  refine ex_getRx ok_X11_keeper (mi 7 rfl) rfl rfl (fk f.1 0 rfl) (fr f.1 56 rfl) (fk f.1 44 rfl) (by decide) ?_
  refine ex_iload_n ok_X11_keeper (mi 8 rfl) rfl ?_
  refine ex_aaldx (n := 2) ok_X11_keeper (mi 9 rfl) (by decide) (fk f.1 44 rfl) (fn f.1 44 rfl) (pk_in 8 9 (by decide)) (fo f.2.1 11 rfl) (fk f.1 61 rfl) (by decide) ?_
  refine ex_iload_n ok_X11_keeper (mi 10 rfl) rfl ?_
  refine ex_callVr (As := [_]) (v := some (.int (-1))) (g1 := h) ok_X11_keeper (mi 11 rfl) rfl ?c rfl (fk f.1 61 rfl) rfl rfl (by decide) (by decide) (Nat.le_of_ble_eq_true rfl) (by decide) ?_
  case c =>
    refine ex_M_of ok_X3_tell cw_X3_tell rfl hst (Nat.le_of_ble_eq_true rfl) ?_
    refine ex_iload_n ok_X3_tell (mi 0 rfl) rfl ?_
    refine ex_tblk (tgt := 67) ok_X3_tell (mi 1 rfl) (by decide) (by decide) (by decide) (by decide) ?_
    refine ex_aload_n ok_X3_tell (mi 15 rfl) rfl ?_
    refine ex_getIx ok_X3_tell (mi 16 rfl) rfl rfl (fk f.1 61 rfl) (fi f.2.2.1 177 rfl) ?_
    refine ex_iret ok_X3_tell (mi 17 rfl) rfl ?_
    exact ⟨inlI (by decide), rfl⟩
  refine ex_iret ok_X11_keeper (mi 12 rfl) rfl ?_
  exact ⟨Or.inl ⟨rfl, inlI (by decide)⟩, kp0⟩
theorem c_keeper_8_5 {G : GE} (hst : (ge_l G).stackTraces = false) {x : Nat}  : CC G 4 4 24 my_X11_keeper x [.int (nI 8), .int (nI 5)] E3 0 ((-1)) := by
  intro h f
  refine ex_M_of ok_X11_keeper cw_X11_keeper rfl hst (Nat.le_of_ble_eq_true rfl) ?_
  refine ex_iload_n ok_X11_keeper (mi 0 rfl) rfl ?_
  refine ex_bipush ok_X11_keeper (mi 1 rfl) ?_
  refine ex_callSr (As := [_, _]) ok_X11_keeper (mi 2 rfl) rfl (m_reqOk hst (pk_in 8 9 (by decide)) (by decide) (by decide)) rfl rfl rfl (by decide) (Nat.le_of_ble_eq_true rfl) (by decide) ?_
  refine ex_iload_n ok_X11_keeper (mi 3 rfl) rfl ?_
  refine ex_bipush ok_X11_keeper (mi 4 rfl) ?_
  refine ex_callSr (As := [_, _]) ok_X11_keeper (mi 5 rfl) rfl (m_reqOk hst (pk_in 5 8 (by decide)) (by decide) (by decide)) rfl rfl rfl (by decide) (Nat.le_of_ble_eq_true rfl) (by decide) ?_
  refine ex_aload_n ok_X11_keeper (mi 6 rfl) rfl ?_
  refine ex_getRx ok_X11_keeper (mi 7 rfl) rfl rfl (fk f.1 0 rfl) (fr f.1 56 rfl) (fk f.1 44 rfl) (by decide) ?_
  refine ex_iload_n ok_X11_keeper (mi 8 rfl) rfl ?_
  refine ex_aaldx (n := 2) ok_X11_keeper (mi 9 rfl) (by decide) (fk f.1 44 rfl) (fn f.1 44 rfl) (pk_in 8 9 (by decide)) (fo f.2.1 11 rfl) (fk f.1 61 rfl) (by decide) ?_
  refine ex_iload_n ok_X11_keeper (mi 10 rfl) rfl ?_
  refine ex_callVr (As := [_]) (v := some (.int (-1))) (g1 := h) ok_X11_keeper (mi 11 rfl) rfl ?c rfl (fk f.1 61 rfl) rfl rfl (by decide) (by decide) (Nat.le_of_ble_eq_true rfl) (by decide) ?_
  case c =>
    refine ex_M_of ok_X3_tell cw_X3_tell rfl hst (Nat.le_of_ble_eq_true rfl) ?_
    refine ex_iload_n ok_X3_tell (mi 0 rfl) rfl ?_
    refine ex_tblk (tgt := 72) ok_X3_tell (mi 1 rfl) (by decide) (by decide) (by decide) (by decide) ?_
    refine ex_aload_n ok_X3_tell (mi 18 rfl) rfl ?_
    refine ex_getIx ok_X3_tell (mi 19 rfl) rfl rfl (fk f.1 61 rfl) (fi f.2.2.1 178 rfl) ?_
    refine ex_iret ok_X3_tell (mi 20 rfl) rfl ?_
    exact ⟨inlI (by decide), rfl⟩
  refine ex_iret ok_X11_keeper (mi 12 rfl) rfl ?_
  exact ⟨Or.inl ⟨rfl, inlI (by decide)⟩, kp0⟩
theorem c_keeper_8_6 {G : GE} (hst : (ge_l G).stackTraces = false) {x : Nat}  : CC G 4 4 24 my_X11_keeper x [.int (nI 8), .int (nI 6)] E3 0 (nI 0) := by
  intro h f
  refine ex_M_of ok_X11_keeper cw_X11_keeper rfl hst (Nat.le_of_ble_eq_true rfl) ?_
  refine ex_iload_n ok_X11_keeper (mi 0 rfl) rfl ?_
  refine ex_bipush ok_X11_keeper (mi 1 rfl) ?_
  refine ex_callSr (As := [_, _]) ok_X11_keeper (mi 2 rfl) rfl (m_reqOk hst (pk_in 8 9 (by decide)) (by decide) (by decide)) rfl rfl rfl (by decide) (Nat.le_of_ble_eq_true rfl) (by decide) ?_
  refine ex_iload_n ok_X11_keeper (mi 3 rfl) rfl ?_
  refine ex_bipush ok_X11_keeper (mi 4 rfl) ?_
  refine ex_callSr (As := [_, _]) ok_X11_keeper (mi 5 rfl) rfl (m_reqOk hst (pk_in 6 8 (by decide)) (by decide) (by decide)) rfl rfl rfl (by decide) (Nat.le_of_ble_eq_true rfl) (by decide) ?_
  refine ex_aload_n ok_X11_keeper (mi 6 rfl) rfl ?_
  refine ex_getRx ok_X11_keeper (mi 7 rfl) rfl rfl (fk f.1 0 rfl) (fr f.1 56 rfl) (fk f.1 44 rfl) (by decide) ?_
  refine ex_iload_n ok_X11_keeper (mi 8 rfl) rfl ?_
  refine ex_aaldx (n := 2) ok_X11_keeper (mi 9 rfl) (by decide) (fk f.1 44 rfl) (fn f.1 44 rfl) (pk_in 8 9 (by decide)) (fo f.2.1 11 rfl) (fk f.1 61 rfl) (by decide) ?_
  refine ex_iload_n ok_X11_keeper (mi 10 rfl) rfl ?_
  refine ex_callVr (As := [_]) (v := some (.int (nI 0))) (g1 := h) ok_X11_keeper (mi 11 rfl) rfl ?c rfl (fk f.1 61 rfl) rfl rfl (by decide) (by decide) (Nat.le_of_ble_eq_true rfl) (by decide) ?_
  case c =>
    refine ex_M_of ok_X3_tell cw_X3_tell rfl hst (Nat.le_of_ble_eq_true rfl) ?_
    refine ex_iload_n ok_X3_tell (mi 0 rfl) rfl ?_
    refine ex_tblk (tgt := 77) ok_X3_tell (mi 1 rfl) (by decide) (by decide) (by decide) (by decide) ?_
    refine ex_aload_n ok_X3_tell (mi 21 rfl) rfl ?_
    refine ex_getIx ok_X3_tell (mi 22 rfl) rfl rfl (fk f.1 61 rfl) (fi f.2.2.1 179 rfl) ?_
    refine ex_iret ok_X3_tell (mi 23 rfl) rfl ?_
    exact ⟨inlI (by decide), rfl⟩
  refine ex_iret ok_X11_keeper (mi 12 rfl) rfl ?_
  exact ⟨Or.inl ⟨rfl, inlI (by decide)⟩, kp0⟩
theorem c_keeper_8_7 {G : GE} (hst : (ge_l G).stackTraces = false) {x : Nat}  : CC G 4 4 24 my_X11_keeper x [.int (nI 8), .int (nI 7)] E3 0 (nI 0) := by
  intro h f
  refine ex_M_of ok_X11_keeper cw_X11_keeper rfl hst (Nat.le_of_ble_eq_true rfl) ?_
  refine ex_iload_n ok_X11_keeper (mi 0 rfl) rfl ?_
  refine ex_bipush ok_X11_keeper (mi 1 rfl) ?_
  refine ex_callSr (As := [_, _]) ok_X11_keeper (mi 2 rfl) rfl (m_reqOk hst (pk_in 8 9 (by decide)) (by decide) (by decide)) rfl rfl rfl (by decide) (Nat.le_of_ble_eq_true rfl) (by decide) ?_
  refine ex_iload_n ok_X11_keeper (mi 3 rfl) rfl ?_
  refine ex_bipush ok_X11_keeper (mi 4 rfl) ?_
  refine ex_callSr (As := [_, _]) ok_X11_keeper (mi 5 rfl) rfl (m_reqOk hst (pk_in 7 8 (by decide)) (by decide) (by decide)) rfl rfl rfl (by decide) (Nat.le_of_ble_eq_true rfl) (by decide) ?_
  refine ex_aload_n ok_X11_keeper (mi 6 rfl) rfl ?_
  refine ex_getRx ok_X11_keeper (mi 7 rfl) rfl rfl (fk f.1 0 rfl) (fr f.1 56 rfl) (fk f.1 44 rfl) (by decide) ?_
  refine ex_iload_n ok_X11_keeper (mi 8 rfl) rfl ?_
  refine ex_aaldx (n := 2) ok_X11_keeper (mi 9 rfl) (by decide) (fk f.1 44 rfl) (fn f.1 44 rfl) (pk_in 8 9 (by decide)) (fo f.2.1 11 rfl) (fk f.1 61 rfl) (by decide) ?_
  refine ex_iload_n ok_X11_keeper (mi 10 rfl) rfl ?_
  refine ex_callVr (As := [_]) (v := some (.int (nI 0))) (g1 := h) ok_X11_keeper (mi 11 rfl) rfl ?c rfl (fk f.1 61 rfl) rfl rfl (by decide) (by decide) (Nat.le_of_ble_eq_true rfl) (by decide) ?_
  case c =>
    refine ex_M_of ok_X3_tell cw_X3_tell rfl hst (Nat.le_of_ble_eq_true rfl) ?_
    refine ex_iload_n ok_X3_tell (mi 0 rfl) rfl ?_
    refine ex_tblk (tgt := 82) ok_X3_tell (mi 1 rfl) (by decide) (by decide) (by decide) (by decide) ?_
    refine ex_aload_n ok_X3_tell (mi 24 rfl) rfl ?_
    refine ex_getIx ok_X3_tell (mi 25 rfl) rfl rfl (fk f.1 61 rfl) (fi f.2.2.1 180 rfl) ?_
    refine ex_iret ok_X3_tell (mi 26 rfl) rfl ?_
    exact ⟨inlI (by decide), rfl⟩
  refine ex_iret ok_X11_keeper (mi 12 rfl) rfl ?_
  exact ⟨Or.inl ⟨rfl, inlI (by decide)⟩, kp0⟩
theorem c_entry_8 {G : GE} (hst : (ge_l G).stackTraces = false) {x : Nat} {p1 p2 : Int32} : CC G 3 4 24 my_X11_entry x [.int (nI 8), .int p1, .int p2] E3 1 (nI 0) := by
  intro h f
  refine ex_M_of ok_X11_entry cw_X11_entry rfl hst (Nat.le_of_ble_eq_true rfl) ?_
  refine ex_iload_n ok_X11_entry (mi 0 rfl) rfl ?_
  refine ex_bipush ok_X11_entry (mi 1 rfl) ?_
  refine ex_callSr (As := [_, _]) ok_X11_entry (mi 2 rfl) rfl (m_reqOk hst (pk_in 8 9 (by decide)) (by decide) (by decide)) rfl rfl rfl (by decide) (Nat.le_of_ble_eq_true rfl) (by decide) ?_
  refine ex_aload_n ok_X11_entry (mi 3 rfl) rfl ?_
  refine ex_getRx ok_X11_entry (mi 4 rfl) rfl rfl (fk f.1 0 rfl) (fr f.1 56 rfl) (fk f.1 44 rfl) (by decide) ?_
  refine ex_iload_n ok_X11_entry (mi 5 rfl) rfl ?_
  refine ex_aaldx (n := 2) ok_X11_entry (mi 6 rfl) (by decide) (fk f.1 44 rfl) (fn f.1 44 rfl) (pk_in 8 9 (by decide)) (fo f.2.1 11 rfl) (fk f.1 61 rfl) (by decide) ?_
  refine ex_getRx ok_X11_entry (mi 7 rfl) rfl rfl (fk f.1 61 rfl) (fr f.1 81 rfl) (fk f.1 62 rfl) (by decide) ?_
  refine ex_iload_n ok_X11_entry (mi 8 rfl) rfl ?_
  refine ex_callSr (As := [_, _]) ok_X11_entry (mi 9 rfl) rfl (m_at0 hst (sh_sub 866 f.1 (by decide +kernel) (by decide +kernel)) (tA_sub 866 10 (nI 0) f.2.2.2.1 (by decide +kernel))) rfl rfl rfl (by decide) (Nat.le_of_ble_eq_true rfl) (by decide) ?_
  refine ex_istore ok_X11_entry (mi 10 rfl) ?_
  refine ex_iload ok_X11_entry (mi 11 rfl) rfl ?_
  refine ex_sipush ok_X11_entry (mi 12 rfl) ?_
  refine ex_callSt (e := 100) (As := [_, _]) ok_X11_entry (mi 13 rfl) rfl (m_reqBad (m := 300) hst (by unfold vp_in; decide) (by decide) (by decide)) rfl rfl rfl (by decide) (Nat.le_of_ble_eq_true rfl) (by decide) (fun n hn => ?_)
  exact ⟨Or.inr ⟨by decide, rfl⟩, kpZ kp0 hn⟩
theorem c_entry_b0 {G : GE} (hst : (ge_l G).stackTraces = false) {x : Nat} {p0 p1 p2 : Int32} (c0 : ¬ vp_in p0 9) : CC G 3 4 24 my_X11_entry x [.int p0, .int p1, .int p2] E3 1 (nI 0) := by
  intro h f
  refine ex_M_of ok_X11_entry cw_X11_entry rfl hst (Nat.le_of_ble_eq_true rfl) ?_
  refine ex_iload_n ok_X11_entry (mi 0 rfl) rfl ?_
  refine ex_bipush ok_X11_entry (mi 1 rfl) ?_
  refine ex_callSt (e := 100) (As := [_, _]) ok_X11_entry (mi 2 rfl) rfl (m_reqBad hst c0 (by decide) (by decide)) rfl rfl rfl (by decide) (Nat.le_of_ble_eq_true rfl) (by decide) (fun n hn => ?_)
  exact ⟨Or.inr ⟨by decide, rfl⟩, kpZ kp0 hn⟩
theorem c_voter_0_0 {G : GE} (hst : (ge_l G).stackTraces = false) {x : Nat}  : CC G 3 4 24 my_X11_voter x [.int (nI 0), .int (nI 0)] E3 0 ((-1)) := by
  intro h f
  refine ex_M_of ok_X11_voter cw_X11_voter rfl hst (Nat.le_of_ble_eq_true rfl) ?_
  refine ex_iload_n ok_X11_voter (mi 0 rfl) rfl ?_
  refine ex_bipush ok_X11_voter (mi 1 rfl) ?_
  refine ex_callSr (As := [_, _]) ok_X11_voter (mi 2 rfl) rfl (m_reqOk hst (pk_in 0 12 (by decide)) (by decide) (by decide)) rfl rfl rfl (by decide) (Nat.le_of_ble_eq_true rfl) (by decide) ?_
  refine ex_iload_n ok_X11_voter (mi 3 rfl) rfl ?_
  refine ex_iconst ok_X11_voter (mi 4 rfl) ?_
  refine ex_callSr (As := [_, _]) ok_X11_voter (mi 5 rfl) rfl (m_reqOk hst (pk_in 0 3 (by decide)) (by decide) (by decide)) rfl rfl rfl (by decide) (Nat.le_of_ble_eq_true rfl) (by decide) ?_
  refine ex_aload_n ok_X11_voter (mi 6 rfl) rfl ?_
  refine ex_getRx ok_X11_voter (mi 7 rfl) rfl rfl (fk f.1 0 rfl) (fr f.1 84 rfl) (fk f.1 63 rfl) (by decide) ?_
  refine ex_iload_n ok_X11_voter (mi 8 rfl) rfl ?_
  refine ex_aaldx (n := 3) ok_X11_voter (mi 9 rfl) (by decide) (fk f.1 63 rfl) (fn f.1 63 rfl) (pk_in 0 12 (by decide)) (fo f.2.1 12 rfl) (fk f.1 64 rfl) (by decide) ?_
  refine ex_iload_n ok_X11_voter (mi 10 rfl) rfl ?_
  refine ex_callVr (As := [_]) (v := some (.int (-1))) (g1 := h) ok_X11_voter (mi 11 rfl) rfl ?c rfl (fk f.1 64 rfl) rfl rfl (by decide) (by decide) (Nat.le_of_ble_eq_true rfl) (by decide) ?_
  case c =>
    refine ex_M_of ok_X10_tell cw_X10_tell rfl hst (Nat.le_of_ble_eq_true rfl) ?_
    refine ex_iload_n ok_X10_tell (mi 0 rfl) rfl ?_
    refine ex_lookup (tgt := 28) ok_X10_tell (mi 1 rfl) (by decide) (by decide) ?_
    refine ex_aload_n ok_X10_tell (mi 2 rfl) rfl ?_
    refine ex_getIx ok_X10_tell (mi 3 rfl) rfl rfl (fk f.1 64 rfl) (fi f.2.2.1 181 rfl) ?_
    refine ex_iret ok_X10_tell (mi 4 rfl) rfl ?_
    exact ⟨inlI (by decide), rfl⟩
  refine ex_iret ok_X11_voter (mi 12 rfl) rfl ?_
  exact ⟨Or.inl ⟨rfl, inlI (by decide)⟩, kp0⟩
theorem c_voter_0_1 {G : GE} (hst : (ge_l G).stackTraces = false) {x : Nat}  : CC G 3 4 24 my_X11_voter x [.int (nI 0), .int (nI 1)] E3 0 (nI 0) := by
  intro h f
  refine ex_M_of ok_X11_voter cw_X11_voter rfl hst (Nat.le_of_ble_eq_true rfl) ?_
  refine ex_iload_n ok_X11_voter (mi 0 rfl) rfl ?_
  refine ex_bipush ok_X11_voter (mi 1 rfl) ?_
  refine ex_callSr (As := [_, _]) ok_X11_voter (mi 2 rfl) rfl (m_reqOk hst (pk_in 0 12 (by decide)) (by decide) (by decide)) rfl rfl rfl (by decide) (Nat.le_of_ble_eq_true rfl) (by decide) ?_
  refine ex_iload_n ok_X11_voter (mi 3 rfl) rfl ?_
  refine ex_iconst ok_X11_voter (mi 4 rfl) ?_
  refine ex_callSr (As := [_, _]) ok_X11_voter (mi 5 rfl) rfl (m_reqOk hst (pk_in 1 3 (by decide)) (by decide) (by decide)) rfl rfl rfl (by decide) (Nat.le_of_ble_eq_true rfl) (by decide) ?_
  refine ex_aload_n ok_X11_voter (mi 6 rfl) rfl ?_
  refine ex_getRx ok_X11_voter (mi 7 rfl) rfl rfl (fk f.1 0 rfl) (fr f.1 84 rfl) (fk f.1 63 rfl) (by decide) ?_
  refine ex_iload_n ok_X11_voter (mi 8 rfl) rfl ?_
  refine ex_aaldx (n := 3) ok_X11_voter (mi 9 rfl) (by decide) (fk f.1 63 rfl) (fn f.1 63 rfl) (pk_in 0 12 (by decide)) (fo f.2.1 12 rfl) (fk f.1 64 rfl) (by decide) ?_
  refine ex_iload_n ok_X11_voter (mi 10 rfl) rfl ?_
  refine ex_callVr (As := [_]) (v := some (.int (nI 0))) (g1 := h) ok_X11_voter (mi 11 rfl) rfl ?c rfl (fk f.1 64 rfl) rfl rfl (by decide) (by decide) (Nat.le_of_ble_eq_true rfl) (by decide) ?_
  case c =>
    refine ex_M_of ok_X10_tell cw_X10_tell rfl hst (Nat.le_of_ble_eq_true rfl) ?_
    refine ex_iload_n ok_X10_tell (mi 0 rfl) rfl ?_
    refine ex_lookup (tgt := 33) ok_X10_tell (mi 1 rfl) (by decide) (by decide) ?_
    refine ex_aload_n ok_X10_tell (mi 5 rfl) rfl ?_
    refine ex_getIx ok_X10_tell (mi 6 rfl) rfl rfl (fk f.1 64 rfl) (fi f.2.2.1 182 rfl) ?_
    refine ex_iret ok_X10_tell (mi 7 rfl) rfl ?_
    exact ⟨inlI (by decide), rfl⟩
  refine ex_iret ok_X11_voter (mi 12 rfl) rfl ?_
  exact ⟨Or.inl ⟨rfl, inlI (by decide)⟩, kp0⟩
theorem c_voter_0_2 {G : GE} (hst : (ge_l G).stackTraces = false) {x : Nat}  : CC G 3 4 24 my_X11_voter x [.int (nI 0), .int (nI 2)] E3 0 (nI 0) := by
  intro h f
  refine ex_M_of ok_X11_voter cw_X11_voter rfl hst (Nat.le_of_ble_eq_true rfl) ?_
  refine ex_iload_n ok_X11_voter (mi 0 rfl) rfl ?_
  refine ex_bipush ok_X11_voter (mi 1 rfl) ?_
  refine ex_callSr (As := [_, _]) ok_X11_voter (mi 2 rfl) rfl (m_reqOk hst (pk_in 0 12 (by decide)) (by decide) (by decide)) rfl rfl rfl (by decide) (Nat.le_of_ble_eq_true rfl) (by decide) ?_
  refine ex_iload_n ok_X11_voter (mi 3 rfl) rfl ?_
  refine ex_iconst ok_X11_voter (mi 4 rfl) ?_
  refine ex_callSr (As := [_, _]) ok_X11_voter (mi 5 rfl) rfl (m_reqOk hst (pk_in 2 3 (by decide)) (by decide) (by decide)) rfl rfl rfl (by decide) (Nat.le_of_ble_eq_true rfl) (by decide) ?_
  refine ex_aload_n ok_X11_voter (mi 6 rfl) rfl ?_
  refine ex_getRx ok_X11_voter (mi 7 rfl) rfl rfl (fk f.1 0 rfl) (fr f.1 84 rfl) (fk f.1 63 rfl) (by decide) ?_
  refine ex_iload_n ok_X11_voter (mi 8 rfl) rfl ?_
  refine ex_aaldx (n := 3) ok_X11_voter (mi 9 rfl) (by decide) (fk f.1 63 rfl) (fn f.1 63 rfl) (pk_in 0 12 (by decide)) (fo f.2.1 12 rfl) (fk f.1 64 rfl) (by decide) ?_
  refine ex_iload_n ok_X11_voter (mi 10 rfl) rfl ?_
  refine ex_callVr (As := [_]) (v := some (.int (nI 0))) (g1 := h) ok_X11_voter (mi 11 rfl) rfl ?c rfl (fk f.1 64 rfl) rfl rfl (by decide) (by decide) (Nat.le_of_ble_eq_true rfl) (by decide) ?_
  case c =>
    refine ex_M_of ok_X10_tell cw_X10_tell rfl hst (Nat.le_of_ble_eq_true rfl) ?_
    refine ex_iload_n ok_X10_tell (mi 0 rfl) rfl ?_
    refine ex_lookup (tgt := 38) ok_X10_tell (mi 1 rfl) (by decide) (by decide) ?_
    refine ex_aload_n ok_X10_tell (mi 8 rfl) rfl ?_
    refine ex_getRx ok_X10_tell (mi 9 rfl) rfl rfl (fk f.1 64 rfl) (fr f.1 85 rfl) (fk f.1 65 rfl) (by decide) ?_
    refine ex_callSr (As := [_]) ok_X10_tell (mi 10 rfl) rfl (m_votesIn0 hst (sh_sub 869 f.1 (by decide +kernel) (by decide +kernel)) (tA_sub 869 16 ((-1)) f.2.2.2.1 (by decide +kernel))) rfl rfl rfl (by decide) (Nat.le_of_ble_eq_true rfl) (by decide) ?_
    refine ex_iret ok_X10_tell (mi 11 rfl) rfl ?_
    exact ⟨inlI (by decide), rfl⟩
  refine ex_iret ok_X11_voter (mi 12 rfl) rfl ?_
  exact ⟨Or.inl ⟨rfl, inlI (by decide)⟩, kp0⟩
theorem c_vote_0_0 {G : GE} (hst : (ge_l G).stackTraces = false) {x : Nat} {j : Nat} (hj : j < 16) : CC G 2 4 24 my_X11_vote x [.int (nI 0), .int (nI j), .int (nI 0)] E3 0 ((-1)) := by
  intro h f
  refine ex_M_of ok_X11_vote cw_X11_vote rfl hst (Nat.le_of_ble_eq_true rfl) ?_
  refine ex_iload_n ok_X11_vote (mi 0 rfl) rfl ?_
  refine ex_bipush ok_X11_vote (mi 1 rfl) ?_
  refine ex_callSr (As := [_, _]) ok_X11_vote (mi 2 rfl) rfl (m_reqOk hst (pk_in 0 12 (by decide)) (by decide) (by decide)) rfl rfl rfl (by decide) (Nat.le_of_ble_eq_true rfl) (by decide) ?_
  refine ex_iload_n ok_X11_vote (mi 3 rfl) rfl ?_
  refine ex_bipush ok_X11_vote (mi 4 rfl) ?_
  refine ex_callSr (As := [_, _]) ok_X11_vote (mi 5 rfl) rfl (m_reqOk hst (vp_in_nI hj (by decide)) (by decide) (by decide)) rfl rfl rfl (by decide) (Nat.le_of_ble_eq_true rfl) (by decide) ?_
  refine ex_aload_n ok_X11_vote (mi 6 rfl) rfl ?_
  refine ex_getRx ok_X11_vote (mi 7 rfl) rfl rfl (fk f.1 0 rfl) (fr f.1 84 rfl) (fk f.1 63 rfl) (by decide) ?_
  refine ex_iload_n ok_X11_vote (mi 8 rfl) rfl ?_
  refine ex_aaldx (n := 3) ok_X11_vote (mi 9 rfl) (by decide) (fk f.1 63 rfl) (fn f.1 63 rfl) (pk_in 0 12 (by decide)) (fo f.2.1 12 rfl) (fk f.1 64 rfl) (by decide) ?_
  refine ex_getRx ok_X11_vote (mi 10 rfl) rfl rfl (fk f.1 64 rfl) (fr f.1 85 rfl) (fk f.1 65 rfl) (by decide) ?_
  refine ex_iload_n ok_X11_vote (mi 11 rfl) rfl ?_
  refine ex_ialdx ok_X11_vote (mi 12 rfl) (Or.inl (fk f.1 65 rfl)) (fn f.1 65 rfl) (vp_in_nI hj (by decide)) (fa f.2.2.2.1 33 rfl (by rw [nI_clamp (by omega)]; exact hj)) ?_
  refine ex_istore ok_X11_vote (mi 13 rfl) ?_
  refine ex_iload_n ok_X11_vote (mi 14 rfl) rfl ?_
  refine ex_if_eq (tgt := 37) ok_X11_vote (mi 15 rfl) rfl (fun _ => ?_) (fun hn => absurd (by decide) hn)
  refine ex_iload ok_X11_vote (mi 19 rfl) rfl ?_
  refine ex_callSr (As := [_]) (v := some (.int (-1))) (g1 := h) ok_X11_vote (mi 20 rfl) rfl ?c rfl rfl rfl (by decide) (Nat.le_of_ble_eq_true rfl) (by decide) ?_
  case c =>
    refine ex_M_of ok_X10_roundOf cw_X10_roundOf rfl hst (Nat.le_of_ble_eq_true rfl) ?_
    refine ex_iload_n ok_X10_roundOf (mi 0 rfl) rfl ?_
    refine ex_iconst ok_X10_roundOf (mi 1 rfl) ?_
    refine ex_icmp_ne (tgt := 9) ok_X10_roundOf (mi 2 rfl) rfl (fun hn => absurd (by decide) hn) (fun _ => ?_)
    refine ex_iconst ok_X10_roundOf (mi 3 rfl) ?_
    refine ex_goto (tgt := 13) ok_X10_roundOf (mi 4 rfl) rfl ?_
    refine ex_iret ok_X10_roundOf (mi 8 rfl) rfl ?_
    exact ⟨inlI (by decide), rfl⟩
  refine ex_iret ok_X11_vote (mi 21 rfl) rfl ?_
  exact ⟨Or.inl ⟨rfl, inlI (by decide)⟩, kp0⟩
theorem c_vote_0_1 {G : GE} (hst : (ge_l G).stackTraces = false) {x : Nat} {j : Nat} (hj : j < 16) : CC G 2 4 24 my_X11_vote x [.int (nI 0), .int (nI j), .int (nI 1)] E3 0 ((-1)) := by
  intro h f
  refine ex_M_of ok_X11_vote cw_X11_vote rfl hst (Nat.le_of_ble_eq_true rfl) ?_
  refine ex_iload_n ok_X11_vote (mi 0 rfl) rfl ?_
  refine ex_bipush ok_X11_vote (mi 1 rfl) ?_
  refine ex_callSr (As := [_, _]) ok_X11_vote (mi 2 rfl) rfl (m_reqOk hst (pk_in 0 12 (by decide)) (by decide) (by decide)) rfl rfl rfl (by decide) (Nat.le_of_ble_eq_true rfl) (by decide) ?_
  refine ex_iload_n ok_X11_vote (mi 3 rfl) rfl ?_
  refine ex_bipush ok_X11_vote (mi 4 rfl) ?_
  refine ex_callSr (As := [_, _]) ok_X11_vote (mi 5 rfl) rfl (m_reqOk hst (vp_in_nI hj (by decide)) (by decide) (by decide)) rfl rfl rfl (by decide) (Nat.le_of_ble_eq_true rfl) (by decide) ?_
  refine ex_aload_n ok_X11_vote (mi 6 rfl) rfl ?_
  refine ex_getRx ok_X11_vote (mi 7 rfl) rfl rfl (fk f.1 0 rfl) (fr f.1 84 rfl) (fk f.1 63 rfl) (by decide) ?_
  refine ex_iload_n ok_X11_vote (mi 8 rfl) rfl ?_
  refine ex_aaldx (n := 3) ok_X11_vote (mi 9 rfl) (by decide) (fk f.1 63 rfl) (fn f.1 63 rfl) (pk_in 0 12 (by decide)) (fo f.2.1 12 rfl) (fk f.1 64 rfl) (by decide) ?_
  refine ex_getRx ok_X11_vote (mi 10 rfl) rfl rfl (fk f.1 64 rfl) (fr f.1 85 rfl) (fk f.1 65 rfl) (by decide) ?_
  refine ex_iload_n ok_X11_vote (mi 11 rfl) rfl ?_
  refine ex_ialdx ok_X11_vote (mi 12 rfl) (Or.inl (fk f.1 65 rfl)) (fn f.1 65 rfl) (vp_in_nI hj (by decide)) (fa f.2.2.2.1 33 rfl (by rw [nI_clamp (by omega)]; exact hj)) ?_
  refine ex_istore ok_X11_vote (mi 13 rfl) ?_
  refine ex_iload_n ok_X11_vote (mi 14 rfl) rfl ?_
  refine ex_if_eq (tgt := 37) ok_X11_vote (mi 15 rfl) rfl (fun hn => absurd hn (by decide)) (fun _ => ?_)
  refine ex_iload ok_X11_vote (mi 16 rfl) rfl ?_
  refine ex_callSr (As := [_]) (v := some (.int (-1))) (g1 := h) ok_X11_vote (mi 17 rfl) rfl ?c rfl rfl rfl (by decide) (Nat.le_of_ble_eq_true rfl) (by decide) ?_
  case c =>
    refine ex_M_of ok_X10_valueOf cw_X10_valueOf rfl hst (Nat.le_of_ble_eq_true rfl) ?_
    refine ex_iload_n ok_X10_valueOf (mi 0 rfl) rfl ?_
    refine ex_iconst ok_X10_valueOf (mi 1 rfl) ?_
    refine ex_icmp_ne (tgt := 9) ok_X10_valueOf (mi 2 rfl) rfl (fun hn => absurd (by decide) hn) (fun _ => ?_)
    refine ex_iconst ok_X10_valueOf (mi 3 rfl) ?_
    refine ex_goto (tgt := 13) ok_X10_valueOf (mi 4 rfl) rfl ?_
    refine ex_iret ok_X10_valueOf (mi 8 rfl) rfl ?_
    exact ⟨inlI (by decide), rfl⟩
  refine ex_goto (tgt := 42) ok_X11_vote (mi 18 rfl) rfl ?_
  refine ex_iret ok_X11_vote (mi 21 rfl) rfl ?_
  exact ⟨Or.inl ⟨rfl, inlI (by decide)⟩, kp0⟩
theorem c_voter_1_0 {G : GE} (hst : (ge_l G).stackTraces = false) {x : Nat}  : CC G 3 4 24 my_X11_voter x [.int (nI 1), .int (nI 0)] E3 0 ((-1)) := by
  intro h f
  refine ex_M_of ok_X11_voter cw_X11_voter rfl hst (Nat.le_of_ble_eq_true rfl) ?_
  refine ex_iload_n ok_X11_voter (mi 0 rfl) rfl ?_
  refine ex_bipush ok_X11_voter (mi 1 rfl) ?_
  refine ex_callSr (As := [_, _]) ok_X11_voter (mi 2 rfl) rfl (m_reqOk hst (pk_in 1 12 (by decide)) (by decide) (by decide)) rfl rfl rfl (by decide) (Nat.le_of_ble_eq_true rfl) (by decide) ?_
  refine ex_iload_n ok_X11_voter (mi 3 rfl) rfl ?_
  refine ex_iconst ok_X11_voter (mi 4 rfl) ?_
  refine ex_callSr (As := [_, _]) ok_X11_voter (mi 5 rfl) rfl (m_reqOk hst (pk_in 0 3 (by decide)) (by decide) (by decide)) rfl rfl rfl (by decide) (Nat.le_of_ble_eq_true rfl) (by decide) ?_
  refine ex_aload_n ok_X11_voter (mi 6 rfl) rfl ?_
  refine ex_getRx ok_X11_voter (mi 7 rfl) rfl rfl (fk f.1 0 rfl) (fr f.1 84 rfl) (fk f.1 63 rfl) (by decide) ?_
  refine ex_iload_n ok_X11_voter (mi 8 rfl) rfl ?_
  refine ex_aaldx (n := 3) ok_X11_voter (mi 9 rfl) (by decide) (fk f.1 63 rfl) (fn f.1 63 rfl) (pk_in 1 12 (by decide)) (fo f.2.1 13 rfl) (fk f.1 66 rfl) (by decide) ?_
  refine ex_iload_n ok_X11_voter (mi 10 rfl) rfl ?_
  refine ex_callVr (As := [_]) (v := some (.int (-1))) (g1 := h) ok_X11_voter (mi 11 rfl) rfl ?c rfl (fk f.1 66 rfl) rfl rfl (by decide) (by decide) (Nat.le_of_ble_eq_true rfl) (by decide) ?_
  case c =>
    refine ex_M_of ok_X10_tell cw_X10_tell rfl hst (Nat.le_of_ble_eq_true rfl) ?_
    refine ex_iload_n ok_X10_tell (mi 0 rfl) rfl ?_
    refine ex_lookup (tgt := 28) ok_X10_tell (mi 1 rfl) (by decide) (by decide) ?_
    refine ex_aload_n ok_X10_tell (mi 2 rfl) rfl ?_
    refine ex_getIx ok_X10_tell (mi 3 rfl) rfl rfl (fk f.1 66 rfl) (fi f.2.2.1 183 rfl) ?_
    refine ex_iret ok_X10_tell (mi 4 rfl) rfl ?_
    exact ⟨inlI (by decide), rfl⟩
  refine ex_iret ok_X11_voter (mi 12 rfl) rfl ?_
  exact ⟨Or.inl ⟨rfl, inlI (by decide)⟩, kp0⟩
theorem c_voter_1_1 {G : GE} (hst : (ge_l G).stackTraces = false) {x : Nat}  : CC G 3 4 24 my_X11_voter x [.int (nI 1), .int (nI 1)] E3 0 (nI 0) := by
  intro h f
  refine ex_M_of ok_X11_voter cw_X11_voter rfl hst (Nat.le_of_ble_eq_true rfl) ?_
  refine ex_iload_n ok_X11_voter (mi 0 rfl) rfl ?_
  refine ex_bipush ok_X11_voter (mi 1 rfl) ?_
  refine ex_callSr (As := [_, _]) ok_X11_voter (mi 2 rfl) rfl (m_reqOk hst (pk_in 1 12 (by decide)) (by decide) (by decide)) rfl rfl rfl (by decide) (Nat.le_of_ble_eq_true rfl) (by decide) ?_
  refine ex_iload_n ok_X11_voter (mi 3 rfl) rfl ?_
  refine ex_iconst ok_X11_voter (mi 4 rfl) ?_
  refine ex_callSr (As := [_, _]) ok_X11_voter (mi 5 rfl) rfl (m_reqOk hst (pk_in 1 3 (by decide)) (by decide) (by decide)) rfl rfl rfl (by decide) (Nat.le_of_ble_eq_true rfl) (by decide) ?_
  refine ex_aload_n ok_X11_voter (mi 6 rfl) rfl ?_
  refine ex_getRx ok_X11_voter (mi 7 rfl) rfl rfl (fk f.1 0 rfl) (fr f.1 84 rfl) (fk f.1 63 rfl) (by decide) ?_
  refine ex_iload_n ok_X11_voter (mi 8 rfl) rfl ?_
  refine ex_aaldx (n := 3) ok_X11_voter (mi 9 rfl) (by decide) (fk f.1 63 rfl) (fn f.1 63 rfl) (pk_in 1 12 (by decide)) (fo f.2.1 13 rfl) (fk f.1 66 rfl) (by decide) ?_
  refine ex_iload_n ok_X11_voter (mi 10 rfl) rfl ?_
  refine ex_callVr (As := [_]) (v := some (.int (nI 0))) (g1 := h) ok_X11_voter (mi 11 rfl) rfl ?c rfl (fk f.1 66 rfl) rfl rfl (by decide) (by decide) (Nat.le_of_ble_eq_true rfl) (by decide) ?_
  case c =>
    refine ex_M_of ok_X10_tell cw_X10_tell rfl hst (Nat.le_of_ble_eq_true rfl) ?_
    refine ex_iload_n ok_X10_tell (mi 0 rfl) rfl ?_
    refine ex_lookup (tgt := 33) ok_X10_tell (mi 1 rfl) (by decide) (by decide) ?_
    refine ex_aload_n ok_X10_tell (mi 5 rfl) rfl ?_
    refine ex_getIx ok_X10_tell (mi 6 rfl) rfl rfl (fk f.1 66 rfl) (fi f.2.2.1 184 rfl) ?_
    refine ex_iret ok_X10_tell (mi 7 rfl) rfl ?_
    exact ⟨inlI (by decide), rfl⟩
  refine ex_iret ok_X11_voter (mi 12 rfl) rfl ?_
  exact ⟨Or.inl ⟨rfl, inlI (by decide)⟩, kp0⟩
theorem c_voter_1_2 {G : GE} (hst : (ge_l G).stackTraces = false) {x : Nat}  : CC G 3 4 24 my_X11_voter x [.int (nI 1), .int (nI 2)] E3 0 (nI 0) := by
  intro h f
  refine ex_M_of ok_X11_voter cw_X11_voter rfl hst (Nat.le_of_ble_eq_true rfl) ?_
  refine ex_iload_n ok_X11_voter (mi 0 rfl) rfl ?_
  refine ex_bipush ok_X11_voter (mi 1 rfl) ?_
  refine ex_callSr (As := [_, _]) ok_X11_voter (mi 2 rfl) rfl (m_reqOk hst (pk_in 1 12 (by decide)) (by decide) (by decide)) rfl rfl rfl (by decide) (Nat.le_of_ble_eq_true rfl) (by decide) ?_
  refine ex_iload_n ok_X11_voter (mi 3 rfl) rfl ?_
  refine ex_iconst ok_X11_voter (mi 4 rfl) ?_
  refine ex_callSr (As := [_, _]) ok_X11_voter (mi 5 rfl) rfl (m_reqOk hst (pk_in 2 3 (by decide)) (by decide) (by decide)) rfl rfl rfl (by decide) (Nat.le_of_ble_eq_true rfl) (by decide) ?_
  refine ex_aload_n ok_X11_voter (mi 6 rfl) rfl ?_
  refine ex_getRx ok_X11_voter (mi 7 rfl) rfl rfl (fk f.1 0 rfl) (fr f.1 84 rfl) (fk f.1 63 rfl) (by decide) ?_
  refine ex_iload_n ok_X11_voter (mi 8 rfl) rfl ?_
  refine ex_aaldx (n := 3) ok_X11_voter (mi 9 rfl) (by decide) (fk f.1 63 rfl) (fn f.1 63 rfl) (pk_in 1 12 (by decide)) (fo f.2.1 13 rfl) (fk f.1 66 rfl) (by decide) ?_
  refine ex_iload_n ok_X11_voter (mi 10 rfl) rfl ?_
  refine ex_callVr (As := [_]) (v := some (.int (nI 0))) (g1 := h) ok_X11_voter (mi 11 rfl) rfl ?c rfl (fk f.1 66 rfl) rfl rfl (by decide) (by decide) (Nat.le_of_ble_eq_true rfl) (by decide) ?_
  case c =>
    refine ex_M_of ok_X10_tell cw_X10_tell rfl hst (Nat.le_of_ble_eq_true rfl) ?_
    refine ex_iload_n ok_X10_tell (mi 0 rfl) rfl ?_
    refine ex_lookup (tgt := 38) ok_X10_tell (mi 1 rfl) (by decide) (by decide) ?_
    refine ex_aload_n ok_X10_tell (mi 8 rfl) rfl ?_
    refine ex_getRx ok_X10_tell (mi 9 rfl) rfl rfl (fk f.1 66 rfl) (fr f.1 88 rfl) (fk f.1 67 rfl) (by decide) ?_
    refine ex_callSr (As := [_]) ok_X10_tell (mi 10 rfl) rfl (m_votesIn0 hst (sh_sub 871 f.1 (by decide +kernel) (by decide +kernel)) (tA_sub 871 16 ((-1)) f.2.2.2.1 (by decide +kernel))) rfl rfl rfl (by decide) (Nat.le_of_ble_eq_true rfl) (by decide) ?_
    refine ex_iret ok_X10_tell (mi 11 rfl) rfl ?_
    exact ⟨inlI (by decide), rfl⟩
  refine ex_iret ok_X11_voter (mi 12 rfl) rfl ?_
  exact ⟨Or.inl ⟨rfl, inlI (by decide)⟩, kp0⟩
theorem c_vote_1_0 {G : GE} (hst : (ge_l G).stackTraces = false) {x : Nat} {j : Nat} (hj : j < 16) : CC G 2 4 24 my_X11_vote x [.int (nI 1), .int (nI j), .int (nI 0)] E3 0 ((-1)) := by
  intro h f
  refine ex_M_of ok_X11_vote cw_X11_vote rfl hst (Nat.le_of_ble_eq_true rfl) ?_
  refine ex_iload_n ok_X11_vote (mi 0 rfl) rfl ?_
  refine ex_bipush ok_X11_vote (mi 1 rfl) ?_
  refine ex_callSr (As := [_, _]) ok_X11_vote (mi 2 rfl) rfl (m_reqOk hst (pk_in 1 12 (by decide)) (by decide) (by decide)) rfl rfl rfl (by decide) (Nat.le_of_ble_eq_true rfl) (by decide) ?_
  refine ex_iload_n ok_X11_vote (mi 3 rfl) rfl ?_
  refine ex_bipush ok_X11_vote (mi 4 rfl) ?_
  refine ex_callSr (As := [_, _]) ok_X11_vote (mi 5 rfl) rfl (m_reqOk hst (vp_in_nI hj (by decide)) (by decide) (by decide)) rfl rfl rfl (by decide) (Nat.le_of_ble_eq_true rfl) (by decide) ?_
  refine ex_aload_n ok_X11_vote (mi 6 rfl) rfl ?_
  refine ex_getRx ok_X11_vote (mi 7 rfl) rfl rfl (fk f.1 0 rfl) (fr f.1 84 rfl) (fk f.1 63 rfl) (by decide) ?_
  refine ex_iload_n ok_X11_vote (mi 8 rfl) rfl ?_
  refine ex_aaldx (n := 3) ok_X11_vote (mi 9 rfl) (by decide) (fk f.1 63 rfl) (fn f.1 63 rfl) (pk_in 1 12 (by decide)) (fo f.2.1 13 rfl) (fk f.1 66 rfl) (by decide) ?_
  refine ex_getRx ok_X11_vote (mi 10 rfl) rfl rfl (fk f.1 66 rfl) (fr f.1 88 rfl) (fk f.1 67 rfl) (by decide) ?_
  refine ex_iload_n ok_X11_vote (mi 11 rfl) rfl ?_
  refine ex_ialdx ok_X11_vote (mi 12 rfl) (Or.inl (fk f.1 67 rfl)) (fn f.1 67 rfl) (vp_in_nI hj (by decide)) (fa f.2.2.2.1 34 rfl (by rw [nI_clamp (by omega)]; exact hj)) ?_
  refine ex_istore ok_X11_vote (mi 13 rfl) ?_
  refine ex_iload_n ok_X11_vote (mi 14 rfl) rfl ?_
  refine ex_if_eq (tgt := 37) ok_X11_vote (mi 15 rfl) rfl (fun _ => ?_) (fun hn => absurd (by decide) hn)
  refine ex_iload ok_X11_vote (mi 19 rfl) rfl ?_
  refine ex_callSr (As := [_]) (v := some (.int (-1))) (g1 := h) ok_X11_vote (mi 20 rfl) rfl ?c rfl rfl rfl (by decide) (Nat.le_of_ble_eq_true rfl) (by decide) ?_
  case c =>
    refine ex_M_of ok_X10_roundOf cw_X10_roundOf rfl hst (Nat.le_of_ble_eq_true rfl) ?_
    refine ex_iload_n ok_X10_roundOf (mi 0 rfl) rfl ?_
    refine ex_iconst ok_X10_roundOf (mi 1 rfl) ?_
    refine ex_icmp_ne (tgt := 9) ok_X10_roundOf (mi 2 rfl) rfl (fun hn => absurd (by decide) hn) (fun _ => ?_)
    refine ex_iconst ok_X10_roundOf (mi 3 rfl) ?_
    refine ex_goto (tgt := 13) ok_X10_roundOf (mi 4 rfl) rfl ?_
    refine ex_iret ok_X10_roundOf (mi 8 rfl) rfl ?_
    exact ⟨inlI (by decide), rfl⟩
  refine ex_iret ok_X11_vote (mi 21 rfl) rfl ?_
  exact ⟨Or.inl ⟨rfl, inlI (by decide)⟩, kp0⟩
theorem c_vote_1_1 {G : GE} (hst : (ge_l G).stackTraces = false) {x : Nat} {j : Nat} (hj : j < 16) : CC G 2 4 24 my_X11_vote x [.int (nI 1), .int (nI j), .int (nI 1)] E3 0 ((-1)) := by
  intro h f
  refine ex_M_of ok_X11_vote cw_X11_vote rfl hst (Nat.le_of_ble_eq_true rfl) ?_
  refine ex_iload_n ok_X11_vote (mi 0 rfl) rfl ?_
  refine ex_bipush ok_X11_vote (mi 1 rfl) ?_
  refine ex_callSr (As := [_, _]) ok_X11_vote (mi 2 rfl) rfl (m_reqOk hst (pk_in 1 12 (by decide)) (by decide) (by decide)) rfl rfl rfl (by decide) (Nat.le_of_ble_eq_true rfl) (by decide) ?_
  refine ex_iload_n ok_X11_vote (mi 3 rfl) rfl ?_
  refine ex_bipush ok_X11_vote (mi 4 rfl) ?_
  refine ex_callSr (As := [_, _]) ok_X11_vote (mi 5 rfl) rfl (m_reqOk hst (vp_in_nI hj (by decide)) (by decide) (by decide)) rfl rfl rfl (by decide) (Nat.le_of_ble_eq_true rfl) (by decide) ?_
  refine ex_aload_n ok_X11_vote (mi 6 rfl) rfl ?_
  refine ex_getRx ok_X11_vote (mi 7 rfl) rfl rfl (fk f.1 0 rfl) (fr f.1 84 rfl) (fk f.1 63 rfl) (by decide) ?_
  refine ex_iload_n ok_X11_vote (mi 8 rfl) rfl ?_
  refine ex_aaldx (n := 3) ok_X11_vote (mi 9 rfl) (by decide) (fk f.1 63 rfl) (fn f.1 63 rfl) (pk_in 1 12 (by decide)) (fo f.2.1 13 rfl) (fk f.1 66 rfl) (by decide) ?_
  refine ex_getRx ok_X11_vote (mi 10 rfl) rfl rfl (fk f.1 66 rfl) (fr f.1 88 rfl) (fk f.1 67 rfl) (by decide) ?_
  refine ex_iload_n ok_X11_vote (mi 11 rfl) rfl ?_
  refine ex_ialdx ok_X11_vote (mi 12 rfl) (Or.inl (fk f.1 67 rfl)) (fn f.1 67 rfl) (vp_in_nI hj (by decide)) (fa f.2.2.2.1 34 rfl (by rw [nI_clamp (by omega)]; exact hj)) ?_
  refine ex_istore ok_X11_vote (mi 13 rfl) ?_
  refine ex_iload_n ok_X11_vote (mi 14 rfl) rfl ?_
  refine ex_if_eq (tgt := 37) ok_X11_vote (mi 15 rfl) rfl (fun hn => absurd hn (by decide)) (fun _ => ?_)
  refine ex_iload ok_X11_vote (mi 16 rfl) rfl ?_
  refine ex_callSr (As := [_]) (v := some (.int (-1))) (g1 := h) ok_X11_vote (mi 17 rfl) rfl ?c rfl rfl rfl (by decide) (Nat.le_of_ble_eq_true rfl) (by decide) ?_
  case c =>
    refine ex_M_of ok_X10_valueOf cw_X10_valueOf rfl hst (Nat.le_of_ble_eq_true rfl) ?_
    refine ex_iload_n ok_X10_valueOf (mi 0 rfl) rfl ?_
    refine ex_iconst ok_X10_valueOf (mi 1 rfl) ?_
    refine ex_icmp_ne (tgt := 9) ok_X10_valueOf (mi 2 rfl) rfl (fun hn => absurd (by decide) hn) (fun _ => ?_)
    refine ex_iconst ok_X10_valueOf (mi 3 rfl) ?_
    refine ex_goto (tgt := 13) ok_X10_valueOf (mi 4 rfl) rfl ?_
    refine ex_iret ok_X10_valueOf (mi 8 rfl) rfl ?_
    exact ⟨inlI (by decide), rfl⟩
  refine ex_goto (tgt := 42) ok_X11_vote (mi 18 rfl) rfl ?_
  refine ex_iret ok_X11_vote (mi 21 rfl) rfl ?_
  exact ⟨Or.inl ⟨rfl, inlI (by decide)⟩, kp0⟩
