theorem c_keeper_0_3 {G : GE} (hst : (ge_l G).stackTraces = false) {x : Nat}  : CC G 4 4 24 my_X11_keeper x [.int (nI 0), .int (nI 3)] E3 0 (nI 0) := by
  intro h f
  refine ex_M_of ok_X11_keeper cw_X11_keeper rfl hst (Nat.le_of_ble_eq_true rfl) ?_
  refine ex_iload_n ok_X11_keeper (mi 0 rfl) rfl ?_
  refine ex_bipush ok_X11_keeper (mi 1 rfl) ?_
  refine ex_callSr (As := [_, _]) ok_X11_keeper (mi 2 rfl) rfl (m_reqOk hst (pk_in 0 9 (by decide)) (by decide) (by decide)) rfl rfl rfl (by decide) (Nat.le_of_ble_eq_true rfl) (by decide) ?_
  refine ex_iload_n ok_X11_keeper (mi 3 rfl) rfl ?_
  refine ex_bipush ok_X11_keeper (mi 4 rfl) ?_
  refine ex_callSr (As := [_, _]) ok_X11_keeper (mi 5 rfl) rfl (m_reqOk hst (pk_in 3 8 (by decide)) (by decide) (by decide)) rfl rfl rfl (by decide) (Nat.le_of_ble_eq_true rfl) (by decide) ?_
  refine ex_aload_n ok_X11_keeper (mi 6 rfl) rfl ?_
  refine ex_getRx ok_X11_keeper (mi 7 rfl) rfl rfl (fk f.1 0 rfl) (fr f.1 56 rfl) (fk f.1 44 rfl) (by decide) ?_
  refine ex_iload_n ok_X11_keeper (mi 8 rfl) rfl ?_
  refine ex_aaldx (n := 2) ok_X11_keeper (mi 9 rfl) (by decide) (fk f.1 44 rfl) (fn f.1 44 rfl) (pk_in 0 9 (by decide)) (fo f.2.1 3 rfl) (fk f.1 45 rfl) (by decide) ?_
  refine ex_iload_n ok_X11_keeper (mi 10 rfl) rfl ?_
  refine ex_callVr (As := [_]) (v := some (.int (nI 0))) (g1 := h) ok_X11_keeper (mi 11 rfl) rfl ?c rfl (fk f.1 45 rfl) rfl rfl (by decide) (by decide) (Nat.le_of_ble_eq_true rfl) (by decide) ?_
  case c =>
    refine ex_M_of ok_X3_tell cw_X3_tell rfl hst (Nat.le_of_ble_eq_true rfl) ?_
    refine ex_iload_n ok_X3_tell (mi 0 rfl) rfl ?_
    refine ex_tblk (tgt := 59) ok_X3_tell (mi 1 rfl) (by decide) (by decide) (by decide) (by decide) ?_
    refine ex_aload_n ok_X3_tell (mi 11 rfl) rfl ?_
    refine ex_getRx ok_X3_tell (mi 12 rfl) rfl rfl (fk f.1 45 rfl) (fr f.1 57 rfl) (fk f.1 46 rfl) (by decide) ?_
    refine ex_callSr (As := [_]) ok_X3_tell (mi 13 rfl) rfl (m_X7_size0 hst (sh_sub 850 f.1 (by decide +kernel) (by decide +kernel)) (tA_sub 850 10 (nI 0) f.2.2.2.1 (by decide +kernel))) rfl rfl rfl (by decide) (Nat.le_of_ble_eq_true rfl) (by decide) ?_
    refine ex_iret ok_X3_tell (mi 14 rfl) rfl ?_
    exact ⟨inlI (by decide), rfl⟩
  refine ex_iret ok_X11_keeper (mi 12 rfl) rfl ?_
  exact ⟨Or.inl ⟨rfl, inlI (by decide)⟩, kp0⟩
theorem c_keeper_0_4 {G : GE} (hst : (ge_l G).stackTraces = false) {x : Nat}  : CC G 4 4 24 my_X11_keeper x [.int (nI 0), .int (nI 4)] E3 0 ((-1)) := by
  intro h f
  refine ex_M_of ok_X11_keeper cw_X11_keeper rfl hst (Nat.le_of_ble_eq_true rfl) ?_
  refine ex_iload_n ok_X11_keeper (mi 0 rfl) rfl ?_
  refine ex_bipush ok_X11_keeper (mi 1 rfl) ?_
  refine ex_callSr (As := [_, _]) ok_X11_keeper (mi 2 rfl) rfl (m_reqOk hst (pk_in 0 9 (by decide)) (by decide) (by decide)) rfl rfl rfl (by decide) (Nat.le_of_ble_eq_true rfl) (by decide) ?_
  refine ex_iload_n ok_X11_keeper (mi 3 rfl) rfl ?_
  refine ex_bipush ok_X11_keeper (mi 4 rfl) ?_
  refine ex_callSr (As := [_, _]) ok_X11_keeper (mi 5 rfl) rfl (m_reqOk hst (pk_in 4 8 (by decide)) (by decide) (by decide)) rfl rfl rfl (by decide) (Nat.le_of_ble_eq_true rfl) (by decide) ?_
  refine ex_aload_n ok_X11_keeper (mi 6 rfl) rfl ?_
  refine ex_getRx ok_X11_keeper (mi 7 rfl) rfl rfl (fk f.1 0 rfl) (fr f.1 56 rfl) (fk f.1 44 rfl) (by decide) ?_
  refine ex_iload_n ok_X11_keeper (mi 8 rfl) rfl ?_
  refine ex_aaldx (n := 2) ok_X11_keeper (mi 9 rfl) (by decide) (fk f.1 44 rfl) (fn f.1 44 rfl) (pk_in 0 9 (by decide)) (fo f.2.1 3 rfl) (fk f.1 45 rfl) (by decide) ?_
  refine ex_iload_n ok_X11_keeper (mi 10 rfl) rfl ?_
  refine ex_callVr (As := [_]) (v := some (.int (-1))) (g1 := h) ok_X11_keeper (mi 11 rfl) rfl ?c rfl (fk f.1 45 rfl) rfl rfl (by decide) (by decide) (Nat.le_of_ble_eq_true rfl) (by decide) ?_
  case c =>
    refine ex_M_of ok_X3_tell cw_X3_tell rfl hst (Nat.le_of_ble_eq_true rfl) ?_
    refine ex_iload_n ok_X3_tell (mi 0 rfl) rfl ?_
    refine ex_tblk (tgt := 67) ok_X3_tell (mi 1 rfl) (by decide) (by decide) (by decide) (by decide) ?_
    refine ex_aload_n ok_X3_tell (mi 15 rfl) rfl ?_
    refine ex_getIx ok_X3_tell (mi 16 rfl) rfl rfl (fk f.1 45 rfl) (fi f.2.2.1 113 rfl) ?_
    refine ex_iret ok_X3_tell (mi 17 rfl) rfl ?_
    exact ⟨inlI (by decide), rfl⟩
  refine ex_iret ok_X11_keeper (mi 12 rfl) rfl ?_
  exact ⟨Or.inl ⟨rfl, inlI (by decide)⟩, kp0⟩
theorem c_keeper_0_5 {G : GE} (hst : (ge_l G).stackTraces = false) {x : Nat}  : CC G 4 4 24 my_X11_keeper x [.int (nI 0), .int (nI 5)] E3 0 ((-1)) := by
  intro h f
  refine ex_M_of ok_X11_keeper cw_X11_keeper rfl hst (Nat.le_of_ble_eq_true rfl) ?_
  refine ex_iload_n ok_X11_keeper (mi 0 rfl) rfl ?_
  refine ex_bipush ok_X11_keeper (mi 1 rfl) ?_
  refine ex_callSr (As := [_, _]) ok_X11_keeper (mi 2 rfl) rfl (m_reqOk hst (pk_in 0 9 (by decide)) (by decide) (by decide)) rfl rfl rfl (by decide) (Nat.le_of_ble_eq_true rfl) (by decide) ?_
  refine ex_iload_n ok_X11_keeper (mi 3 rfl) rfl ?_
  refine ex_bipush ok_X11_keeper (mi 4 rfl) ?_
  refine ex_callSr (As := [_, _]) ok_X11_keeper (mi 5 rfl) rfl (m_reqOk hst (pk_in 5 8 (by decide)) (by decide) (by decide)) rfl rfl rfl (by decide) (Nat.le_of_ble_eq_true rfl) (by decide) ?_
  refine ex_aload_n ok_X11_keeper (mi 6 rfl) rfl ?_
  refine ex_getRx ok_X11_keeper (mi 7 rfl) rfl rfl (fk f.1 0 rfl) (fr f.1 56 rfl) (fk f.1 44 rfl) (by decide) ?_
  refine ex_iload_n ok_X11_keeper (mi 8 rfl) rfl ?_
  refine ex_aaldx (n := 2) ok_X11_keeper (mi 9 rfl) (by decide) (fk f.1 44 rfl) (fn f.1 44 rfl) (pk_in 0 9 (by decide)) (fo f.2.1 3 rfl) (fk f.1 45 rfl) (by decide) ?_
  refine ex_iload_n ok_X11_keeper (mi 10 rfl) rfl ?_
  refine ex_callVr (As := [_]) (v := some (.int (-1))) (g1 := h) ok_X11_keeper (mi 11 rfl) rfl ?c rfl (fk f.1 45 rfl) rfl rfl (by decide) (by decide) (Nat.le_of_ble_eq_true rfl) (by decide) ?_
  case c =>
    refine ex_M_of ok_X3_tell cw_X3_tell rfl hst (Nat.le_of_ble_eq_true rfl) ?_
    refine ex_iload_n ok_X3_tell (mi 0 rfl) rfl ?_
    refine ex_tblk (tgt := 72) ok_X3_tell (mi 1 rfl) (by decide) (by decide) (by decide) (by decide) ?_
    refine ex_aload_n ok_X3_tell (mi 18 rfl) rfl ?_
    refine ex_getIx ok_X3_tell (mi 19 rfl) rfl rfl (fk f.1 45 rfl) (fi f.2.2.1 114 rfl) ?_
    refine ex_iret ok_X3_tell (mi 20 rfl) rfl ?_
    exact ⟨inlI (by decide), rfl⟩
  refine ex_iret ok_X11_keeper (mi 12 rfl) rfl ?_
  exact ⟨Or.inl ⟨rfl, inlI (by decide)⟩, kp0⟩
theorem c_keeper_0_6 {G : GE} (hst : (ge_l G).stackTraces = false) {x : Nat}  : CC G 4 4 24 my_X11_keeper x [.int (nI 0), .int (nI 6)] E3 0 (nI 0) := by
  intro h f
  refine ex_M_of ok_X11_keeper cw_X11_keeper rfl hst (Nat.le_of_ble_eq_true rfl) ?_
  refine ex_iload_n ok_X11_keeper (mi 0 rfl) rfl ?_
  refine ex_bipush ok_X11_keeper (mi 1 rfl) ?_
  refine ex_callSr (As := [_, _]) ok_X11_keeper (mi 2 rfl) rfl (m_reqOk hst (pk_in 0 9 (by decide)) (by decide) (by decide)) rfl rfl rfl (by decide) (Nat.le_of_ble_eq_true rfl) (by decide) ?_
  refine ex_iload_n ok_X11_keeper (mi 3 rfl) rfl ?_
  refine ex_bipush ok_X11_keeper (mi 4 rfl) ?_
  refine ex_callSr (As := [_, _]) ok_X11_keeper (mi 5 rfl) rfl (m_reqOk hst (pk_in 6 8 (by decide)) (by decide) (by decide)) rfl rfl rfl (by decide) (Nat.le_of_ble_eq_true rfl) (by decide) ?_
  refine ex_aload_n ok_X11_keeper (mi 6 rfl) rfl ?_
  refine ex_getRx ok_X11_keeper (mi 7 rfl) rfl rfl (fk f.1 0 rfl) (fr f.1 56 rfl) (fk f.1 44 rfl) (by decide) ?_
  refine ex_iload_n ok_X11_keeper (mi 8 rfl) rfl ?_
  refine ex_aaldx (n := 2) ok_X11_keeper (mi 9 rfl) (by decide) (fk f.1 44 rfl) (fn f.1 44 rfl) (pk_in 0 9 (by decide)) (fo f.2.1 3 rfl) (fk f.1 45 rfl) (by decide) ?_
  refine ex_iload_n ok_X11_keeper (mi 10 rfl) rfl ?_
  refine ex_callVr (As := [_]) (v := some (.int (nI 0))) (g1 := h) ok_X11_keeper (mi 11 rfl) rfl ?c rfl (fk f.1 45 rfl) rfl rfl (by decide) (by decide) (Nat.le_of_ble_eq_true rfl) (by decide) ?_
  case c =>
    refine ex_M_of ok_X3_tell cw_X3_tell rfl hst (Nat.le_of_ble_eq_true rfl) ?_
    refine ex_iload_n ok_X3_tell (mi 0 rfl) rfl ?_
    refine ex_tblk (tgt := 77) ok_X3_tell (mi 1 rfl) (by decide) (by decide) (by decide) (by decide) ?_
    refine ex_aload_n ok_X3_tell (mi 21 rfl) rfl ?_
    refine ex_getIx ok_X3_tell (mi 22 rfl) rfl rfl (fk f.1 45 rfl) (fi f.2.2.1 115 rfl) ?_
    refine ex_iret ok_X3_tell (mi 23 rfl) rfl ?_
    exact ⟨inlI (by decide), rfl⟩
  refine ex_iret ok_X11_keeper (mi 12 rfl) rfl ?_
  exact ⟨Or.inl ⟨rfl, inlI (by decide)⟩, kp0⟩
theorem c_keeper_0_7 {G : GE} (hst : (ge_l G).stackTraces = false) {x : Nat}  : CC G 4 4 24 my_X11_keeper x [.int (nI 0), .int (nI 7)] E3 0 (nI 0) := by
  intro h f
  refine ex_M_of ok_X11_keeper cw_X11_keeper rfl hst (Nat.le_of_ble_eq_true rfl) ?_
  refine ex_iload_n ok_X11_keeper (mi 0 rfl) rfl ?_
  refine ex_bipush ok_X11_keeper (mi 1 rfl) ?_
  refine ex_callSr (As := [_, _]) ok_X11_keeper (mi 2 rfl) rfl (m_reqOk hst (pk_in 0 9 (by decide)) (by decide) (by decide)) rfl rfl rfl (by decide) (Nat.le_of_ble_eq_true rfl) (by decide) ?_
  refine ex_iload_n ok_X11_keeper (mi 3 rfl) rfl ?_
  refine ex_bipush ok_X11_keeper (mi 4 rfl) ?_
  refine ex_callSr (As := [_, _]) ok_X11_keeper (mi 5 rfl) rfl (m_reqOk hst (pk_in 7 8 (by decide)) (by decide) (by decide)) rfl rfl rfl (by decide) (Nat.le_of_ble_eq_true rfl) (by decide) ?_
  refine ex_aload_n ok_X11_keeper (mi 6 rfl) rfl ?_
  refine ex_getRx ok_X11_keeper (mi 7 rfl) rfl rfl (fk f.1 0 rfl) (fr f.1 56 rfl) (fk f.1 44 rfl) (by decide) ?_
  refine ex_iload_n ok_X11_keeper (mi 8 rfl) rfl ?_
  refine ex_aaldx (n := 2) ok_X11_keeper (mi 9 rfl) (by decide) (fk f.1 44 rfl) (fn f.1 44 rfl) (pk_in 0 9 (by decide)) (fo f.2.1 3 rfl) (fk f.1 45 rfl) (by decide) ?_
  refine ex_iload_n ok_X11_keeper (mi 10 rfl) rfl ?_
  refine ex_callVr (As := [_]) (v := some (.int (nI 0))) (g1 := h) ok_X11_keeper (mi 11 rfl) rfl ?c rfl (fk f.1 45 rfl) rfl rfl (by decide) (by decide) (Nat.le_of_ble_eq_true rfl) (by decide) ?_
  case c =>
    refine ex_M_of ok_X3_tell cw_X3_tell rfl hst (Nat.le_of_ble_eq_true rfl) ?_
    refine ex_iload_n ok_X3_tell (mi 0 rfl) rfl ?_
    refine ex_tblk (tgt := 82) ok_X3_tell (mi 1 rfl) (by decide) (by decide) (by decide) (by decide) ?_
    refine ex_aload_n ok_X3_tell (mi 24 rfl) rfl ?_
    refine ex_getIx ok_X3_tell (mi 25 rfl) rfl rfl (fk f.1 45 rfl) (fi f.2.2.1 116 rfl) ?_
    refine ex_iret ok_X3_tell (mi 26 rfl) rfl ?_
    exact ⟨inlI (by decide), rfl⟩
  refine ex_iret ok_X11_keeper (mi 12 rfl) rfl ?_
  exact ⟨Or.inl ⟨rfl, inlI (by decide)⟩, kp0⟩
theorem c_entry_0 {G : GE} (hst : (ge_l G).stackTraces = false) {x : Nat} {p1 p2 : Int32} : CC G 3 4 24 my_X11_entry x [.int (nI 0), .int p1, .int p2] E3 1 (nI 0) := by
  intro h f
  refine ex_M_of ok_X11_entry cw_X11_entry rfl hst (Nat.le_of_ble_eq_true rfl) ?_
  refine ex_iload_n ok_X11_entry (mi 0 rfl) rfl ?_
  refine ex_bipush ok_X11_entry (mi 1 rfl) ?_
  refine ex_callSr (As := [_, _]) ok_X11_entry (mi 2 rfl) rfl (m_reqOk hst (pk_in 0 9 (by decide)) (by decide) (by decide)) rfl rfl rfl (by decide) (Nat.le_of_ble_eq_true rfl) (by decide) ?_
  refine ex_aload_n ok_X11_entry (mi 3 rfl) rfl ?_
  refine ex_getRx ok_X11_entry (mi 4 rfl) rfl rfl (fk f.1 0 rfl) (fr f.1 56 rfl) (fk f.1 44 rfl) (by decide) ?_
  refine ex_iload_n ok_X11_entry (mi 5 rfl) rfl ?_
  refine ex_aaldx (n := 2) ok_X11_entry (mi 6 rfl) (by decide) (fk f.1 44 rfl) (fn f.1 44 rfl) (pk_in 0 9 (by decide)) (fo f.2.1 3 rfl) (fk f.1 45 rfl) (by decide) ?_
  refine ex_getRx ok_X11_entry (mi 7 rfl) rfl rfl (fk f.1 45 rfl) (fr f.1 57 rfl) (fk f.1 46 rfl) (by decide) ?_
  refine ex_iload_n ok_X11_entry (mi 8 rfl) rfl ?_
  refine ex_callSr (As := [_, _]) ok_X11_entry (mi 9 rfl) rfl (m_at0 hst (sh_sub 850 f.1 (by decide +kernel) (by decide +kernel)) (tA_sub 850 10 (nI 0) f.2.2.2.1 (by decide +kernel))) rfl rfl rfl (by decide) (Nat.le_of_ble_eq_true rfl) (by decide) ?_
  refine ex_istore ok_X11_entry (mi 10 rfl) ?_
  refine ex_iload ok_X11_entry (mi 11 rfl) rfl ?_
  refine ex_sipush ok_X11_entry (mi 12 rfl) ?_
  refine ex_callSt (e := 100) (As := [_, _]) ok_X11_entry (mi 13 rfl) rfl (m_reqBad (m := 300) hst (by unfold vp_in; decide) (by decide) (by decide)) rfl rfl rfl (by decide) (Nat.le_of_ble_eq_true rfl) (by decide) (fun n hn => ?_)
  exact ⟨Or.inr ⟨by decide, rfl⟩, kpZ kp0 hn⟩
theorem c_keeper_1_0 {G : GE} (hst : (ge_l G).stackTraces = false) {x : Nat}  : CC G 4 4 24 my_X11_keeper x [.int (nI 1), .int (nI 0)] E3 0 (nI 2) := by
  intro h f
  refine ex_M_of ok_X11_keeper cw_X11_keeper rfl hst (Nat.le_of_ble_eq_true rfl) ?_
  refine ex_iload_n ok_X11_keeper (mi 0 rfl) rfl ?_
  refine ex_bipush ok_X11_keeper (mi 1 rfl) ?_
  refine ex_callSr (As := [_, _]) ok_X11_keeper (mi 2 rfl) rfl (m_reqOk hst (pk_in 1 9 (by decide)) (by decide) (by decide)) rfl rfl rfl (by decide) (Nat.le_of_ble_eq_true rfl) (by decide) ?_
  refine ex_iload_n ok_X11_keeper (mi 3 rfl) rfl ?_
  refine ex_bipush ok_X11_keeper (mi 4 rfl) ?_
  refine ex_callSr (As := [_, _]) ok_X11_keeper (mi 5 rfl) rfl (m_reqOk hst (pk_in 0 8 (by decide)) (by decide) (by decide)) rfl rfl rfl (by decide) (Nat.le_of_ble_eq_true rfl) (by decide) ?_
  refine ex_aload_n ok_X11_keeper (mi 6 rfl) rfl ?_
  refine ex_getRx ok_X11_keeper (mi 7 rfl) rfl rfl (fk f.1 0 rfl) (fr f.1 56 rfl) (fk f.1 44 rfl) (by decide) ?_
  refine ex_iload_n ok_X11_keeper (mi 8 rfl) rfl ?_
  refine ex_aaldx (n := 2) ok_X11_keeper (mi 9 rfl) (by decide) (fk f.1 44 rfl) (fn f.1 44 rfl) (pk_in 1 9 (by decide)) (fo f.2.1 4 rfl) (fk f.1 47 rfl) (by decide) ?_
  refine ex_iload_n ok_X11_keeper (mi 10 rfl) rfl ?_
  refine ex_callVr (As := [_]) (v := some (.int (nI 2))) (g1 := h) ok_X11_keeper (mi 11 rfl) rfl ?c rfl (fk f.1 47 rfl) rfl rfl (by decide) (by decide) (Nat.le_of_ble_eq_true rfl) (by decide) ?_
  case c =>
    refine ex_M_of ok_X3_tell cw_X3_tell rfl hst (Nat.le_of_ble_eq_true rfl) ?_
    refine ex_iload_n ok_X3_tell (mi 0 rfl) rfl ?_
    refine ex_tblk (tgt := 44) ok_X3_tell (mi 1 rfl) (by decide) (by decide) (by decide) (by decide) ?_
    refine ex_aload_n ok_X3_tell (mi 2 rfl) rfl ?_
    refine ex_getIx ok_X3_tell (mi 3 rfl) rfl rfl (fk f.1 47 rfl) (fi f.2.2.1 117 rfl) ?_
    refine ex_iret ok_X3_tell (mi 4 rfl) rfl ?_
    exact ⟨inlI (by decide), rfl⟩
  refine ex_iret ok_X11_keeper (mi 12 rfl) rfl ?_
  exact ⟨Or.inl ⟨rfl, inlI (by decide)⟩, kp0⟩
theorem c_keeper_1_1 {G : GE} (hst : (ge_l G).stackTraces = false) {x : Nat}  : CC G 4 4 24 my_X11_keeper x [.int (nI 1), .int (nI 1)] E3 0 (nI 0) := by
  intro h f
  refine ex_M_of ok_X11_keeper cw_X11_keeper rfl hst (Nat.le_of_ble_eq_true rfl) ?_
  refine ex_iload_n ok_X11_keeper (mi 0 rfl) rfl ?_
  refine ex_bipush ok_X11_keeper (mi 1 rfl) ?_
  refine ex_callSr (As := [_, _]) ok_X11_keeper (mi 2 rfl) rfl (m_reqOk hst (pk_in 1 9 (by decide)) (by decide) (by decide)) rfl rfl rfl (by decide) (Nat.le_of_ble_eq_true rfl) (by decide) ?_
  refine ex_iload_n ok_X11_keeper (mi 3 rfl) rfl ?_
  refine ex_bipush ok_X11_keeper (mi 4 rfl) ?_
  refine ex_callSr (As := [_, _]) ok_X11_keeper (mi 5 rfl) rfl (m_reqOk hst (pk_in 1 8 (by decide)) (by decide) (by decide)) rfl rfl rfl (by decide) (Nat.le_of_ble_eq_true rfl) (by decide) ?_
  refine ex_aload_n ok_X11_keeper (mi 6 rfl) rfl ?_
  refine ex_getRx ok_X11_keeper (mi 7 rfl) rfl rfl (fk f.1 0 rfl) (fr f.1 56 rfl) (fk f.1 44 rfl) (by decide) ?_
  refine ex_iload_n ok_X11_keeper (mi 8 rfl) rfl ?_
  refine ex_aaldx (n := 2) ok_X11_keeper (mi 9 rfl) (by decide) (fk f.1 44 rfl) (fn f.1 44 rfl) (pk_in 1 9 (by decide)) (fo f.2.1 4 rfl) (fk f.1 47 rfl) (by decide) ?_
  refine ex_iload_n ok_X11_keeper (mi 10 rfl) rfl ?_
  refine ex_callVr (As := [_]) (v := some (.int (nI 0))) (g1 := h) ok_X11_keeper (mi 11 rfl) rfl ?c rfl (fk f.1 47 rfl) rfl rfl (by decide) (by decide) (Nat.le_of_ble_eq_true rfl) (by decide) ?_
  case c =>
    refine ex_M_of ok_X3_tell cw_X3_tell rfl hst (Nat.le_of_ble_eq_true rfl) ?_
    refine ex_iload_n ok_X3_tell (mi 0 rfl) rfl ?_
    refine ex_tblk (tgt := 49) ok_X3_tell (mi 1 rfl) (by decide) (by decide) (by decide) (by decide) ?_
    refine ex_aload_n ok_X3_tell (mi 5 rfl) rfl ?_
    refine ex_getIx ok_X3_tell (mi 6 rfl) rfl rfl (fk f.1 47 rfl) (fi f.2.2.1 118 rfl) ?_
    refine ex_iret ok_X3_tell (mi 7 rfl) rfl ?_
    exact ⟨inlI (by decide), rfl⟩
  refine ex_iret ok_X11_keeper (mi 12 rfl) rfl ?_
  exact ⟨Or.inl ⟨rfl, inlI (by decide)⟩, kp0⟩
theorem c_keeper_1_2 {G : GE} (hst : (ge_l G).stackTraces = false) {x : Nat}  : CC G 4 4 24 my_X11_keeper x [.int (nI 1), .int (nI 2)] E3 0 (nI 0) := by
  intro h f
  refine ex_M_of ok_X11_keeper cw_X11_keeper rfl hst (Nat.le_of_ble_eq_true rfl) ?_
  refine ex_iload_n ok_X11_keeper (mi 0 rfl) rfl ?_
  refine ex_bipush ok_X11_keeper (mi 1 rfl) ?_
  refine ex_callSr (As := [_, _]) ok_X11_keeper (mi 2 rfl) rfl (m_reqOk hst (pk_in 1 9 (by decide)) (by decide) (by decide)) rfl rfl rfl (by decide) (Nat.le_of_ble_eq_true rfl) (by decide) ?_
  refine ex_iload_n ok_X11_keeper (mi 3 rfl) rfl ?_
  refine ex_bipush ok_X11_keeper (mi 4 rfl) ?_
  refine ex_callSr (As := [_, _]) ok_X11_keeper (mi 5 rfl) rfl (m_reqOk hst (pk_in 2 8 (by decide)) (by decide) (by decide)) rfl rfl rfl (by decide) (Nat.le_of_ble_eq_true rfl) (by decide) ?_
  refine ex_aload_n ok_X11_keeper (mi 6 rfl) rfl ?_
  refine ex_getRx ok_X11_keeper (mi 7 rfl) rfl rfl (fk f.1 0 rfl) (fr f.1 56 rfl) (fk f.1 44 rfl) (by decide) ?_
  refine ex_iload_n ok_X11_keeper (mi 8 rfl) rfl ?_
  refine ex_aaldx (n := 2) ok_X11_keeper (mi 9 rfl) (by decide) (fk f.1 44 rfl) (fn f.1 44 rfl) (pk_in 1 9 (by decide)) (fo f.2.1 4 rfl) (fk f.1 47 rfl) (by decide) ?_
  refine ex_iload_n ok_X11_keeper (mi 10 rfl) rfl ?_
  refine ex_callVr (As := [_]) (v := some (.int (nI 0))) (g1 := h) ok_X11_keeper (mi 11 rfl) rfl ?c rfl (fk f.1 47 rfl) rfl rfl (by decide) (by decide) (Nat.le_of_ble_eq_true rfl) (by decide) ?_
  case c =>
    refine ex_M_of ok_X3_tell cw_X3_tell rfl hst (Nat.le_of_ble_eq_true rfl) ?_
    refine ex_iload_n ok_X3_tell (mi 0 rfl) rfl ?_
    refine ex_tblk (tgt := 54) ok_X3_tell (mi 1 rfl) (by decide) (by decide) (by decide) (by decide) ?_
    refine ex_aload_n ok_X3_tell (mi 8 rfl) rfl ?_
    refine ex_getIx ok_X3_tell (mi 9 rfl) rfl rfl (fk f.1 47 rfl) (fi f.2.2.1 120 rfl) ?_
    refine ex_iret ok_X3_tell (mi 10 rfl) rfl ?_
    exact ⟨inlI (by decide), rfl⟩
  refine ex_iret ok_X11_keeper (mi 12 rfl) rfl ?_
  exact ⟨Or.inl ⟨rfl, inlI (by decide)⟩, kp0⟩
theorem c_keeper_1_3 {G : GE} (hst : (ge_l G).stackTraces = false) {x : Nat}  : CC G 4 4 24 my_X11_keeper x [.int (nI 1), .int (nI 3)] E3 0 (nI 0) := by
  intro h f
  refine ex_M_of ok_X11_keeper cw_X11_keeper rfl hst (Nat.le_of_ble_eq_true rfl) ?_
  refine ex_iload_n ok_X11_keeper (mi 0 rfl) rfl ?_
  refine ex_bipush ok_X11_keeper (mi 1 rfl) ?_
  refine ex_callSr (As := [_, _]) ok_X11_keeper (mi 2 rfl) rfl (m_reqOk hst (pk_in 1 9 (by decide)) (by decide) (by decide)) rfl rfl rfl (by decide) (Nat.le_of_ble_eq_true rfl) (by decide) ?_
  refine ex_iload_n ok_X11_keeper (mi 3 rfl) rfl ?_
  refine ex_bipush ok_X11_keeper (mi 4 rfl) ?_
  refine ex_callSr (As := [_, _]) ok_X11_keeper (mi 5 rfl) rfl (m_reqOk hst (pk_in 3 8 (by decide)) (by decide) (by decide)) rfl rfl rfl (by decide) (Nat.le_of_ble_eq_true rfl) (by decide) ?_
  refine ex_aload_n ok_X11_keeper (mi 6 rfl) rfl ?_
  refine ex_getRx ok_X11_keeper (mi 7 rfl) rfl rfl (fk f.1 0 rfl) (fr f.1 56 rfl) (fk f.1 44 rfl) (by decide) ?_
  refine ex_iload_n ok_X11_keeper (mi 8 rfl) rfl ?_
  refine ex_aaldx (n := 2) ok_X11_keeper (mi 9 rfl) (by decide) (fk f.1 44 rfl) (fn f.1 44 rfl) (pk_in 1 9 (by decide)) (fo f.2.1 4 rfl) (fk f.1 47 rfl) (by decide) ?_
  refine ex_iload_n ok_X11_keeper (mi 10 rfl) rfl ?_
  refine ex_callVr (As := [_]) (v := some (.int (nI 0))) (g1 := h) ok_X11_keeper (mi 11 rfl) rfl ?c rfl (fk f.1 47 rfl) rfl rfl (by decide) (by decide) (Nat.le_of_ble_eq_true rfl) (by decide) ?_
  case c =>
    refine ex_M_of ok_X3_tell cw_X3_tell rfl hst (Nat.le_of_ble_eq_true rfl) ?_
    refine ex_iload_n ok_X3_tell (mi 0 rfl) rfl ?_
    refine ex_tblk (tgt := 59) ok_X3_tell (mi 1 rfl) (by decide) (by decide) (by decide) (by decide) ?_
    refine ex_aload_n ok_X3_tell (mi 11 rfl) rfl ?_
    refine ex_getRx ok_X3_tell (mi 12 rfl) rfl rfl (fk f.1 47 rfl) (fr f.1 60 rfl) (fk f.1 48 rfl) (by decide) ?_
    refine ex_callSr (As := [_]) ok_X3_tell (mi 13 rfl) rfl (m_X7_size0 hst (sh_sub 852 f.1 (by decide +kernel) (by decide +kernel)) (tA_sub 852 10 (nI 0) f.2.2.2.1 (by decide +kernel))) rfl rfl rfl (by decide) (Nat.le_of_ble_eq_true rfl) (by decide) ?_
    refine ex_iret ok_X3_tell (mi 14 rfl) rfl ?_
    exact ⟨inlI (by decide), rfl⟩
  refine ex_iret ok_X11_keeper (mi 12 rfl) rfl ?_
  exact ⟨Or.inl ⟨rfl, inlI (by decide)⟩, kp0⟩
theorem c_keeper_1_4 {G : GE} (hst : (ge_l G).stackTraces = false) {x : Nat}  : CC G 4 4 24 my_X11_keeper x [.int (nI 1), .int (nI 4)] E3 0 ((-1)) := by
  intro h f
  refine ex_M_of ok_X11_keeper cw_X11_keeper rfl hst (Nat.le_of_ble_eq_true rfl) ?_
  refine ex_iload_n ok_X11_keeper (mi 0 rfl) rfl ?_
  refine ex_bipush ok_X11_keeper (mi 1 rfl) ?_
  refine ex_callSr (As := [_, _]) ok_X11_keeper (mi 2 rfl) rfl (m_reqOk hst (pk_in 1 9 (by decide)) (by decide) (by decide)) rfl rfl rfl (by decide) (Nat.le_of_ble_eq_true rfl) (by decide) ?_
  refine ex_iload_n ok_X11_keeper (mi 3 rfl) rfl ?_
  refine ex_bipush ok_X11_keeper (mi 4 rfl) ?_
  refine ex_callSr (As := [_, _]) ok_X11_keeper (mi 5 rfl) rfl (m_reqOk hst (pk_in 4 8 (by decide)) (by decide) (by decide)) rfl rfl rfl (by decide) (Nat.le_of_ble_eq_true rfl) (by decide) ?_
  refine ex_aload_n ok_X11_keeper (mi 6 rfl) rfl ?_
  refine ex_getRx ok_X11_keeper (mi 7 rfl) rfl rfl (fk f.1 0 rfl) (fr f.1 56 rfl) (fk f.1 44 rfl) (by decide) ?_
  refine ex_iload_n ok_X11_keeper (mi 8 rfl) rfl ?_
  refine ex_aaldx (n := 2) ok_X11_keeper (mi 9 rfl) (by decide) (fk f.1 44 rfl) (fn f.1 44 rfl) (pk_in 1 9 (by decide)) (fo f.2.1 4 rfl) (fk f.1 47 rfl) (by decide) ?_
  refine ex_iload_n ok_X11_keeper (mi 10 rfl) rfl ?_
  refine ex_callVr (As := [_]) (v := some (.int (-1))) (g1 := h) ok_X11_keeper (mi 11 rfl) rfl ?c rfl (fk f.1 47 rfl) rfl rfl (by decide) (by decide) (Nat.le_of_ble_eq_true rfl) (by decide) ?_
  case c =>
    refine ex_M_of ok_X3_tell cw_X3_tell rfl hst (Nat.le_of_ble_eq_true rfl) ?_
    refine ex_iload_n ok_X3_tell (mi 0 rfl) rfl ?_
    refine ex_tblk (tgt := 67) ok_X3_tell (mi 1 rfl) (by decide) (by decide) (by decide) (by decide) ?_
    refine ex_aload_n ok_X3_tell (mi 15 rfl) rfl ?_
    refine ex_getIx ok_X3_tell (mi 16 rfl) rfl rfl (fk f.1 47 rfl) (fi f.2.2.1 121 rfl) ?_
    refine ex_iret ok_X3_tell (mi 17 rfl) rfl ?_
    exact ⟨inlI (by decide), rfl⟩
  refine ex_iret ok_X11_keeper (mi 12 rfl) rfl ?_
  exact ⟨Or.inl ⟨rfl, inlI (by decide)⟩, kp0⟩
theorem c_keeper_1_5 {G : GE} (hst : (ge_l G).stackTraces = false) {x : Nat}  : CC G 4 4 24 my_X11_keeper x [.int (nI 1), .int (nI 5)] E3 0 ((-1)) := by
  intro h f
  refine ex_M_of ok_X11_keeper cw_X11_keeper rfl hst (Nat.le_of_ble_eq_true rfl) ?_
  refine ex_iload_n ok_X11_keeper (mi 0 rfl) rfl ?_
  refine ex_bipush ok_X11_keeper (mi 1 rfl) ?_
  refine ex_callSr (As := [_, _]) ok_X11_keeper (mi 2 rfl) rfl (m_reqOk hst (pk_in 1 9 (by decide)) (by decide) (by decide)) rfl rfl rfl (by decide) (Nat.le_of_ble_eq_true rfl) (by decide) ?_
  refine ex_iload_n ok_X11_keeper (mi 3 rfl) rfl ?_
  refine ex_bipush ok_X11_keeper (mi 4 rfl) ?_
  refine ex_callSr (As := [_, _]) ok_X11_keeper (mi 5 rfl) rfl (m_reqOk hst (pk_in 5 8 (by decide)) (by decide) (by decide)) rfl rfl rfl (by decide) (Nat.le_of_ble_eq_true rfl) (by decide) ?_
  refine ex_aload_n ok_X11_keeper (mi 6 rfl) rfl ?_
  refine ex_getRx ok_X11_keeper (mi 7 rfl) rfl rfl (fk f.1 0 rfl) (fr f.1 56 rfl) (fk f.1 44 rfl) (by decide) ?_
  refine ex_iload_n ok_X11_keeper (mi 8 rfl) rfl ?_
  refine ex_aaldx (n := 2) ok_X11_keeper (mi 9 rfl) (by decide) (fk f.1 44 rfl) (fn f.1 44 rfl) (pk_in 1 9 (by decide)) (fo f.2.1 4 rfl) (fk f.1 47 rfl) (by decide) ?_
  refine ex_iload_n ok_X11_keeper (mi 10 rfl) rfl ?_
  refine ex_callVr (As := [_]) (v := some (.int (-1))) (g1 := h) ok_X11_keeper (mi 11 rfl) rfl ?c rfl (fk f.1 47 rfl) rfl rfl (by decide) (by decide) (Nat.le_of_ble_eq_true rfl) (by decide) ?_
  case c =>
    refine ex_M_of ok_X3_tell cw_X3_tell rfl hst (Nat.le_of_ble_eq_true rfl) ?_
    refine ex_iload_n ok_X3_tell (mi 0 rfl) rfl ?_
    refine ex_tblk (tgt := 72) ok_X3_tell (mi 1 rfl) (by decide) (by decide) (by decide) (by decide) ?_
    refine ex_aload_n ok_X3_tell (mi 18 rfl) rfl ?_
    refine ex_getIx ok_X3_tell (mi 19 rfl) rfl rfl (fk f.1 47 rfl) (fi f.2.2.1 122 rfl) ?_
    refine ex_iret ok_X3_tell (mi 20 rfl) rfl ?_
    exact ⟨inlI (by decide), rfl⟩
  refine ex_iret ok_X11_keeper (mi 12 rfl) rfl ?_
  exact ⟨Or.inl ⟨rfl, inlI (by decide)⟩, kp0⟩
theorem c_keeper_1_6 {G : GE} (hst : (ge_l G).stackTraces = false) {x : Nat}  : CC G 4 4 24 my_X11_keeper x [.int (nI 1), .int (nI 6)] E3 0 (nI 0) := by
  intro h f
  refine ex_M_of ok_X11_keeper cw_X11_keeper rfl hst (Nat.le_of_ble_eq_true rfl) ?_
  refine ex_iload_n ok_X11_keeper (mi 0 rfl) rfl ?_
  refine ex_bipush ok_X11_keeper (mi 1 rfl) ?_
  refine ex_callSr (As := [_, _]) ok_X11_keeper (mi 2 rfl) rfl (m_reqOk hst (pk_in 1 9 (by decide)) (by decide) (by decide)) rfl rfl rfl (by decide) (Nat.le_of_ble_eq_true rfl) (by decide) ?_
  refine ex_iload_n ok_X11_keeper (mi 3 rfl) rfl ?_
  refine ex_bipush ok_X11_keeper (mi 4 rfl) ?_
  refine ex_callSr (As := [_, _]) ok_X11_keeper (mi 5 rfl) rfl (m_reqOk hst (pk_in 6 8 (by decide)) (by decide) (by decide)) rfl rfl rfl (by decide) (Nat.le_of_ble_eq_true rfl) (by decide) ?_
  refine ex_aload_n ok_X11_keeper (mi 6 rfl) rfl ?_
  refine ex_getRx ok_X11_keeper (mi 7 rfl) rfl rfl (fk f.1 0 rfl) (fr f.1 56 rfl) (fk f.1 44 rfl) (by decide) ?_
  refine ex_iload_n ok_X11_keeper (mi 8 rfl) rfl ?_
  refine ex_aaldx (n := 2) ok_X11_keeper (mi 9 rfl) (by decide) (fk f.1 44 rfl) (fn f.1 44 rfl) (pk_in 1 9 (by decide)) (fo f.2.1 4 rfl) (fk f.1 47 rfl) (by decide) ?_
  refine ex_iload_n ok_X11_keeper (mi 10 rfl) rfl ?_
  refine ex_callVr (As := [_]) (v := some (.int (nI 0))) (g1 := h) ok_X11_keeper (mi 11 rfl) rfl ?c rfl (fk f.1 47 rfl) rfl rfl (by decide) (by decide) (Nat.le_of_ble_eq_true rfl) (by decide) ?_
  case c =>
    refine ex_M_of ok_X3_tell cw_X3_tell rfl hst (Nat.le_of_ble_eq_true rfl) ?_
    refine ex_iload_n ok_X3_tell (mi 0 rfl) rfl ?_
    refine ex_tblk (tgt := 77) ok_X3_tell (mi 1 rfl) (by decide) (by decide) (by decide) (by decide) ?_
    refine ex_aload_n ok_X3_tell (mi 21 rfl) rfl ?_
    refine ex_getIx ok_X3_tell (mi 22 rfl) rfl rfl (fk f.1 47 rfl) (fi f.2.2.1 123 rfl) ?_
    refine ex_iret ok_X3_tell (mi 23 rfl) rfl ?_
    exact ⟨inlI (by decide), rfl⟩
  refine ex_iret ok_X11_keeper (mi 12 rfl) rfl ?_
  exact ⟨Or.inl ⟨rfl, inlI (by decide)⟩, kp0⟩
theorem c_keeper_1_7 {G : GE} (hst : (ge_l G).stackTraces = false) {x : Nat}  : CC G 4 4 24 my_X11_keeper x [.int (nI 1), .int (nI 7)] E3 0 (nI 0) := by
  intro h f
  refine ex_M_of ok_X11_keeper cw_X11_keeper rfl hst (Nat.le_of_ble_eq_true rfl) ?_
  refine ex_iload_n ok_X11_keeper (mi 0 rfl) rfl ?_
  refine ex_bipush ok_X11_keeper (mi 1 rfl) ?_
  refine ex_callSr (As := [_, _]) ok_X11_keeper (mi 2 rfl) rfl (m_reqOk hst (pk_in 1 9 (by decide)) (by decide) (by decide)) rfl rfl rfl (by decide) (Nat.le_of_ble_eq_true rfl) (by decide) ?_
  refine ex_iload_n ok_X11_keeper (mi 3 rfl) rfl ?_
  refine ex_bipush ok_X11_keeper (mi 4 rfl) ?_
  refine ex_callSr (As := [_, _]) ok_X11_keeper (mi 5 rfl) rfl (m_reqOk hst (pk_in 7 8 (by decide)) (by decide) (by decide)) rfl rfl rfl (by decide) (Nat.le_of_ble_eq_true rfl) (by decide) ?_
  refine ex_aload_n ok_X11_keeper (mi 6 rfl) rfl ?_
  refine ex_getRx ok_X11_keeper (mi 7 rfl) rfl rfl (fk f.1 0 rfl) (fr f.1 56 rfl) (fk f.1 44 rfl) (by decide) ?_
  refine ex_iload_n ok_X11_keeper (mi 8 rfl) rfl ?_
  refine ex_aaldx (n := 2) ok_X11_keeper (mi 9 rfl) (by decide) (fk f.1 44 rfl) (fn f.1 44 rfl) (pk_in 1 9 (by decide)) (fo f.2.1 4 rfl) (fk f.1 47 rfl) (by decide) ?_
  refine ex_iload_n ok_X11_keeper (mi 10 rfl) rfl ?_
  refine ex_callVr (As := [_]) (v := some (.int (nI 0))) (g1 := h) ok_X11_keeper (mi 11 rfl) rfl ?c rfl (fk f.1 47 rfl) rfl rfl (by decide) (by decide) (Nat.le_of_ble_eq_true rfl) (by decide) ?_
  case c =>
    refine ex_M_of ok_X3_tell cw_X3_tell rfl hst (Nat.le_of_ble_eq_true rfl) ?_
    refine ex_iload_n ok_X3_tell (mi 0 rfl) rfl ?_
    refine ex_tblk (tgt := 82) ok_X3_tell (mi 1 rfl) (by decide) (by decide) (by decide) (by decide) ?_
    refine ex_aload_n ok_X3_tell (mi 24 rfl) rfl ?_
    refine ex_getIx ok_X3_tell (mi 25 rfl) rfl rfl (fk f.1 47 rfl) (fi f.2.2.1 124 rfl) ?_
    refine ex_iret ok_X3_tell (mi 26 rfl) rfl ?_
    exact ⟨inlI (by decide), rfl⟩
  refine ex_iret ok_X11_keeper (mi 12 rfl) rfl ?_
  exact ⟨Or.inl ⟨rfl, inlI (by decide)⟩, kp0⟩
theorem c_entry_1 {G : GE} (hst : (ge_l G).stackTraces = false) {x : Nat} {p1 p2 : Int32} : CC G 3 4 24 my_X11_entry x [.int (nI 1), .int p1, .int p2] E3 1 (nI 0) := by
  intro h f
  refine ex_M_of ok_X11_entry cw_X11_entry rfl hst (Nat.le_of_ble_eq_true rfl) ?_
  refine ex_iload_n ok_X11_entry (mi 0 rfl) rfl ?_
  refine ex_bipush ok_X11_entry (mi 1 rfl) ?_
  refine ex_callSr (As := [_, _]) ok_X11_entry (mi 2 rfl) rfl (m_reqOk hst (pk_in 1 9 (by decide)) (by decide) (by decide)) rfl rfl rfl (by decide) (Nat.le_of_ble_eq_true rfl) (by decide) ?_
  refine ex_aload_n ok_X11_entry (mi 3 rfl) rfl ?_
  refine ex_getRx ok_X11_entry (mi 4 rfl) rfl rfl (fk f.1 0 rfl) (fr f.1 56 rfl) (fk f.1 44 rfl) (by decide) ?_
  refine ex_iload_n ok_X11_entry (mi 5 rfl) rfl ?_
  refine ex_aaldx (n := 2) ok_X11_entry (mi 6 rfl) (by decide) (fk f.1 44 rfl) (fn f.1 44 rfl) (pk_in 1 9 (by decide)) (fo f.2.1 4 rfl) (fk f.1 47 rfl) (by decide) ?_
  refine ex_getRx ok_X11_entry (mi 7 rfl) rfl rfl (fk f.1 47 rfl) (fr f.1 60 rfl) (fk f.1 48 rfl) (by decide) ?_
  refine ex_iload_n ok_X11_entry (mi 8 rfl) rfl ?_
  refine ex_callSr (As := [_, _]) ok_X11_entry (mi 9 rfl) rfl (m_at0 hst (sh_sub 852 f.1 (by decide +kernel) (by decide +kernel)) (tA_sub 852 10 (nI 0) f.2.2.2.1 (by decide +kernel))) rfl rfl rfl (by decide) (Nat.le_of_ble_eq_true rfl) (by decide) ?_
  refine ex_istore ok_X11_entry (mi 10 rfl) ?_
  refine ex_iload ok_X11_entry (mi 11 rfl) rfl ?_
  refine ex_sipush ok_X11_entry (mi 12 rfl) ?_
  refine ex_callSt (e := 100) (As := [_, _]) ok_X11_entry (mi 13 rfl) rfl (m_reqBad (m := 300) hst (by unfold vp_in; decide) (by decide) (by decide)) rfl rfl rfl (by decide) (Nat.le_of_ble_eq_true rfl) (by decide) (fun n hn => ?_)
  exact ⟨Or.inr ⟨by decide, rfl⟩, kpZ kp0 hn⟩
theorem c_keeper_2_0 {G : GE} (hst : (ge_l G).stackTraces = false) {x : Nat}  : CC G 4 4 24 my_X11_keeper x [.int (nI 2), .int (nI 0)] E3 0 (nI 2) := by
  intro h f
  refine ex_M_of ok_X11_keeper cw_X11_keeper rfl hst (Nat.le_of_ble_eq_true rfl) ?_
  refine ex_iload_n ok_X11_keeper (mi 0 rfl) rfl ?_
  refine ex_bipush ok_X11_keeper (mi 1 rfl) ?_
  refine ex_callSr (As := [_, _]) ok_X11_keeper (mi 2 rfl) rfl (m_reqOk hst (pk_in 2 9 (by decide)) (by decide) (by decide)) rfl rfl rfl (by decide) (Nat.le_of_ble_eq_true rfl) (by decide) ?_
  refine ex_iload_n ok_X11_keeper (mi 3 rfl) rfl ?_
  refine ex_bipush ok_X11_keeper (mi 4 rfl) ?_
  refine ex_callSr (As := [_, _]) ok_X11_keeper (mi 5 rfl) rfl (m_reqOk hst (pk_in 0 8 (by decide)) (by decide) (by decide)) rfl rfl rfl (by decide) (Nat.le_of_ble_eq_true rfl) (by decide) ?_
  refine ex_aload_n ok_X11_keeper (mi 6 rfl) rfl ?_
  refine ex_getRx ok_X11_keeper (mi 7 rfl) rfl rfl (fk f.1 0 rfl) (fr f.1 56 rfl) (fk f.1 44 rfl) (by decide) ?_
  refine ex_iload_n ok_X11_keeper (mi 8 rfl) rfl ?_
  refine ex_aaldx (n := 2) ok_X11_keeper (mi 9 rfl) (by decide) (fk f.1 44 rfl) (fn f.1 44 rfl) (pk_in 2 9 (by decide)) (fo f.2.1 5 rfl) (fk f.1 49 rfl) (by decide) ?_
  refine ex_iload_n ok_X11_keeper (mi 10 rfl) rfl ?_
  refine ex_callVr (As := [_]) (v := some (.int (nI 2))) (g1 := h) ok_X11_keeper (mi 11 rfl) rfl ?c rfl (fk f.1 49 rfl) rfl rfl (by decide) (by decide) (Nat.le_of_ble_eq_true rfl) (by decide) ?_
  case c =>
    refine ex_M_of ok_X3_tell cw_X3_tell rfl hst (Nat.le_of_ble_eq_true rfl) ?_
    refine ex_iload_n ok_X3_tell (mi 0 rfl) rfl ?_
    refine ex_tblk (tgt := 44) ok_X3_tell (mi 1 rfl) (by decide) (by decide) (by decide) (by decide) ?_
    refine ex_aload_n ok_X3_tell (mi 2 rfl) rfl ?_
    refine ex_getIx ok_X3_tell (mi 3 rfl) rfl rfl (fk f.1 49 rfl) (fi f.2.2.1 125 rfl) ?_
    refine ex_iret ok_X3_tell (mi 4 rfl) rfl ?_
    exact ⟨inlI (by decide), rfl⟩
  refine ex_iret ok_X11_keeper (mi 12 rfl) rfl ?_
  exact ⟨Or.inl ⟨rfl, inlI (by decide)⟩, kp0⟩
theorem c_keeper_2_1 {G : GE} (hst : (ge_l G).stackTraces = false) {x : Nat}  : CC G 4 4 24 my_X11_keeper x [.int (nI 2), .int (nI 1)] E3 0 (nI 0) := by
  intro h f
  refine ex_M_of ok_X11_keeper cw_X11_keeper rfl hst (Nat.le_of_ble_eq_true rfl) ?_
  refine ex_iload_n ok_X11_keeper (mi 0 rfl) rfl ?_
  refine ex_bipush ok_X11_keeper (mi 1 rfl) ?_
  refine ex_callSr (As := [_, _]) ok_X11_keeper (mi 2 rfl) rfl (m_reqOk hst (pk_in 2 9 (by decide)) (by decide) (by decide)) rfl rfl rfl (by decide) (Nat.le_of_ble_eq_true rfl) (by decide) ?_
  refine ex_iload_n ok_X11_keeper (mi 3 rfl) rfl ?_
  refine ex_bipush ok_X11_keeper (mi 4 rfl) ?_
  refine ex_callSr (As := [_, _]) ok_X11_keeper (mi 5 rfl) rfl (m_reqOk hst (pk_in 1 8 (by decide)) (by decide) (by decide)) rfl rfl rfl (by decide) (Nat.le_of_ble_eq_true rfl) (by decide) ?_
  refine ex_aload_n ok_X11_keeper (mi 6 rfl) rfl ?_
  refine ex_getRx ok_X11_keeper (mi 7 rfl) rfl rfl (fk f.1 0 rfl) (fr f.1 56 rfl) (fk f.1 44 rfl) (by decide) ?_
  refine ex_iload_n ok_X11_keeper (mi 8 rfl) rfl ?_
  refine ex_aaldx (n := 2) ok_X11_keeper (mi 9 rfl) (by decide) (fk f.1 44 rfl) (fn f.1 44 rfl) (pk_in 2 9 (by decide)) (fo f.2.1 5 rfl) (fk f.1 49 rfl) (by decide) ?_
  refine ex_iload_n ok_X11_keeper (mi 10 rfl) rfl ?_
  refine ex_callVr (As := [_]) (v := some (.int (nI 0))) (g1 := h) ok_X11_keeper (mi 11 rfl) rfl ?c rfl (fk f.1 49 rfl) rfl rfl (by decide) (by decide) (Nat.le_of_ble_eq_true rfl) (by decide) ?_
  case c =>
    refine ex_M_of ok_X3_tell cw_X3_tell rfl hst (Nat.le_of_ble_eq_true rfl) ?_
    refine ex_iload_n ok_X3_tell (mi 0 rfl) rfl ?_
    refine ex_tblk (tgt := 49) ok_X3_tell (mi 1 rfl) (by decide) (by decide) (by decide) (by decide) ?_
    refine ex_aload_n ok_X3_tell (mi 5 rfl) rfl ?_
    refine ex_getIx ok_X3_tell (mi 6 rfl) rfl rfl (fk f.1 49 rfl) (fi f.2.2.1 126 rfl) ?_
    refine ex_iret ok_X3_tell (mi 7 rfl) rfl ?_
    exact ⟨inlI (by decide), rfl⟩
  refine ex_iret ok_X11_keeper (mi 12 rfl) rfl ?_
  exact ⟨Or.inl ⟨rfl, inlI (by decide)⟩, kp0⟩
theorem c_keeper_2_2 {G : GE} (hst : (ge_l G).stackTraces = false) {x : Nat}  : CC G 4 4 24 my_X11_keeper x [.int (nI 2), .int (nI 2)] E3 0 (nI 0) := by
  intro h f
  refine ex_M_of ok_X11_keeper cw_X11_keeper rfl hst (Nat.le_of_ble_eq_true rfl) ?_
  refine ex_iload_n ok_X11_keeper (mi 0 rfl) rfl ?_
  refine ex_bipush ok_X11_keeper (mi 1 rfl) ?_
  refine ex_callSr (As := [_, _]) ok_X11_keeper (mi 2 rfl) rfl (m_reqOk hst (pk_in 2 9 (by decide)) (by decide) (by decide)) rfl rfl rfl (by decide) (Nat.le_of_ble_eq_true rfl) (by decide) ?_
  refine ex_iload_n ok_X11_keeper (mi 3 rfl) rfl ?_
  refine ex_bipush ok_X11_keeper (mi 4 rfl) ?_
  refine ex_callSr (As := [_, _]) ok_X11_keeper (mi 5 rfl) rfl (m_reqOk hst (pk_in 2 8 (by decide)) (by decide) (by decide)) rfl rfl rfl (by decide) (Nat.le_of_ble_eq_true rfl) (by decide) ?_
  refine ex_aload_n ok_X11_keeper (mi 6 rfl) rfl ?_
  refine ex_getRx ok_X11_keeper (mi 7 rfl) rfl rfl (fk f.1 0 rfl) (fr f.1 56 rfl) (fk f.1 44 rfl) (by decide) ?_
  refine ex_iload_n ok_X11_keeper (mi 8 rfl) rfl ?_
  refine ex_aaldx (n := 2) ok_X11_keeper (mi 9 rfl) (by decide) (fk f.1 44 rfl) (fn f.1 44 rfl) (pk_in 2 9 (by decide)) (fo f.2.1 5 rfl) (fk f.1 49 rfl) (by decide) ?_
  refine ex_iload_n ok_X11_keeper (mi 10 rfl) rfl ?_
  refine ex_callVr (As := [_]) (v := some (.int (nI 0))) (g1 := h) ok_X11_keeper (mi 11 rfl) rfl ?c rfl (fk f.1 49 rfl) rfl rfl (by decide) (by decide) (Nat.le_of_ble_eq_true rfl) (by decide) ?_
  case c =>
    refine ex_M_of ok_X3_tell cw_X3_tell rfl hst (Nat.le_of_ble_eq_true rfl) ?_
    refine ex_iload_n ok_X3_tell (mi 0 rfl) rfl ?_
    refine ex_tblk (tgt := 54) ok_X3_tell (mi 1 rfl) (by decide) (by decide) (by decide) (by decide) ?_
    refine ex_aload_n ok_X3_tell (mi 8 rfl) rfl ?_
    refine ex_getIx ok_X3_tell (mi 9 rfl) rfl rfl (fk f.1 49 rfl) (fi f.2.2.1 128 rfl) ?_
    refine ex_iret ok_X3_tell (mi 10 rfl) rfl ?_
    exact ⟨inlI (by decide), rfl⟩
  refine ex_iret ok_X11_keeper (mi 12 rfl) rfl ?_
  exact ⟨Or.inl ⟨rfl, inlI (by decide)⟩, kp0⟩
theorem c_keeper_2_3 {G : GE} (hst : (ge_l G).stackTraces = false) {x : Nat}  : CC G 4 4 24 my_X11_keeper x [.int (nI 2), .int (nI 3)] E3 0 (nI 0) := by
  intro h f
  refine ex_M_of ok_X11_keeper cw_X11_keeper rfl hst (Nat.le_of_ble_eq_true rfl) ?_
  refine ex_iload_n ok_X11_keeper (mi 0 rfl) rfl ?_
  refine ex_bipush ok_X11_keeper (mi 1 rfl) ?_
  refine ex_callSr (As := [_, _]) ok_X11_keeper (mi 2 rfl) rfl (m_reqOk hst (pk_in 2 9 (by decide)) (by decide) (by decide)) rfl rfl rfl (by decide) (Nat.le_of_ble_eq_true rfl) (by decide) ?_
  refine ex_iload_n ok_X11_keeper (mi 3 rfl) rfl ?_
  refine ex_bipush ok_X11_keeper (mi 4 rfl) ?_
  refine ex_callSr (As := [_, _]) ok_X11_keeper (mi 5 rfl) rfl (m_reqOk hst (pk_in 3 8 (by decide)) (by decide) (by decide)) rfl rfl rfl (by decide) (Nat.le_of_ble_eq_true rfl) (by decide) ?_
  refine ex_aload_n ok_X11_keeper (mi 6 rfl) rfl ?_
  refine ex_getRx ok_X11_keeper (mi 7 rfl) rfl rfl (fk f.1 0 rfl) (fr f.1 56 rfl) (fk f.1 44 rfl) (by decide) ?_
  refine ex_iload_n ok_X11_keeper (mi 8 rfl) rfl ?_
  refine ex_aaldx (n := 2) ok_X11_keeper (mi 9 rfl) (by decide) (fk f.1 44 rfl) (fn f.1 44 rfl) (pk_in 2 9 (by decide)) (fo f.2.1 5 rfl) (fk f.1 49 rfl) (by decide) ?_
  refine ex_iload_n ok_X11_keeper (mi 10 rfl) rfl ?_
  refine ex_callVr (As := [_]) (v := some (.int (nI 0))) (g1 := h) ok_X11_keeper (mi 11 rfl) rfl ?c rfl (fk f.1 49 rfl) rfl rfl (by decide) (by decide) (Nat.le_of_ble_eq_true rfl) (by decide) ?_
  case c =>
    refine ex_M_of ok_X3_tell cw_X3_tell rfl hst (Nat.le_of_ble_eq_true rfl) ?_
    refine ex_iload_n ok_X3_tell (mi 0 rfl) rfl ?_
    refine ex_tblk (tgt := 59) ok_X3_tell (mi 1 rfl) (by decide) (by decide) (by decide) (by decide) ?_
    refine ex_aload_n ok_X3_tell (mi 11 rfl) rfl ?_
    refine ex_getRx ok_X3_tell (mi 12 rfl) rfl rfl (fk f.1 49 rfl) (fr f.1 63 rfl) (fk f.1 50 rfl) (by decide) ?_
    refine ex_callSr (As := [_]) ok_X3_tell (mi 13 rfl) rfl (m_X7_size0 hst (sh_sub 854 f.1 (by decide +kernel) (by decide +kernel)) (tA_sub 854 10 (nI 0) f.2.2.2.1 (by decide +kernel))) rfl rfl rfl (by decide) (Nat.le_of_ble_eq_true rfl) (by decide) ?_
    refine ex_iret ok_X3_tell (mi 14 rfl) rfl ?_
    exact ⟨inlI (by decide), rfl⟩
  refine ex_iret ok_X11_keeper (mi 12 rfl) rfl ?_
  exact ⟨Or.inl ⟨rfl, inlI (by decide)⟩, kp0⟩
theorem c_keeper_2_4 {G : GE} (hst : (ge_l G).stackTraces = false) {x : Nat}  : CC G 4 4 24 my_X11_keeper x [.int (nI 2), .int (nI 4)] E3 0 ((-1)) := by
  intro h f
  refine ex_M_of ok_X11_keeper cw_X11_keeper rfl hst (Nat.le_of_ble_eq_true rfl) ?_
  refine ex_iload_n ok_X11_keeper (mi 0 rfl) rfl ?_
  refine ex_bipush ok_X11_keeper (mi 1 rfl) ?_
  refine ex_callSr (As := [_, _]) ok_X11_keeper (mi 2 rfl) rfl (m_reqOk hst (pk_in 2 9 (by decide)) (by decide) (by decide)) rfl rfl rfl (by decide) (Nat.le_of_ble_eq_true rfl) (by decide) ?_
  refine ex_iload_n ok_X11_keeper (mi 3 rfl) rfl ?_
  refine ex_bipush ok_X11_keeper (mi 4 rfl) ?_
  refine ex_callSr (As := [_, _]) ok_X11_keeper (mi 5 rfl) rfl (m_reqOk hst (pk_in 4 8 (by decide)) (by decide) (by decide)) rfl rfl rfl (by decide) (Nat.le_of_ble_eq_true rfl) (by decide) ?_
  refine ex_aload_n ok_X11_keeper (mi 6 rfl) rfl ?_
  refine ex_getRx ok_X11_keeper (mi 7 rfl) rfl rfl (fk f.1 0 rfl) (fr f.1 56 rfl) (fk f.1 44 rfl) (by decide) ?_
  refine ex_iload_n ok_X11_keeper (mi 8 rfl) rfl ?_
  refine ex_aaldx (n := 2) ok_X11_keeper (mi 9 rfl) (by decide) (fk f.1 44 rfl) (fn f.1 44 rfl) (pk_in 2 9 (by decide)) (fo f.2.1 5 rfl) (fk f.1 49 rfl) (by decide) ?_
  refine ex_iload_n ok_X11_keeper (mi 10 rfl) rfl ?_
  refine ex_callVr (As := [_]) (v := some (.int (-1))) (g1 := h) ok_X11_keeper (mi 11 rfl) rfl ?c rfl (fk f.1 49 rfl) rfl rfl (by decide) (by decide) (Nat.le_of_ble_eq_true rfl) (by decide) ?_
  case c =>
    refine ex_M_of ok_X3_tell cw_X3_tell rfl hst (Nat.le_of_ble_eq_true rfl) ?_
    refine ex_iload_n ok_X3_tell (mi 0 rfl) rfl ?_
    refine ex_tblk (tgt := 67) ok_X3_tell (mi 1 rfl) (by decide) (by decide) (by decide) (by decide) ?_
    refine ex_aload_n ok_X3_tell (mi 15 rfl) rfl ?_
    refine ex_getIx ok_X3_tell (mi 16 rfl) rfl rfl (fk f.1 49 rfl) (fi f.2.2.1 129 rfl) ?_
    refine ex_iret ok_X3_tell (mi 17 rfl) rfl ?_
    exact ⟨inlI (by decide), rfl⟩
  refine ex_iret ok_X11_keeper (mi 12 rfl) rfl ?_
  exact ⟨Or.inl ⟨rfl, inlI (by decide)⟩, kp0⟩
theorem c_keeper_2_5 {G : GE} (hst : (ge_l G).stackTraces = false) {x : Nat}  : CC G 4 4 24 my_X11_keeper x [.int (nI 2), .int (nI 5)] E3 0 ((-1)) := by
  intro h f
  refine ex_M_of ok_X11_keeper cw_X11_keeper rfl hst (Nat.le_of_ble_eq_true rfl) ?_
  refine ex_iload_n ok_X11_keeper (mi 0 rfl) rfl ?_
  refine ex_bipush ok_X11_keeper (mi 1 rfl) ?_
  refine ex_callSr (As := [_, _]) ok_X11_keeper (mi 2 rfl) rfl (m_reqOk hst (pk_in 2 9 (by decide)) (by decide) (by decide)) rfl rfl rfl (by decide) (Nat.le_of_ble_eq_true rfl) (by decide) ?_
  refine ex_iload_n ok_X11_keeper (mi 3 rfl) rfl ?_
  refine ex_bipush ok_X11_keeper (mi 4 rfl) ?_
  refine ex_callSr (As := [_, _]) ok_X11_keeper (mi 5 rfl) rfl (m_reqOk hst (pk_in 5 8 (by decide)) (by decide) (by decide)) rfl rfl rfl (by decide) (Nat.le_of_ble_eq_true rfl) (by decide) ?_
  refine ex_aload_n ok_X11_keeper (mi 6 rfl) rfl ?_
  refine ex_getRx ok_X11_keeper (mi 7 rfl) rfl rfl (fk f.1 0 rfl) (fr f.1 56 rfl) (fk f.1 44 rfl) (by decide) ?_
  refine ex_iload_n ok_X11_keeper (mi 8 rfl) rfl ?_
  refine ex_aaldx (n := 2) ok_X11_keeper (mi 9 rfl) (by decide) (fk f.1 44 rfl) (fn f.1 44 rfl) (pk_in 2 9 (by decide)) (fo f.2.1 5 rfl) (fk f.1 49 rfl) (by decide) ?_
  refine ex_iload_n ok_X11_keeper (mi 10 rfl) rfl ?_
  refine ex_callVr (As := [_]) (v := some (.int (-1))) (g1 := h) ok_X11_keeper (mi 11 rfl) rfl ?c rfl (fk f.1 49 rfl) rfl rfl (by decide) (by decide) (Nat.le_of_ble_eq_true rfl) (by decide) ?_
  case c =>
    refine ex_M_of ok_X3_tell cw_X3_tell rfl hst (Nat.le_of_ble_eq_true rfl) ?_
    refine ex_iload_n ok_X3_tell (mi 0 rfl) rfl ?_
    refine ex_tblk (tgt := 72) ok_X3_tell (mi 1 rfl) (by decide) (by decide) (by decide) (by decide) ?_
    refine ex_aload_n ok_X3_tell (mi 18 rfl) rfl ?_
    refine ex_getIx ok_X3_tell (mi 19 rfl) rfl rfl (fk f.1 49 rfl) (fi f.2.2.1 130 rfl) ?_
    refine ex_iret ok_X3_tell (mi 20 rfl) rfl ?_
    exact ⟨inlI (by decide), rfl⟩
  refine ex_iret ok_X11_keeper (mi 12 rfl) rfl ?_
  exact ⟨Or.inl ⟨rfl, inlI (by decide)⟩, kp0⟩
theorem c_keeper_2_6 {G : GE} (hst : (ge_l G).stackTraces = false) {x : Nat}  : CC G 4 4 24 my_X11_keeper x [.int (nI 2), .int (nI 6)] E3 0 (nI 0) := by
  intro h f
  refine ex_M_of ok_X11_keeper cw_X11_keeper rfl hst (Nat.le_of_ble_eq_true rfl) ?_
  refine ex_iload_n ok_X11_keeper (mi 0 rfl) rfl ?_
  refine ex_bipush ok_X11_keeper (mi 1 rfl) ?_
  refine ex_callSr (As := [_, _]) ok_X11_keeper (mi 2 rfl) rfl (m_reqOk hst (pk_in 2 9 (by decide)) (by decide) (by decide)) rfl rfl rfl (by decide) (Nat.le_of_ble_eq_true rfl) (by decide) ?_
  refine ex_iload_n ok_X11_keeper (mi 3 rfl) rfl ?_
  refine ex_bipush ok_X11_keeper (mi 4 rfl) ?_
  refine ex_callSr (As := [_, _]) ok_X11_keeper (mi 5 rfl) rfl (m_reqOk hst (pk_in 6 8 (by decide)) (by decide) (by decide)) rfl rfl rfl (by decide) (Nat.le_of_ble_eq_true rfl) (by decide) ?_
  refine ex_aload_n ok_X11_keeper (mi 6 rfl) rfl ?_
  refine ex_getRx ok_X11_keeper (mi 7 rfl) rfl rfl (fk f.1 0 rfl) (fr f.1 56 rfl) (fk f.1 44 rfl) (by decide) ?_
  refine ex_iload_n ok_X11_keeper (mi 8 rfl) rfl ?_
  refine ex_aaldx (n := 2) ok_X11_keeper (mi 9 rfl) (by decide) (fk f.1 44 rfl) (fn f.1 44 rfl) (pk_in 2 9 (by decide)) (fo f.2.1 5 rfl) (fk f.1 49 rfl) (by decide) ?_
  refine ex_iload_n ok_X11_keeper (mi 10 rfl) rfl ?_
  refine ex_callVr (As := [_]) (v := some (.int (nI 0))) (g1 := h) ok_X11_keeper (mi 11 rfl) rfl ?c rfl (fk f.1 49 rfl) rfl rfl (by decide) (by decide) (Nat.le_of_ble_eq_true rfl) (by decide) ?_
  case c =>
    refine ex_M_of ok_X3_tell cw_X3_tell rfl hst (Nat.le_of_ble_eq_true rfl) ?_
    refine ex_iload_n ok_X3_tell (mi 0 rfl) rfl ?_
    refine ex_tblk (tgt := 77) ok_X3_tell (mi 1 rfl) (by decide) (by decide) (by decide) (by decide) ?_
    refine ex_aload_n ok_X3_tell (mi 21 rfl) rfl ?_
    refine ex_getIx ok_X3_tell (mi 22 rfl) rfl rfl (fk f.1 49 rfl) (fi f.2.2.1 131 rfl) ?_
    refine ex_iret ok_X3_tell (mi 23 rfl) rfl ?_
    exact ⟨inlI (by decide), rfl⟩
  refine ex_iret ok_X11_keeper (mi 12 rfl) rfl ?_
  exact ⟨Or.inl ⟨rfl, inlI (by decide)⟩, kp0⟩
theorem c_keeper_2_7 {G : GE} (hst : (ge_l G).stackTraces = false) {x : Nat}  : CC G 4 4 24 my_X11_keeper x [.int (nI 2), .int (nI 7)] E3 0 (nI 0) := by
  intro h f
  refine ex_M_of ok_X11_keeper cw_X11_keeper rfl hst (Nat.le_of_ble_eq_true rfl) ?_
  refine ex_iload_n ok_X11_keeper (mi 0 rfl) rfl ?_
  refine ex_bipush ok_X11_keeper (mi 1 rfl) ?_
  refine ex_callSr (As := [_, _]) ok_X11_keeper (mi 2 rfl) rfl (m_reqOk hst (pk_in 2 9 (by decide)) (by decide) (by decide)) rfl rfl rfl (by decide) (Nat.le_of_ble_eq_true rfl) (by decide) ?_
  refine ex_iload_n ok_X11_keeper (mi 3 rfl) rfl ?_
  refine ex_bipush ok_X11_keeper (mi 4 rfl) ?_
  refine ex_callSr (As := [_, _]) ok_X11_keeper (mi 5 rfl) rfl (m_reqOk hst (pk_in 7 8 (by decide)) (by decide) (by decide)) rfl rfl rfl (by decide) (Nat.le_of_ble_eq_true rfl) (by decide) ?_
  refine ex_aload_n ok_X11_keeper (mi 6 rfl) rfl ?_
  refine ex_getRx ok_X11_keeper (mi 7 rfl) rfl rfl (fk f.1 0 rfl) (fr f.1 56 rfl) (fk f.1 44 rfl) (by decide) ?_
  refine ex_iload_n ok_X11_keeper (mi 8 rfl) rfl ?_
  refine ex_aaldx (n := 2) ok_X11_keeper (mi 9 rfl) (by decide) (fk f.1 44 rfl) (fn f.1 44 rfl) (pk_in 2 9 (by decide)) (fo f.2.1 5 rfl) (fk f.1 49 rfl) (by decide) ?_
  refine ex_iload_n ok_X11_keeper (mi 10 rfl) rfl ?_
  refine ex_callVr (As := [_]) (v := some (.int (nI 0))) (g1 := h) ok_X11_keeper (mi 11 rfl) rfl ?c rfl (fk f.1 49 rfl) rfl rfl (by decide) (by decide) (Nat.le_of_ble_eq_true rfl) (by decide) ?_
  case c =>
    refine ex_M_of ok_X3_tell cw_X3_tell rfl hst (Nat.le_of_ble_eq_true rfl) ?_
    refine ex_iload_n ok_X3_tell (mi 0 rfl) rfl ?_
    refine ex_tblk (tgt := 82) ok_X3_tell (mi 1 rfl) (by decide) (by decide) (by decide) (by decide) ?_
    refine ex_aload_n ok_X3_tell (mi 24 rfl) rfl ?_
    refine ex_getIx ok_X3_tell (mi 25 rfl) rfl rfl (fk f.1 49 rfl) (fi f.2.2.1 132 rfl) ?_
    refine ex_iret ok_X3_tell (mi 26 rfl) rfl ?_
    exact ⟨inlI (by decide), rfl⟩
  refine ex_iret ok_X11_keeper (mi 12 rfl) rfl ?_
  exact ⟨Or.inl ⟨rfl, inlI (by decide)⟩, kp0⟩
theorem c_entry_2 {G : GE} (hst : (ge_l G).stackTraces = false) {x : Nat} {p1 p2 : Int32} : CC G 3 4 24 my_X11_entry x [.int (nI 2), .int p1, .int p2] E3 1 (nI 0) := by
  intro h f
  refine ex_M_of ok_X11_entry cw_X11_entry rfl hst (Nat.le_of_ble_eq_true rfl) ?_
  refine ex_iload_n ok_X11_entry (mi 0 rfl) rfl ?_
  refine ex_bipush ok_X11_entry (mi 1 rfl) ?_
  refine ex_callSr (As := [_, _]) ok_X11_entry (mi 2 rfl) rfl (m_reqOk hst (pk_in 2 9 (by decide)) (by decide) (by decide)) rfl rfl rfl (by decide) (Nat.le_of_ble_eq_true rfl) (by decide) ?_
  refine ex_aload_n ok_X11_entry (mi 3 rfl) rfl ?_
  refine ex_getRx ok_X11_entry (mi 4 rfl) rfl rfl (fk f.1 0 rfl) (fr f.1 56 rfl) (fk f.1 44 rfl) (by decide) ?_
  refine ex_iload_n ok_X11_entry (mi 5 rfl) rfl ?_
  refine ex_aaldx (n := 2) ok_X11_entry (mi 6 rfl) (by decide) (fk f.1 44 rfl) (fn f.1 44 rfl) (pk_in 2 9 (by decide)) (fo f.2.1 5 rfl) (fk f.1 49 rfl) (by decide) ?_
  refine ex_getRx ok_X11_entry (mi 7 rfl) rfl rfl (fk f.1 49 rfl) (fr f.1 63 rfl) (fk f.1 50 rfl) (by decide) ?_
  refine ex_iload_n ok_X11_entry (mi 8 rfl) rfl ?_
  refine ex_callSr (As := [_, _]) ok_X11_entry (mi 9 rfl) rfl (m_at0 hst (sh_sub 854 f.1 (by decide +kernel) (by decide +kernel)) (tA_sub 854 10 (nI 0) f.2.2.2.1 (by decide +kernel))) rfl rfl rfl (by decide) (Nat.le_of_ble_eq_true rfl) (by decide) ?_
  refine ex_istore ok_X11_entry (mi 10 rfl) ?_
  refine ex_iload ok_X11_entry (mi 11 rfl) rfl ?_
  refine ex_sipush ok_X11_entry (mi 12 rfl) ?_
  refine ex_callSt (e := 100) (As := [_, _]) ok_X11_entry (mi 13 rfl) rfl (m_reqBad (m := 300) hst (by unfold vp_in; decide) (by decide) (by decide)) rfl rfl rfl (by decide) (Nat.le_of_ble_eq_true rfl) (by decide) (fun n hn => ?_)
  exact ⟨Or.inr ⟨by decide, rfl⟩, kpZ kp0 hn⟩
theorem c_keeper_3_0 {G : GE} (hst : (ge_l G).stackTraces = false) {x : Nat}  : CC G 4 4 24 my_X11_keeper x [.int (nI 3), .int (nI 0)] E3 0 (nI 0) := by
  intro h f
  refine ex_M_of ok_X11_keeper cw_X11_keeper rfl hst (Nat.le_of_ble_eq_true rfl) ?_
  refine ex_iload_n ok_X11_keeper (mi 0 rfl) rfl ?_
  refine ex_bipush ok_X11_keeper (mi 1 rfl) ?_
  refine ex_callSr (As := [_, _]) ok_X11_keeper (mi 2 rfl) rfl (m_reqOk hst (pk_in 3 9 (by decide)) (by decide) (by decide)) rfl rfl rfl (by decide) (Nat.le_of_ble_eq_true rfl) (by decide) ?_
  refine ex_iload_n ok_X11_keeper (mi 3 rfl) rfl ?_
  refine ex_bipush ok_X11_keeper (mi 4 rfl) ?_
  refine ex_callSr (As := [_, _]) ok_X11_keeper (mi 5 rfl) rfl (m_reqOk hst (pk_in 0 8 (by decide)) (by decide) (by decide)) rfl rfl rfl (by decide) (Nat.le_of_ble_eq_true rfl) (by decide) ?_
  refine ex_aload_n ok_X11_keeper (mi 6 rfl) rfl ?_
  refine ex_getRx ok_X11_keeper (mi 7 rfl) rfl rfl (fk f.1 0 rfl) (fr f.1 56 rfl) (fk f.1 44 rfl) (by decide) ?_
  refine ex_iload_n ok_X11_keeper (mi 8 rfl) rfl ?_
  refine ex_aaldx (n := 2) ok_X11_keeper (mi 9 rfl) (by decide) (fk f.1 44 rfl) (fn f.1 44 rfl) (pk_in 3 9 (by decide)) (fo f.2.1 6 rfl) (fk f.1 51 rfl) (by decide) ?_
  refine ex_iload_n ok_X11_keeper (mi 10 rfl) rfl ?_
  refine ex_callVr (As := [_]) (v := some (.int (nI 0))) (g1 := h) ok_X11_keeper (mi 11 rfl) rfl ?c rfl (fk f.1 51 rfl) rfl rfl (by decide) (by decide) (Nat.le_of_ble_eq_true rfl) (by decide) ?_
  case c =>
    refine ex_M_of ok_X3_tell cw_X3_tell rfl hst (Nat.le_of_ble_eq_true rfl) ?_
    refine ex_iload_n ok_X3_tell (mi 0 rfl) rfl ?_
    refine ex_tblk (tgt := 44) ok_X3_tell (mi 1 rfl) (by decide) (by decide) (by decide) (by decide) ?_
    refine ex_aload_n ok_X3_tell (mi 2 rfl) rfl ?_
    refine ex_getIx ok_X3_tell (mi 3 rfl) rfl rfl (fk f.1 51 rfl) (fi f.2.2.1 133 rfl) ?_
    refine ex_iret ok_X3_tell (mi 4 rfl) rfl ?_
    exact ⟨inlI (by decide), rfl⟩
  refine ex_iret ok_X11_keeper (mi 12 rfl) rfl ?_
  exact ⟨Or.inl ⟨rfl, inlI (by decide)⟩, kp0⟩
theorem c_keeper_3_1 {G : GE} (hst : (ge_l G).stackTraces = false) {x : Nat}  : CC G 4 4 24 my_X11_keeper x [.int (nI 3), .int (nI 1)] E3 0 ((-1)) := by
  intro h f
  refine ex_M_of ok_X11_keeper cw_X11_keeper rfl hst (Nat.le_of_ble_eq_true rfl) ?_
  refine ex_iload_n ok_X11_keeper (mi 0 rfl) rfl ?_
  refine ex_bipush ok_X11_keeper (mi 1 rfl) ?_
  refine ex_callSr (As := [_, _]) ok_X11_keeper (mi 2 rfl) rfl (m_reqOk hst (pk_in 3 9 (by decide)) (by decide) (by decide)) rfl rfl rfl (by decide) (Nat.le_of_ble_eq_true rfl) (by decide) ?_
  refine ex_iload_n ok_X11_keeper (mi 3 rfl) rfl ?_
  refine ex_bipush ok_X11_keeper (mi 4 rfl) ?_
  refine ex_callSr (As := [_, _]) ok_X11_keeper (mi 5 rfl) rfl (m_reqOk hst (pk_in 1 8 (by decide)) (by decide) (by decide)) rfl rfl rfl (by decide) (Nat.le_of_ble_eq_true rfl) (by decide) ?_
  refine ex_aload_n ok_X11_keeper (mi 6 rfl) rfl ?_
  refine ex_getRx ok_X11_keeper (mi 7 rfl) rfl rfl (fk f.1 0 rfl) (fr f.1 56 rfl) (fk f.1 44 rfl) (by decide) ?_
  refine ex_iload_n ok_X11_keeper (mi 8 rfl) rfl ?_
  refine ex_aaldx (n := 2) ok_X11_keeper (mi 9 rfl) (by decide) (fk f.1 44 rfl) (fn f.1 44 rfl) (pk_in 3 9 (by decide)) (fo f.2.1 6 rfl) (fk f.1 51 rfl) (by decide) ?_
  refine ex_iload_n ok_X11_keeper (mi 10 rfl) rfl ?_
  refine ex_callVr (As := [_]) (v := some (.int (-1))) (g1 := h) ok_X11_keeper (mi 11 rfl) rfl ?c rfl (fk f.1 51 rfl) rfl rfl (by decide) (by decide) (Nat.le_of_ble_eq_true rfl) (by decide) ?_
  case c =>
    refine ex_M_of ok_X3_tell cw_X3_tell rfl hst (Nat.le_of_ble_eq_true rfl) ?_
    refine ex_iload_n ok_X3_tell (mi 0 rfl) rfl ?_
    refine ex_tblk (tgt := 49) ok_X3_tell (mi 1 rfl) (by decide) (by decide) (by decide) (by decide) ?_
    refine ex_aload_n ok_X3_tell (mi 5 rfl) rfl ?_
    refine ex_getIx ok_X3_tell (mi 6 rfl) rfl rfl (fk f.1 51 rfl) (fi f.2.2.1 134 rfl) ?_
    refine ex_iret ok_X3_tell (mi 7 rfl) rfl ?_
    exact ⟨inlI (by decide), rfl⟩
  refine ex_iret ok_X11_keeper (mi 12 rfl) rfl ?_
  exact ⟨Or.inl ⟨rfl, inlI (by decide)⟩, kp0⟩
theorem c_keeper_3_2 {G : GE} (hst : (ge_l G).stackTraces = false) {x : Nat}  : CC G 4 4 24 my_X11_keeper x [.int (nI 3), .int (nI 2)] E3 0 (nI 0) := by
  intro h f
  refine ex_M_of ok_X11_keeper cw_X11_keeper rfl hst (Nat.le_of_ble_eq_true rfl) ?_
  refine ex_iload_n ok_X11_keeper (mi 0 rfl) rfl ?_
  refine ex_bipush ok_X11_keeper (mi 1 rfl) ?_
  refine ex_callSr (As := [_, _]) ok_X11_keeper (mi 2 rfl) rfl (m_reqOk hst (pk_in 3 9 (by decide)) (by decide) (by decide)) rfl rfl rfl (by decide) (Nat.le_of_ble_eq_true rfl) (by decide) ?_
  refine ex_iload_n ok_X11_keeper (mi 3 rfl) rfl ?_
  refine ex_bipush ok_X11_keeper (mi 4 rfl) ?_
  refine ex_callSr (As := [_, _]) ok_X11_keeper (mi 5 rfl) rfl (m_reqOk hst (pk_in 2 8 (by decide)) (by decide) (by decide)) rfl rfl rfl (by decide) (Nat.le_of_ble_eq_true rfl) (by decide) ?_
  refine ex_aload_n ok_X11_keeper (mi 6 rfl) rfl ?_
  refine ex_getRx ok_X11_keeper (mi 7 rfl) rfl rfl (fk f.1 0 rfl) (fr f.1 56 rfl) (fk f.1 44 rfl) (by decide) ?_
  refine ex_iload_n ok_X11_keeper (mi 8 rfl) rfl ?_
  refine ex_aaldx (n := 2) ok_X11_keeper (mi 9 rfl) (by decide) (fk f.1 44 rfl) (fn f.1 44 rfl) (pk_in 3 9 (by decide)) (fo f.2.1 6 rfl) (fk f.1 51 rfl) (by decide) ?_
  refine ex_iload_n ok_X11_keeper (mi 10 rfl) rfl ?_
  refine ex_callVr (As := [_]) (v := some (.int (nI 0))) (g1 := h) ok_X11_keeper (mi 11 rfl) rfl ?c rfl (fk f.1 51 rfl) rfl rfl (by decide) (by decide) (Nat.le_of_ble_eq_true rfl) (by decide) ?_
  case c =>
    refine ex_M_of ok_X3_tell cw_X3_tell rfl hst (Nat.le_of_ble_eq_true rfl) ?_
    refine ex_iload_n ok_X3_tell (mi 0 rfl) rfl ?_
    refine ex_tblk (tgt := 54) ok_X3_tell (mi 1 rfl) (by decide) (by decide) (by decide) (by decide) ?_
    refine ex_aload_n ok_X3_tell (mi 8 rfl) rfl ?_
    refine ex_getIx ok_X3_tell (mi 9 rfl) rfl rfl (fk f.1 51 rfl) (fi f.2.2.1 136 rfl) ?_
    refine ex_iret ok_X3_tell (mi 10 rfl) rfl ?_
    exact ⟨inlI (by decide), rfl⟩
  refine ex_iret ok_X11_keeper (mi 12 rfl) rfl ?_
  exact ⟨Or.inl ⟨rfl, inlI (by decide)⟩, kp0⟩
theorem c_keeper_3_3 {G : GE} (hst : (ge_l G).stackTraces = false) {x : Nat}  : CC G 4 4 24 my_X11_keeper x [.int (nI 3), .int (nI 3)] E3 0 (nI 0) := by
  intro h f
  refine ex_M_of ok_X11_keeper cw_X11_keeper rfl hst (Nat.le_of_ble_eq_true rfl) ?_
  refine ex_iload_n ok_X11_keeper (mi 0 rfl) rfl ?_
  refine ex_bipush ok_X11_keeper (mi 1 rfl) ?_
  refine ex_callSr (As := [_, _]) ok_X11_keeper (mi 2 rfl) rfl (m_reqOk hst (pk_in 3 9 (by decide)) (by decide) (by decide)) rfl rfl rfl (by decide) (Nat.le_of_ble_eq_true rfl) (by decide) ?_
  refine ex_iload_n ok_X11_keeper (mi 3 rfl) rfl ?_
  refine ex_bipush ok_X11_keeper (mi 4 rfl) ?_
  refine ex_callSr (As := [_, _]) ok_X11_keeper (mi 5 rfl) rfl (m_reqOk hst (pk_in 3 8 (by decide)) (by decide) (by decide)) rfl rfl rfl (by decide) (Nat.le_of_ble_eq_true rfl) (by decide) ?_
  refine ex_aload_n ok_X11_keeper (mi 6 rfl) rfl ?_
  refine ex_getRx ok_X11_keeper (mi 7 rfl) rfl rfl (fk f.1 0 rfl) (fr f.1 56 rfl) (fk f.1 44 rfl) (by decide) ?_
  refine ex_iload_n ok_X11_keeper (mi 8 rfl) rfl ?_
  refine ex_aaldx (n := 2) ok_X11_keeper (mi 9 rfl) (by decide) (fk f.1 44 rfl) (fn f.1 44 rfl) (pk_in 3 9 (by decide)) (fo f.2.1 6 rfl) (fk f.1 51 rfl) (by decide) ?_
  refine ex_iload_n ok_X11_keeper (mi 10 rfl) rfl ?_
  refine ex_callVr (As := [_]) (v := some (.int (nI 0))) (g1 := h) ok_X11_keeper (mi 11 rfl) rfl ?c rfl (fk f.1 51 rfl) rfl rfl (by decide) (by decide) (Nat.le_of_ble_eq_true rfl) (by decide) ?_
  case c =>
    refine ex_M_of ok_X3_tell cw_X3_tell rfl hst (Nat.le_of_ble_eq_true rfl) ?_
    refine ex_iload_n ok_X3_tell (mi 0 rfl) rfl ?_
    refine ex_tblk (tgt := 59) ok_X3_tell (mi 1 rfl) (by decide) (by decide) (by decide) (by decide) ?_
    refine ex_aload_n ok_X3_tell (mi 11 rfl) rfl ?_
    refine ex_getRx ok_X3_tell (mi 12 rfl) rfl rfl (fk f.1 51 rfl) (fr f.1 66 rfl) (fk f.1 52 rfl) (by decide) ?_
    refine ex_callSr (As := [_]) ok_X3_tell (mi 13 rfl) rfl (m_X7_size0 hst (sh_sub 856 f.1 (by decide +kernel) (by decide +kernel)) (tA_sub 856 10 (nI 0) f.2.2.2.1 (by decide +kernel))) rfl rfl rfl (by decide) (Nat.le_of_ble_eq_true rfl) (by decide) ?_
    refine ex_iret ok_X3_tell (mi 14 rfl) rfl ?_
    exact ⟨inlI (by decide), rfl⟩
  refine ex_iret ok_X11_keeper (mi 12 rfl) rfl ?_
  exact ⟨Or.inl ⟨rfl, inlI (by decide)⟩, kp0⟩
theorem c_keeper_3_4 {G : GE} (hst : (ge_l G).stackTraces = false) {x : Nat}  : CC G 4 4 24 my_X11_keeper x [.int (nI 3), .int (nI 4)] E3 0 ((-1)) := by
  intro h f
  refine ex_M_of ok_X11_keeper cw_X11_keeper rfl hst (Nat.le_of_ble_eq_true rfl) ?_
  refine ex_iload_n ok_X11_keeper (mi 0 rfl) rfl ?_
  refine ex_bipush ok_X11_keeper (mi 1 rfl) ?_
  refine ex_callSr (As := [_, _]) ok_X11_keeper (mi 2 rfl) rfl (m_reqOk hst (pk_in 3 9 (by decide)) (by decide) (by decide)) rfl rfl rfl (by decide) (Nat.le_of_ble_eq_true rfl) (by decide) ?_
  refine ex_iload_n ok_X11_keeper (mi 3 rfl) rfl ?_
  refine ex_bipush ok_X11_keeper (mi 4 rfl) ?_
  refine ex_callSr (As := [_, _]) ok_X11_keeper (mi 5 rfl) rfl (m_reqOk hst (pk_in 4 8 (by decide)) (by decide) (by decide)) rfl rfl rfl (by decide) (Nat.le_of_ble_eq_true rfl) (by decide) ?_
  refine ex_aload_n ok_X11_keeper (mi 6 rfl) rfl ?_
  refine ex_getRx ok_X11_keeper (mi 7 rfl) rfl rfl (fk f.1 0 rfl) (fr f.1 56 rfl) (fk f.1 44 rfl) (by decide) ?_
  refine ex_iload_n ok_X11_keeper (mi 8 rfl) rfl ?_
  refine ex_aaldx (n := 2) ok_X11_keeper (mi 9 rfl) (by decide) (fk f.1 44 rfl) (fn f.1 44 rfl) (pk_in 3 9 (by decide)) (fo f.2.1 6 rfl) (fk f.1 51 rfl) (by decide) ?_
  refine ex_iload_n ok_X11_keeper (mi 10 rfl) rfl ?_
  refine ex_callVr (As := [_]) (v := some (.int (-1))) (g1 := h) ok_X11_keeper (mi 11 rfl) rfl ?c rfl (fk f.1 51 rfl) rfl rfl (by decide) (by decide) (Nat.le_of_ble_eq_true rfl) (by decide) ?_
  case c =>
    refine ex_M_of ok_X3_tell cw_X3_tell rfl hst (Nat.le_of_ble_eq_true rfl) ?_
    refine ex_iload_n ok_X3_tell (mi 0 rfl) rfl ?_
    refine ex_tblk (tgt := 67) ok_X3_tell (mi 1 rfl) (by decide) (by decide) (by decide) (by decide) ?_
    refine ex_aload_n ok_X3_tell (mi 15 rfl) rfl ?_
    refine ex_getIx ok_X3_tell (mi 16 rfl) rfl rfl (fk f.1 51 rfl) (fi f.2.2.1 137 rfl) ?_
    refine ex_iret ok_X3_tell (mi 17 rfl) rfl ?_
    exact ⟨inlI (by decide), rfl⟩
  refine ex_iret ok_X11_keeper (mi 12 rfl) rfl ?_
  exact ⟨Or.inl ⟨rfl, inlI (by decide)⟩, kp0⟩
theorem c_keeper_3_5 {G : GE} (hst : (ge_l G).stackTraces = false) {x : Nat}  : CC G 4 4 24 my_X11_keeper x [.int (nI 3), .int (nI 5)] E3 0 ((-1)) := by
  intro h f
  refine ex_M_of ok_X11_keeper cw_X11_keeper rfl hst (Nat.le_of_ble_eq_true rfl) ?_
  refine ex_iload_n ok_X11_keeper (mi 0 rfl) rfl ?_
  refine ex_bipush ok_X11_keeper (mi 1 rfl) ?_
  refine ex_callSr (As := [_, _]) ok_X11_keeper (mi 2 rfl) rfl (m_reqOk hst (pk_in 3 9 (by decide)) (by decide) (by decide)) rfl rfl rfl (by decide) (Nat.le_of_ble_eq_true rfl) (by decide) ?_
  refine ex_iload_n ok_X11_keeper (mi 3 rfl) rfl ?_
  refine ex_bipush ok_X11_keeper (mi 4 rfl) ?_
  refine ex_callSr (As := [_, _]) ok_X11_keeper (mi 5 rfl) rfl (m_reqOk hst (pk_in 5 8 (by decide)) (by decide) (by decide)) rfl rfl rfl (by decide) (Nat.le_of_ble_eq_true rfl) (by decide) ?_
  refine ex_aload_n ok_X11_keeper (mi 6 rfl) rfl ?_
  refine ex_getRx ok_X11_keeper (mi 7 rfl) rfl rfl (fk f.1 0 rfl) (fr f.1 56 rfl) (fk f.1 44 rfl) (by decide) ?_
  refine ex_iload_n ok_X11_keeper (mi 8 rfl) rfl ?_
  refine ex_aaldx (n := 2) ok_X11_keeper (mi 9 rfl) (by decide) (fk f.1 44 rfl) (fn f.1 44 rfl) (pk_in 3 9 (by decide)) (fo f.2.1 6 rfl) (fk f.1 51 rfl) (by decide) ?_
  refine ex_iload_n ok_X11_keeper (mi 10 rfl) rfl ?_
  refine ex_callVr (As := [_]) (v := some (.int (-1))) (g1 := h) ok_X11_keeper (mi 11 rfl) rfl ?c rfl (fk f.1 51 rfl) rfl rfl (by decide) (by decide) (Nat.le_of_ble_eq_true rfl) (by decide) ?_
  case c =>
    refine ex_M_of ok_X3_tell cw_X3_tell rfl hst (Nat.le_of_ble_eq_true rfl) ?_
    refine ex_iload_n ok_X3_tell (mi 0 rfl) rfl ?_
    refine ex_tblk (tgt := 72) ok_X3_tell (mi 1 rfl) (by decide) (by decide) (by decide) (by decide) ?_
    refine ex_aload_n ok_X3_tell (mi 18 rfl) rfl ?_
    refine ex_getIx ok_X3_tell (mi 19 rfl) rfl rfl (fk f.1 51 rfl) (fi f.2.2.1 138 rfl) ?_
    refine ex_iret ok_X3_tell (mi 20 rfl) rfl ?_
    exact ⟨inlI (by decide), rfl⟩
  refine ex_iret ok_X11_keeper (mi 12 rfl) rfl ?_
  exact ⟨Or.inl ⟨rfl, inlI (by decide)⟩, kp0⟩
