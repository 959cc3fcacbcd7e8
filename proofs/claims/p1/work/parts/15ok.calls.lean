theorem c_keeper_3_6 {G : GE} (hst : (ge_l G).stackTraces = false) {x : Nat}  : CC G 4 4 24 my_X11_keeper x [.int (nI 3), .int (nI 6)] E3 0 (nI 0) := by
  intro h f
  refine ex_M_of ok_X11_keeper cw_X11_keeper rfl hst (Nat.le_of_ble_eq_true rfl) ?_
  refine ex_iload_n ok_X11_keeper (mi 0 rfl) rfl ?_
  refine ex_bipush ok_X11_keeper (mi 1 rfl) ?_
  refine ex_callSr (As := [_, _]) ok_X11_keeper (mi 2 rfl) rfl (m_reqOk hst (pk_in 3 9 (by decide)) (by decide) (by decide)) rfl rfl rfl (by decide) (Nat.le_of_ble_eq_true rfl) (by decide) ?_
  refine ex_iload_n ok_X11_keeper (mi 3 rfl) rfl ?_
  refine ex_bipush ok_X11_keeper (mi 4 rfl) ?_
  refine ex_callSr (As := [_, _]) ok_X11_keeper (mi 5 rfl) rfl (m_reqOk hst (pk_in 6 8 (by decide)) (by decide) (by decide)) rfl rfl rfl (by decide) (Nat.le_of_ble_eq_true rfl) (by decide) ?_
  refine ex_aload_n ok_X11_keeper (mi 6 rfl) rfl ?_
  refine ex_getRx ok_X11_keeper (mi 7 rfl) rfl rfl (fk f.1 0 rfl) (fr f.1 56 rfl) (fk f.1 44 rfl) (by decide) ?_
  refine ex_iload_n ok_X11_keeper (mi 8 rfl) rfl ?_
  refine ex_aaldx (n := 2) ok_X11_keeper (mi 9 rfl) (by decide) (fk f.1 44 rfl) (fn f.1 44 rfl) (pk_in 3 9 (by decide)) (fo f.2.1 6 rfl) (fk f.1 51 rfl) (by decide) ?_
  refine ex_iload_n ok_X11_keeper (mi 10 rfl) rfl ?_
  refine ex_callVr (As := [_]) (v := some (.int (nI 0))) (g1 := h) ok_X11_keeper (mi 11 rfl) rfl ?c rfl (fk f.1 51 rfl) rfl rfl (by decide) (by decide) (Nat.le_of_ble_eq_true rfl) (by decide) ?_
  case c =>
    refine ex_M_of ok_X3_tell cw_X3_tell rfl hst (Nat.le_of_ble_eq_true rfl) ?_
    refine ex_iload_n ok_X3_tell (mi 0 rfl) rfl ?_
    refine ex_tblk (tgt := 77) ok_X3_tell (mi 1 rfl) (by decide) (by decide) (by decide) (by decide) ?_
    refine ex_aload_n ok_X3_tell (mi 21 rfl) rfl ?_
    refine ex_getIx ok_X3_tell (mi 22 rfl) rfl rfl (fk f.1 51 rfl) (fi f.2.2.1 139 rfl) ?_
    refine ex_iret ok_X3_tell (mi 23 rfl) rfl ?_
    exact ⟨inlI (by decide), rfl⟩
  refine ex_iret ok_X11_keeper (mi 12 rfl) rfl ?_
  exact ⟨Or.inl ⟨rfl, inlI (by decide)⟩, kp0⟩
theorem c_keeper_3_7 {G : GE} (hst : (ge_l G).stackTraces = false) {x : Nat}  : CC G 4 4 24 my_X11_keeper x [.int (nI 3), .int (nI 7)] E3 0 (nI 0) := by
  intro h f
  refine ex_M_of ok_X11_keeper cw_X11_keeper rfl hst (Nat.le_of_ble_eq_true rfl) ?_
  refine ex_iload_n ok_X11_keeper (mi 0 rfl) rfl ?_
  refine ex_bipush ok_X11_keeper (mi 1 rfl) ?_
  refine ex_callSr (As := [_, _]) ok_X11_keeper (mi 2 rfl) rfl (m_reqOk hst (pk_in 3 9 (by decide)) (by decide) (by decide)) rfl rfl rfl (by decide) (Nat.le_of_ble_eq_true rfl) (by decide) ?_
  refine ex_iload_n ok_X11_keeper (mi 3 rfl) rfl ?_
  refine ex_bipush ok_X11_keeper (mi 4 rfl) ?_
  refine ex_callSr (As := [_, _]) ok_X11_keeper (mi 5 rfl) rfl (m_reqOk hst (pk_in 7 8 (by decide)) (by decide) (by decide)) rfl rfl rfl (by decide) (Nat.le_of_ble_eq_true rfl) (by decide) ?_
  refine ex_aload_n ok_X11_keeper (mi 6 rfl) rfl ?_
  refine ex_getRx ok_X11_keeper (mi 7 rfl) rfl rfl (fk f.1 0 rfl) (fr f.1 56 rfl) (fk f.1 44 rfl) (by decide) ?_
  refine ex_iload_n ok_X11_keeper (mi 8 rfl) rfl ?_
  refine ex_aaldx (n := 2) ok_X11_keeper (mi 9 rfl) (by decide) (fk f.1 44 rfl) (fn f.1 44 rfl) (pk_in 3 9 (by decide)) (fo f.2.1 6 rfl) (fk f.1 51 rfl) (by decide) ?_
  refine ex_iload_n ok_X11_keeper (mi 10 rfl) rfl ?_
  refine ex_callVr (As := [_]) (v := some (.int (nI 0))) (g1 := h) ok_X11_keeper (mi 11 rfl) rfl ?c rfl (fk f.1 51 rfl) rfl rfl (by decide) (by decide) (Nat.le_of_ble_eq_true rfl) (by decide) ?_
  case c =>
    refine ex_M_of ok_X3_tell cw_X3_tell rfl hst (Nat.le_of_ble_eq_true rfl) ?_
    refine ex_iload_n ok_X3_tell (mi 0 rfl) rfl ?_
    refine ex_tblk (tgt := 82) ok_X3_tell (mi 1 rfl) (by decide) (by decide) (by decide) (by decide) ?_
    refine ex_aload_n ok_X3_tell (mi 24 rfl) rfl ?_
    refine ex_getIx ok_X3_tell (mi 25 rfl) rfl rfl (fk f.1 51 rfl) (fi f.2.2.1 140 rfl) ?_
    refine ex_iret ok_X3_tell (mi 26 rfl) rfl ?_
    exact ⟨inlI (by decide), rfl⟩
  refine ex_iret ok_X11_keeper (mi 12 rfl) rfl ?_
  exact ⟨Or.inl ⟨rfl, inlI (by decide)⟩, kp0⟩
theorem c_entry_3 {G : GE} (hst : (ge_l G).stackTraces = false) {x : Nat} {p1 p2 : Int32} : CC G 3 4 24 my_X11_entry x [.int (nI 3), .int p1, .int p2] E3 1 (nI 0) := by
  intro h f
  refine ex_M_of ok_X11_entry cw_X11_entry rfl hst (Nat.le_of_ble_eq_true rfl) ?_
  refine ex_iload_n ok_X11_entry (mi 0 rfl) rfl ?_
  refine ex_bipush ok_X11_entry (mi 1 rfl) ?_
  refine ex_callSr (As := [_, _]) ok_X11_entry (mi 2 rfl) rfl (m_reqOk hst (pk_in 3 9 (by decide)) (by decide) (by decide)) rfl rfl rfl (by decide) (Nat.le_of_ble_eq_true rfl) (by decide) ?_
  refine ex_aload_n ok_X11_entry (mi 3 rfl) rfl ?_
  refine ex_getRx ok_X11_entry (mi 4 rfl) rfl rfl (fk f.1 0 rfl) (fr f.1 56 rfl) (fk f.1 44 rfl) (by decide) ?_
  refine ex_iload_n ok_X11_entry (mi 5 rfl) rfl ?_
  refine ex_aaldx (n := 2) ok_X11_entry (mi 6 rfl) (by decide) (fk f.1 44 rfl) (fn f.1 44 rfl) (pk_in 3 9 (by decide)) (fo f.2.1 6 rfl) (fk f.1 51 rfl) (by decide) ?_
  refine ex_getRx ok_X11_entry (mi 7 rfl) rfl rfl (fk f.1 51 rfl) (fr f.1 66 rfl) (fk f.1 52 rfl) (by decide) ?_
  refine ex_iload_n ok_X11_entry (mi 8 rfl) rfl ?_
  refine ex_callSr (As := [_, _]) ok_X11_entry (mi 9 rfl) rfl (m_at0 hst (sh_sub 856 f.1 (by decide +kernel) (by decide +kernel)) (tA_sub 856 10 (nI 0) f.2.2.2.1 (by decide +kernel))) rfl rfl rfl (by decide) (Nat.le_of_ble_eq_true rfl) (by decide) ?_
  refine ex_istore ok_X11_entry (mi 10 rfl) ?_
  refine ex_iload ok_X11_entry (mi 11 rfl) rfl ?_
  refine ex_sipush ok_X11_entry (mi 12 rfl) ?_
  refine ex_callSt (e := 100) (As := [_, _]) ok_X11_entry (mi 13 rfl) rfl (m_reqBad (m := 300) hst (by unfold vp_in; decide) (by decide) (by decide)) rfl rfl rfl (by decide) (Nat.le_of_ble_eq_true rfl) (by decide) (fun n hn => ?_)
  exact ⟨Or.inr ⟨by decide, rfl⟩, kpZ kp0 hn⟩
theorem c_keeper_4_0 {G : GE} (hst : (ge_l G).stackTraces = false) {x : Nat}  : CC G 4 4 24 my_X11_keeper x [.int (nI 4), .int (nI 0)] E3 0 (nI 0) := by
  intro h f
  refine ex_M_of ok_X11_keeper cw_X11_keeper rfl hst (Nat.le_of_ble_eq_true rfl) ?_
  refine ex_iload_n ok_X11_keeper (mi 0 rfl) rfl ?_
  refine ex_bipush ok_X11_keeper (mi 1 rfl) ?_
  refine ex_callSr (As := [_, _]) ok_X11_keeper (mi 2 rfl) rfl (m_reqOk hst (pk_in 4 9 (by decide)) (by decide) (by decide)) rfl rfl rfl (by decide) (Nat.le_of_ble_eq_true rfl) (by decide) ?_
  refine ex_iload_n ok_X11_keeper (mi 3 rfl) rfl ?_
  refine ex_bipush ok_X11_keeper (mi 4 rfl) ?_
  refine ex_callSr (As := [_, _]) ok_X11_keeper (mi 5 rfl) rfl (m_reqOk hst (pk_in 0 8 (by decide)) (by decide) (by decide)) rfl rfl rfl (by decide) (Nat.le_of_ble_eq_true rfl) (by decide) ?_
  refine ex_aload_n ok_X11_keeper (mi 6 rfl) rfl ?_
  refine ex_getRx ok_X11_keeper (mi 7 rfl) rfl rfl (fk f.1 0 rfl) (fr f.1 56 rfl) (fk f.1 44 rfl) (by decide) ?_
  refine ex_iload_n ok_X11_keeper (mi 8 rfl) rfl ?_
  refine ex_aaldx (n := 2) ok_X11_keeper (mi 9 rfl) (by decide) (fk f.1 44 rfl) (fn f.1 44 rfl) (pk_in 4 9 (by decide)) (fo f.2.1 7 rfl) (fk f.1 53 rfl) (by decide) ?_
  refine ex_iload_n ok_X11_keeper (mi 10 rfl) rfl ?_
  refine ex_callVr (As := [_]) (v := some (.int (nI 0))) (g1 := h) ok_X11_keeper (mi 11 rfl) rfl ?c rfl (fk f.1 53 rfl) rfl rfl (by decide) (by decide) (Nat.le_of_ble_eq_true rfl) (by decide) ?_
  case c =>
    refine ex_M_of ok_X3_tell cw_X3_tell rfl hst (Nat.le_of_ble_eq_true rfl) ?_
    refine ex_iload_n ok_X3_tell (mi 0 rfl) rfl ?_
    refine ex_tblk (tgt := 44) ok_X3_tell (mi 1 rfl) (by decide) (by decide) (by decide) (by decide) ?_
    refine ex_aload_n ok_X3_tell (mi 2 rfl) rfl ?_
    refine ex_getIx ok_X3_tell (mi 3 rfl) rfl rfl (fk f.1 53 rfl) (fi f.2.2.1 141 rfl) ?_
    refine ex_iret ok_X3_tell (mi 4 rfl) rfl ?_
    exact ⟨inlI (by decide), rfl⟩
  refine ex_iret ok_X11_keeper (mi 12 rfl) rfl ?_
  exact ⟨Or.inl ⟨rfl, inlI (by decide)⟩, kp0⟩
theorem c_keeper_4_1 {G : GE} (hst : (ge_l G).stackTraces = false) {x : Nat}  : CC G 4 4 24 my_X11_keeper x [.int (nI 4), .int (nI 1)] E3 0 ((-1)) := by
  intro h f
  refine ex_M_of ok_X11_keeper cw_X11_keeper rfl hst (Nat.le_of_ble_eq_true rfl) ?_
  refine ex_iload_n ok_X11_keeper (mi 0 rfl) rfl ?_
  refine ex_bipush ok_X11_keeper (mi 1 rfl) ?_
  refine ex_callSr (As := [_, _]) ok_X11_keeper (mi 2 rfl) rfl (m_reqOk hst (pk_in 4 9 (by decide)) (by decide) (by decide)) rfl rfl rfl (by decide) (Nat.le_of_ble_eq_true rfl) (by decide) ?_
  refine ex_iload_n ok_X11_keeper (mi 3 rfl) rfl ?_
  refine ex_bipush ok_X11_keeper (mi 4 rfl) ?_
  refine ex_callSr (As := [_, _]) ok_X11_keeper (mi 5 rfl) rfl (m_reqOk hst (pk_in 1 8 (by decide)) (by decide) (by decide)) rfl rfl rfl (by decide) (Nat.le_of_ble_eq_true rfl) (by decide) ?_
  refine ex_aload_n ok_X11_keeper (mi 6 rfl) rfl ?_
  refine ex_getRx ok_X11_keeper (mi 7 rfl) rfl rfl (fk f.1 0 rfl) (fr f.1 56 rfl) (fk f.1 44 rfl) (by decide) ?_
  refine ex_iload_n ok_X11_keeper (mi 8 rfl) rfl ?_
  refine ex_aaldx (n := 2) ok_X11_keeper (mi 9 rfl) (by decide) (fk f.1 44 rfl) (fn f.1 44 rfl) (pk_in 4 9 (by decide)) (fo f.2.1 7 rfl) (fk f.1 53 rfl) (by decide) ?_
  refine ex_iload_n ok_X11_keeper (mi 10 rfl) rfl ?_
  refine ex_callVr (As := [_]) (v := some (.int (-1))) (g1 := h) ok_X11_keeper (mi 11 rfl) rfl ?c rfl (fk f.1 53 rfl) rfl rfl (by decide) (by decide) (Nat.le_of_ble_eq_true rfl) (by decide) ?_
  case c =>
    refine ex_M_of ok_X3_tell cw_X3_tell rfl hst (Nat.le_of_ble_eq_true rfl) ?_
    refine ex_iload_n ok_X3_tell (mi 0 rfl) rfl ?_
    refine ex_tblk (tgt := 49) ok_X3_tell (mi 1 rfl) (by decide) (by decide) (by decide) (by decide) ?_
    refine ex_aload_n ok_X3_tell (mi 5 rfl) rfl ?_
    refine ex_getIx ok_X3_tell (mi 6 rfl) rfl rfl (fk f.1 53 rfl) (fi f.2.2.1 142 rfl) ?_
    refine ex_iret ok_X3_tell (mi 7 rfl) rfl ?_
    exact ⟨inlI (by decide), rfl⟩
  refine ex_iret ok_X11_keeper (mi 12 rfl) rfl ?_
  exact ⟨Or.inl ⟨rfl, inlI (by decide)⟩, kp0⟩
theorem c_keeper_4_2 {G : GE} (hst : (ge_l G).stackTraces = false) {x : Nat}  : CC G 4 4 24 my_X11_keeper x [.int (nI 4), .int (nI 2)] E3 0 (nI 0) := by
  intro h f
  refine ex_M_of ok_X11_keeper cw_X11_keeper rfl hst (Nat.le_of_ble_eq_true rfl) ?_
  refine ex_iload_n ok_X11_keeper (mi 0 rfl) rfl ?_
  refine ex_bipush ok_X11_keeper (mi 1 rfl) ?_
  refine ex_callSr (As := [_, _]) ok_X11_keeper (mi 2 rfl) rfl (m_reqOk hst (pk_in 4 9 (by decide)) (by decide) (by decide)) rfl rfl rfl (by decide) (Nat.le_of_ble_eq_true rfl) (by decide) ?_
  refine ex_iload_n ok_X11_keeper (mi 3 rfl) rfl ?_
  refine ex_bipush ok_X11_keeper (mi 4 rfl) ?_
  refine ex_callSr (As := [_, _]) ok_X11_keeper (mi 5 rfl) rfl (m_reqOk hst (pk_in 2 8 (by decide)) (by decide) (by decide)) rfl rfl rfl (by decide) (Nat.le_of_ble_eq_true rfl) (by decide) ?_
  refine ex_aload_n ok_X11_keeper (mi 6 rfl) rfl ?_
  refine ex_getRx ok_X11_keeper (mi 7 rfl) rfl rfl (fk f.1 0 rfl) (fr f.1 56 rfl) (fk f.1 44 rfl) (by decide) ?_
  refine ex_iload_n ok_X11_keeper (mi 8 rfl) rfl ?_
  refine ex_aaldx (n := 2) ok_X11_keeper (mi 9 rfl) (by decide) (fk f.1 44 rfl) (fn f.1 44 rfl) (pk_in 4 9 (by decide)) (fo f.2.1 7 rfl) (fk f.1 53 rfl) (by decide) ?_
  refine ex_iload_n ok_X11_keeper (mi 10 rfl) rfl ?_
  refine ex_callVr (As := [_]) (v := some (.int (nI 0))) (g1 := h) ok_X11_keeper (mi 11 rfl) rfl ?c rfl (fk f.1 53 rfl) rfl rfl (by decide) (by decide) (Nat.le_of_ble_eq_true rfl) (by decide) ?_
  case c =>
    refine ex_M_of ok_X3_tell cw_X3_tell rfl hst (Nat.le_of_ble_eq_true rfl) ?_
    refine ex_iload_n ok_X3_tell (mi 0 rfl) rfl ?_
    refine ex_tblk (tgt := 54) ok_X3_tell (mi 1 rfl) (by decide) (by decide) (by decide) (by decide) ?_
    refine ex_aload_n ok_X3_tell (mi 8 rfl) rfl ?_
    refine ex_getIx ok_X3_tell (mi 9 rfl) rfl rfl (fk f.1 53 rfl) (fi f.2.2.1 144 rfl) ?_
    refine ex_iret ok_X3_tell (mi 10 rfl) rfl ?_
    exact ⟨inlI (by decide), rfl⟩
  refine ex_iret ok_X11_keeper (mi 12 rfl) rfl ?_
  exact ⟨Or.inl ⟨rfl, inlI (by decide)⟩, kp0⟩
theorem c_keeper_4_3 {G : GE} (hst : (ge_l G).stackTraces = false) {x : Nat}  : CC G 4 4 24 my_X11_keeper x [.int (nI 4), .int (nI 3)] E3 0 (nI 0) := by
  intro h f
  refine ex_M_of ok_X11_keeper cw_X11_keeper rfl hst (Nat.le_of_ble_eq_true rfl) ?_
  refine ex_iload_n ok_X11_keeper (mi 0 rfl) rfl ?_
  refine ex_bipush ok_X11_keeper (mi 1 rfl) ?_
  refine ex_callSr (As := [_, _]) ok_X11_keeper (mi 2 rfl) rfl (m_reqOk hst (pk_in 4 9 (by decide)) (by decide) (by decide)) rfl rfl rfl (by decide) (Nat.le_of_ble_eq_true rfl) (by decide) ?_
  refine ex_iload_n ok_X11_keeper (mi 3 rfl) rfl ?_
  refine ex_bipush ok_X11_keeper (mi 4 rfl) ?_
  refine ex_callSr (As := [_, _]) ok_X11_keeper (mi 5 rfl) rfl (m_reqOk hst (pk_in 3 8 (by decide)) (by decide) (by decide)) rfl rfl rfl (by decide) (Nat.le_of_ble_eq_true rfl) (by decide) ?_
  refine ex_aload_n ok_X11_keeper (mi 6 rfl) rfl ?_
  refine ex_getRx ok_X11_keeper (mi 7 rfl) rfl rfl (fk f.1 0 rfl) (fr f.1 56 rfl) (fk f.1 44 rfl) (by decide) ?_
  refine ex_iload_n ok_X11_keeper (mi 8 rfl) rfl ?_
  refine ex_aaldx (n := 2) ok_X11_keeper (mi 9 rfl) (by decide) (fk f.1 44 rfl) (fn f.1 44 rfl) (pk_in 4 9 (by decide)) (fo f.2.1 7 rfl) (fk f.1 53 rfl) (by decide) ?_
  refine ex_iload_n ok_X11_keeper (mi 10 rfl) rfl ?_
  refine ex_callVr (As := [_]) (v := some (.int (nI 0))) (g1 := h) ok_X11_keeper (mi 11 rfl) rfl ?c rfl (fk f.1 53 rfl) rfl rfl (by decide) (by decide) (Nat.le_of_ble_eq_true rfl) (by decide) ?_
  case c =>
    refine ex_M_of ok_X3_tell cw_X3_tell rfl hst (Nat.le_of_ble_eq_true rfl) ?_
    refine ex_iload_n ok_X3_tell (mi 0 rfl) rfl ?_
    refine ex_tblk (tgt := 59) ok_X3_tell (mi 1 rfl) (by decide) (by decide) (by decide) (by decide) ?_
    refine ex_aload_n ok_X3_tell (mi 11 rfl) rfl ?_
    refine ex_getRx ok_X3_tell (mi 12 rfl) rfl rfl (fk f.1 53 rfl) (fr f.1 69 rfl) (fk f.1 54 rfl) (by decide) ?_
    refine ex_callSr (As := [_]) ok_X3_tell (mi 13 rfl) rfl (m_X7_size0 hst (sh_sub 858 f.1 (by decide +kernel) (by decide +kernel)) (tA_sub 858 10 (nI 0) f.2.2.2.1 (by decide +kernel))) rfl rfl rfl (by decide) (Nat.le_of_ble_eq_true rfl) (by decide) ?_
    refine ex_iret ok_X3_tell (mi 14 rfl) rfl ?_
    exact ⟨inlI (by decide), rfl⟩
  refine ex_iret ok_X11_keeper (mi 12 rfl) rfl ?_
  exact ⟨Or.inl ⟨rfl, inlI (by decide)⟩, kp0⟩
theorem c_keeper_4_4 {G : GE} (hst : (ge_l G).stackTraces = false) {x : Nat}  : CC G 4 4 24 my_X11_keeper x [.int (nI 4), .int (nI 4)] E3 0 ((-1)) := by
  intro h f
  refine ex_M_of ok_X11_keeper cw_X11_keeper rfl hst (Nat.le_of_ble_eq_true rfl) ?_
  refine ex_iload_n ok_X11_keeper (mi 0 rfl) rfl ?_
  refine ex_bipush ok_X11_keeper (mi 1 rfl) ?_
  refine ex_callSr (As := [_, _]) ok_X11_keeper (mi 2 rfl) rfl (m_reqOk hst (pk_in 4 9 (by decide)) (by decide) (by decide)) rfl rfl rfl (by decide) (Nat.le_of_ble_eq_true rfl) (by decide) ?_
  refine ex_iload_n ok_X11_keeper (mi 3 rfl) rfl ?_
  refine ex_bipush ok_X11_keeper (mi 4 rfl) ?_
  refine ex_callSr (As := [_, _]) ok_X11_keeper (mi 5 rfl) rfl (m_reqOk hst (pk_in 4 8 (by decide)) (by decide) (by decide)) rfl rfl rfl (by decide) (Nat.le_of_ble_eq_true rfl) (by decide) ?_
  refine ex_aload_n ok_X11_keeper (mi 6 rfl) rfl ?_
  refine ex_getRx ok_X11_keeper (mi 7 rfl) rfl rfl (fk f.1 0 rfl) (fr f.1 56 rfl) (fk f.1 44 rfl) (by decide) ?_
  refine ex_iload_n ok_X11_keeper (mi 8 rfl) rfl ?_
  refine ex_aaldx (n := 2) ok_X11_keeper (mi 9 rfl) (by decide) (fk f.1 44 rfl) (fn f.1 44 rfl) (pk_in 4 9 (by decide)) (fo f.2.1 7 rfl) (fk f.1 53 rfl) (by decide) ?_
  refine ex_iload_n ok_X11_keeper (mi 10 rfl) rfl ?_
  refine ex_callVr (As := [_]) (v := some (.int (-1))) (g1 := h) ok_X11_keeper (mi 11 rfl) rfl ?c rfl (fk f.1 53 rfl) rfl rfl (by decide) (by decide) (Nat.le_of_ble_eq_true rfl) (by decide) ?_
  case c =>
    refine ex_M_of ok_X3_tell cw_X3_tell rfl hst (Nat.le_of_ble_eq_true rfl) ?_
    refine ex_iload_n ok_X3_tell (mi 0 rfl) rfl ?_
    refine ex_tblk (tgt := 67) ok_X3_tell (mi 1 rfl) (by decide) (by decide) (by decide) (by decide) ?_
    refine ex_aload_n ok_X3_tell (mi 15 rfl) rfl ?_
    refine ex_getIx ok_X3_tell (mi 16 rfl) rfl rfl (fk f.1 53 rfl) (fi f.2.2.1 145 rfl) ?_
    refine ex_iret ok_X3_tell (mi 17 rfl) rfl ?_
    exact ⟨inlI (by decide), rfl⟩
  refine ex_iret ok_X11_keeper (mi 12 rfl) rfl ?_
  exact ⟨Or.inl ⟨rfl, inlI (by decide)⟩, kp0⟩
theorem c_keeper_4_5 {G : GE} (hst : (ge_l G).stackTraces = false) {x : Nat}  : CC G 4 4 24 my_X11_keeper x [.int (nI 4), .int (nI 5)] E3 0 ((-1)) := by
  intro h f
  refine ex_M_of ok_X11_keeper cw_X11_keeper rfl hst (Nat.le_of_ble_eq_true rfl) ?_
  refine ex_iload_n ok_X11_keeper (mi 0 rfl) rfl ?_
  refine ex_bipush ok_X11_keeper (mi 1 rfl) ?_
  refine ex_callSr (As := [_, _]) ok_X11_keeper (mi 2 rfl) rfl (m_reqOk hst (pk_in 4 9 (by decide)) (by decide) (by decide)) rfl rfl rfl (by decide) (Nat.le_of_ble_eq_true rfl) (by decide) ?_
  refine ex_iload_n ok_X11_keeper (mi 3 rfl) rfl ?_
  refine ex_bipush ok_X11_keeper (mi 4 rfl) ?_
  refine ex_callSr (As := [_, _]) ok_X11_keeper (mi 5 rfl) rfl (m_reqOk hst (pk_in 5 8 (by decide)) (by decide) (by decide)) rfl rfl rfl (by decide) (Nat.le_of_ble_eq_true rfl) (by decide) ?_
  refine ex_aload_n ok_X11_keeper (mi 6 rfl) rfl ?_
  refine ex_getRx ok_X11_keeper (mi 7 rfl) rfl rfl (fk f.1 0 rfl) (fr f.1 56 rfl) (fk f.1 44 rfl) (by decide) ?_
  refine ex_iload_n ok_X11_keeper (mi 8 rfl) rfl ?_
  refine ex_aaldx (n := 2) ok_X11_keeper (mi 9 rfl) (by decide) (fk f.1 44 rfl) (fn f.1 44 rfl) (pk_in 4 9 (by decide)) (fo f.2.1 7 rfl) (fk f.1 53 rfl) (by decide) ?_
  refine ex_iload_n ok_X11_keeper (mi 10 rfl) rfl ?_
  refine ex_callVr (As := [_]) (v := some (.int (-1))) (g1 := h) ok_X11_keeper (mi 11 rfl) rfl ?c rfl (fk f.1 53 rfl) rfl rfl (by decide) (by decide) (Nat.le_of_ble_eq_true rfl) (by decide) ?_
  case c =>
    refine ex_M_of ok_X3_tell cw_X3_tell rfl hst (Nat.le_of_ble_eq_true rfl) ?_
    refine ex_iload_n ok_X3_tell (mi 0 rfl) rfl ?_
    refine ex_tblk (tgt := 72) ok_X3_tell (mi 1 rfl) (by decide) (by decide) (by decide) (by decide) ?_
    refine ex_aload_n ok_X3_tell (mi 18 rfl) rfl ?_
    refine ex_getIx ok_X3_tell (mi 19 rfl) rfl rfl (fk f.1 53 rfl) (fi f.2.2.1 146 rfl) ?_
    refine ex_iret ok_X3_tell (mi 20 rfl) rfl ?_
    exact ⟨inlI (by decide), rfl⟩
  refine ex_iret ok_X11_keeper (mi 12 rfl) rfl ?_
  exact ⟨Or.inl ⟨rfl, inlI (by decide)⟩, kp0⟩
theorem c_keeper_4_6 {G : GE} (hst : (ge_l G).stackTraces = false) {x : Nat}  : CC G 4 4 24 my_X11_keeper x [.int (nI 4), .int (nI 6)] E3 0 (nI 0) := by
  intro h f
  refine ex_M_of ok_X11_keeper cw_X11_keeper rfl hst (Nat.le_of_ble_eq_true rfl) ?_
  refine ex_iload_n ok_X11_keeper (mi 0 rfl) rfl ?_
  refine ex_bipush ok_X11_keeper (mi 1 rfl) ?_
  refine ex_callSr (As := [_, _]) ok_X11_keeper (mi 2 rfl) rfl (m_reqOk hst (pk_in 4 9 (by decide)) (by decide) (by decide)) rfl rfl rfl (by decide) (Nat.le_of_ble_eq_true rfl) (by decide) ?_
  refine ex_iload_n ok_X11_keeper (mi 3 rfl) rfl ?_
  refine ex_bipush ok_X11_keeper (mi 4 rfl) ?_
  refine ex_callSr (As := [_, _]) ok_X11_keeper (mi 5 rfl) rfl (m_reqOk hst (pk_in 6 8 (by decide)) (by decide) (by decide)) rfl rfl rfl (by decide) (Nat.le_of_ble_eq_true rfl) (by decide) ?_
  refine ex_aload_n ok_X11_keeper (mi 6 rfl) rfl ?_
  refine ex_getRx ok_X11_keeper (mi 7 rfl) rfl rfl (fk f.1 0 rfl) (fr f.1 56 rfl) (fk f.1 44 rfl) (by decide) ?_
  refine ex_iload_n ok_X11_keeper (mi 8 rfl) rfl ?_
  refine ex_aaldx (n := 2) ok_X11_keeper (mi 9 rfl) (by decide) (fk f.1 44 rfl) (fn f.1 44 rfl) (pk_in 4 9 (by decide)) (fo f.2.1 7 rfl) (fk f.1 53 rfl) (by decide) ?_
  refine ex_iload_n ok_X11_keeper (mi 10 rfl) rfl ?_
  refine ex_callVr (As := [_]) (v := some (.int (nI 0))) (g1 := h) ok_X11_keeper (mi 11 rfl) rfl ?c rfl (fk f.1 53 rfl) rfl rfl (by decide) (by decide) (Nat.le_of_ble_eq_true rfl) (by decide) ?_
  case c =>
    refine ex_M_of ok_X3_tell cw_X3_tell rfl hst (Nat.le_of_ble_eq_true rfl) ?_
    refine ex_iload_n ok_X3_tell (mi 0 rfl) rfl ?_
    refine ex_tblk (tgt := 77) ok_X3_tell (mi 1 rfl) (by decide) (by decide) (by decide) (by decide) ?_
    refine ex_aload_n ok_X3_tell (mi 21 rfl) rfl ?_
    refine ex_getIx ok_X3_tell (mi 22 rfl) rfl rfl (fk f.1 53 rfl) (fi f.2.2.1 147 rfl) ?_
    refine ex_iret ok_X3_tell (mi 23 rfl) rfl ?_
    exact ⟨inlI (by decide), rfl⟩
  refine ex_iret ok_X11_keeper (mi 12 rfl) rfl ?_
  exact ⟨Or.inl ⟨rfl, inlI (by decide)⟩, kp0⟩
theorem c_keeper_4_7 {G : GE} (hst : (ge_l G).stackTraces = false) {x : Nat}  : CC G 4 4 24 my_X11_keeper x [.int (nI 4), .int (nI 7)] E3 0 (nI 0) := by
  intro h f
  refine ex_M_of ok_X11_keeper cw_X11_keeper rfl hst (Nat.le_of_ble_eq_true rfl) ?_
  refine ex_iload_n ok_X11_keeper (mi 0 rfl) rfl ?_
  refine ex_bipush ok_X11_keeper (mi 1 rfl) ?_
  refine ex_callSr (As := [_, _]) ok_X11_keeper (mi 2 rfl) rfl (m_reqOk hst (pk_in 4 9 (by decide)) (by decide) (by decide)) rfl rfl rfl (by decide) (Nat.le_of_ble_eq_true rfl) (by decide) ?_
  refine ex_iload_n ok_X11_keeper (mi 3 rfl) rfl ?_
  refine ex_bipush ok_X11_keeper (mi 4 rfl) ?_
  refine ex_callSr (As := [_, _]) ok_X11_keeper (mi 5 rfl) rfl (m_reqOk hst (pk_in 7 8 (by decide)) (by decide) (by decide)) rfl rfl rfl (by decide) (Nat.le_of_ble_eq_true rfl) (by decide) ?_
  refine ex_aload_n ok_X11_keeper (mi 6 rfl) rfl ?_
  refine ex_getRx ok_X11_keeper (mi 7 rfl) rfl rfl (fk f.1 0 rfl) (fr f.1 56 rfl) (fk f.1 44 rfl) (by decide) ?_
  refine ex_iload_n ok_X11_keeper (mi 8 rfl) rfl ?_
  refine ex_aaldx (n := 2) ok_X11_keeper (mi 9 rfl) (by decide) (fk f.1 44 rfl) (fn f.1 44 rfl) (pk_in 4 9 (by decide)) (fo f.2.1 7 rfl) (fk f.1 53 rfl) (by decide) ?_
  refine ex_iload_n ok_X11_keeper (mi 10 rfl) rfl ?_
  refine ex_callVr (As := [_]) (v := some (.int (nI 0))) (g1 := h) ok_X11_keeper (mi 11 rfl) rfl ?c rfl (fk f.1 53 rfl) rfl rfl (by decide) (by decide) (Nat.le_of_ble_eq_true rfl) (by decide) ?_
  case c =>
    refine ex_M_of ok_X3_tell cw_X3_tell rfl hst (Nat.le_of_ble_eq_true rfl) ?_
    refine ex_iload_n ok_X3_tell (mi 0 rfl) rfl ?_
    refine ex_tblk (tgt := 82) ok_X3_tell (mi 1 rfl) (by decide) (by decide) (by decide) (by decide) ?_
    refine ex_aload_n ok_X3_tell (mi 24 rfl) rfl ?_
    refine ex_getIx ok_X3_tell (mi 25 rfl) rfl rfl (fk f.1 53 rfl) (fi f.2.2.1 148 rfl) ?_
    refine ex_iret ok_X3_tell (mi 26 rfl) rfl ?_
    exact ⟨inlI (by decide), rfl⟩
  refine ex_iret ok_X11_keeper (mi 12 rfl) rfl ?_
  exact ⟨Or.inl ⟨rfl, inlI (by decide)⟩, kp0⟩
theorem c_entry_4 {G : GE} (hst : (ge_l G).stackTraces = false) {x : Nat} {p1 p2 : Int32} : CC G 3 4 24 my_X11_entry x [.int (nI 4), .int p1, .int p2] E3 1 (nI 0) := by
  intro h f
  refine ex_M_of ok_X11_entry cw_X11_entry rfl hst (Nat.le_of_ble_eq_true rfl) ?_
  refine ex_iload_n ok_X11_entry (mi 0 rfl) rfl ?_
  refine ex_bipush ok_X11_entry (mi 1 rfl) ?_
  refine ex_callSr (As := [_, _]) ok_X11_entry (mi 2 rfl) rfl (m_reqOk hst (pk_in 4 9 (by decide)) (by decide) (by decide)) rfl rfl rfl (by decide) (Nat.le_of_ble_eq_true rfl) (by decide) ?_
  refine ex_aload_n ok_X11_entry (mi 3 rfl) rfl ?_
  refine ex_getRx ok_X11_entry (mi 4 rfl) rfl rfl (fk f.1 0 rfl) (fr f.1 56 rfl) (fk f.1 44 rfl) (by decide) ?_
  refine ex_iload_n ok_X11_entry (mi 5 rfl) rfl ?_
  refine ex_aaldx (n := 2) ok_X11_entry (mi 6 rfl) (by decide) (fk f.1 44 rfl) (fn f.1 44 rfl) (pk_in 4 9 (by decide)) (fo f.2.1 7 rfl) (fk f.1 53 rfl) (by decide) ?_
  refine ex_getRx ok_X11_entry (mi 7 rfl) rfl rfl (fk f.1 53 rfl) (fr f.1 69 rfl) (fk f.1 54 rfl) (by decide) ?_
  refine ex_iload_n ok_X11_entry (mi 8 rfl) rfl ?_
  refine ex_callSr (As := [_, _]) ok_X11_entry (mi 9 rfl) rfl (m_at0 hst (sh_sub 858 f.1 (by decide +kernel) (by decide +kernel)) (tA_sub 858 10 (nI 0) f.2.2.2.1 (by decide +kernel))) rfl rfl rfl (by decide) (Nat.le_of_ble_eq_true rfl) (by decide) ?_
  refine ex_istore ok_X11_entry (mi 10 rfl) ?_
  refine ex_iload ok_X11_entry (mi 11 rfl) rfl ?_
  refine ex_sipush ok_X11_entry (mi 12 rfl) ?_
  refine ex_callSt (e := 100) (As := [_, _]) ok_X11_entry (mi 13 rfl) rfl (m_reqBad (m := 300) hst (by unfold vp_in; decide) (by decide) (by decide)) rfl rfl rfl (by decide) (Nat.le_of_ble_eq_true rfl) (by decide) (fun n hn => ?_)
  exact ⟨Or.inr ⟨by decide, rfl⟩, kpZ kp0 hn⟩
theorem c_keeper_5_0 {G : GE} (hst : (ge_l G).stackTraces = false) {x : Nat}  : CC G 4 4 24 my_X11_keeper x [.int (nI 5), .int (nI 0)] E3 0 (nI 0) := by
  intro h f
  refine ex_M_of ok_X11_keeper cw_X11_keeper rfl hst (Nat.le_of_ble_eq_true rfl) ?_
  refine ex_iload_n ok_X11_keeper (mi 0 rfl) rfl ?_
  refine ex_bipush ok_X11_keeper (mi 1 rfl) ?_
  refine ex_callSr (As := [_, _]) ok_X11_keeper (mi 2 rfl) rfl (m_reqOk hst (pk_in 5 9 (by decide)) (by decide) (by decide)) rfl rfl rfl (by decide) (Nat.le_of_ble_eq_true rfl) (by decide) ?_
  refine ex_iload_n ok_X11_keeper (mi 3 rfl) rfl ?_
  refine ex_bipush ok_X11_keeper (mi 4 rfl) ?_
  refine ex_callSr (As := [_, _]) ok_X11_keeper (mi 5 rfl) rfl (m_reqOk hst (pk_in 0 8 (by decide)) (by decide) (by decide)) rfl rfl rfl (by decide) (Nat.le_of_ble_eq_true rfl) (by decide) ?_
  refine ex_aload_n ok_X11_keeper (mi 6 rfl) rfl ?_
  refine ex_getRx ok_X11_keeper (mi 7 rfl) rfl rfl (fk f.1 0 rfl) (fr f.1 56 rfl) (fk f.1 44 rfl) (by decide) ?_
  refine ex_iload_n ok_X11_keeper (mi 8 rfl) rfl ?_
  refine ex_aaldx (n := 2) ok_X11_keeper (mi 9 rfl) (by decide) (fk f.1 44 rfl) (fn f.1 44 rfl) (pk_in 5 9 (by decide)) (fo f.2.1 8 rfl) (fk f.1 55 rfl) (by decide) ?_
  refine ex_iload_n ok_X11_keeper (mi 10 rfl) rfl ?_
  refine ex_callVr (As := [_]) (v := some (.int (nI 0))) (g1 := h) ok_X11_keeper (mi 11 rfl) rfl ?c rfl (fk f.1 55 rfl) rfl rfl (by decide) (by decide) (Nat.le_of_ble_eq_true rfl) (by decide) ?_
  case c =>
    refine ex_M_of ok_X3_tell cw_X3_tell rfl hst (Nat.le_of_ble_eq_true rfl) ?_
    refine ex_iload_n ok_X3_tell (mi 0 rfl) rfl ?_
    refine ex_tblk (tgt := 44) ok_X3_tell (mi 1 rfl) (by decide) (by decide) (by decide) (by decide) ?_
    refine ex_aload_n ok_X3_tell (mi 2 rfl) rfl ?_
    refine ex_getIx ok_X3_tell (mi 3 rfl) rfl rfl (fk f.1 55 rfl) (fi f.2.2.1 149 rfl) ?_
    refine ex_iret ok_X3_tell (mi 4 rfl) rfl ?_
    exact ⟨inlI (by decide), rfl⟩
  refine ex_iret ok_X11_keeper (mi 12 rfl) rfl ?_
  exact ⟨Or.inl ⟨rfl, inlI (by decide)⟩, kp0⟩
theorem c_keeper_5_1 {G : GE} (hst : (ge_l G).stackTraces = false) {x : Nat}  : CC G 4 4 24 my_X11_keeper x [.int (nI 5), .int (nI 1)] E3 0 ((-1)) := by
  intro h f
  refine ex_M_of ok_X11_keeper cw_X11_keeper rfl hst (Nat.le_of_ble_eq_true rfl) ?_
  refine ex_iload_n ok_X11_keeper (mi 0 rfl) rfl ?_
  refine ex_bipush ok_X11_keeper (mi 1 rfl) ?_
  refine ex_callSr (As := [_, _]) ok_X11_keeper (mi 2 rfl) rfl (m_reqOk hst (pk_in 5 9 (by decide)) (by decide) (by decide)) rfl rfl rfl (by decide) (Nat.le_of_ble_eq_true rfl) (by decide) ?_
  refine ex_iload_n ok_X11_keeper (mi 3 rfl) rfl ?_
  refine ex_bipush ok_X11_keeper (mi 4 rfl) ?_
  refine ex_callSr (As := [_, _]) ok_X11_keeper (mi 5 rfl) rfl (m_reqOk hst (pk_in 1 8 (by decide)) (by decide) (by decide)) rfl rfl rfl (by decide) (Nat.le_of_ble_eq_true rfl) (by decide) ?_
  refine ex_aload_n ok_X11_keeper (mi 6 rfl) rfl ?_
  refine ex_getRx ok_X11_keeper (mi 7 rfl) rfl rfl (fk f.1 0 rfl) (fr f.1 56 rfl) (fk f.1 44 rfl) (by decide) ?_
  refine ex_iload_n ok_X11_keeper (mi 8 rfl) rfl ?_
  refine ex_aaldx (n := 2) ok_X11_keeper (mi 9 rfl) (by decide) (fk f.1 44 rfl) (fn f.1 44 rfl) (pk_in 5 9 (by decide)) (fo f.2.1 8 rfl) (fk f.1 55 rfl) (by decide) ?_
  refine ex_iload_n ok_X11_keeper (mi 10 rfl) rfl ?_
  refine ex_callVr (As := [_]) (v := some (.int (-1))) (g1 := h) ok_X11_keeper (mi 11 rfl) rfl ?c rfl (fk f.1 55 rfl) rfl rfl (by decide) (by decide) (Nat.le_of_ble_eq_true rfl) (by decide) ?_
  case c =>
    refine ex_M_of ok_X3_tell cw_X3_tell rfl hst (Nat.le_of_ble_eq_true rfl) ?_
    refine ex_iload_n ok_X3_tell (mi 0 rfl) rfl ?_
    refine ex_tblk (tgt := 49) ok_X3_tell (mi 1 rfl) (by decide) (by decide) (by decide) (by decide) ?_
    refine ex_aload_n ok_X3_tell (mi 5 rfl) rfl ?_
    refine ex_getIx ok_X3_tell (mi 6 rfl) rfl rfl (fk f.1 55 rfl) (fi f.2.2.1 150 rfl) ?_
    refine ex_iret ok_X3_tell (mi 7 rfl) rfl ?_
    exact ⟨inlI (by decide), rfl⟩
  refine ex_iret ok_X11_keeper (mi 12 rfl) rfl ?_
  exact ⟨Or.inl ⟨rfl, inlI (by decide)⟩, kp0⟩
theorem c_keeper_5_2 {G : GE} (hst : (ge_l G).stackTraces = false) {x : Nat}  : CC G 4 4 24 my_X11_keeper x [.int (nI 5), .int (nI 2)] E3 0 (nI 0) := by
  intro h f
  refine ex_M_of ok_X11_keeper cw_X11_keeper rfl hst (Nat.le_of_ble_eq_true rfl) ?_
  refine ex_iload_n ok_X11_keeper (mi 0 rfl) rfl ?_
  refine ex_bipush ok_X11_keeper (mi 1 rfl) ?_
  refine ex_callSr (As := [_, _]) ok_X11_keeper (mi 2 rfl) rfl (m_reqOk hst (pk_in 5 9 (by decide)) (by decide) (by decide)) rfl rfl rfl (by decide) (Nat.le_of_ble_eq_true rfl) (by decide) ?_
  refine ex_iload_n ok_X11_keeper (mi 3 rfl) rfl ?_
  refine ex_bipush ok_X11_keeper (mi 4 rfl) ?_
  refine ex_callSr (As := [_, _]) ok_X11_keeper (mi 5 rfl) rfl (m_reqOk hst (pk_in 2 8 (by decide)) (by decide) (by decide)) rfl rfl rfl (by decide) (Nat.le_of_ble_eq_true rfl) (by decide) ?_
  refine ex_aload_n ok_X11_keeper (mi 6 rfl) rfl ?_
  refine ex_getRx ok_X11_keeper (mi 7 rfl) rfl rfl (fk f.1 0 rfl) (fr f.1 56 rfl) (fk f.1 44 rfl) (by decide) ?_
  refine ex_iload_n ok_X11_keeper (mi 8 rfl) rfl ?_
  refine ex_aaldx (n := 2) ok_X11_keeper (mi 9 rfl) (by decide) (fk f.1 44 rfl) (fn f.1 44 rfl) (pk_in 5 9 (by decide)) (fo f.2.1 8 rfl) (fk f.1 55 rfl) (by decide) ?_
  refine ex_iload_n ok_X11_keeper (mi 10 rfl) rfl ?_
  refine ex_callVr (As := [_]) (v := some (.int (nI 0))) (g1 := h) ok_X11_keeper (mi 11 rfl) rfl ?c rfl (fk f.1 55 rfl) rfl rfl (by decide) (by decide) (Nat.le_of_ble_eq_true rfl) (by decide) ?_
  case c =>
    refine ex_M_of ok_X3_tell cw_X3_tell rfl hst (Nat.le_of_ble_eq_true rfl) ?_
    refine ex_iload_n ok_X3_tell (mi 0 rfl) rfl ?_
    refine ex_tblk (tgt := 54) ok_X3_tell (mi 1 rfl) (by decide) (by decide) (by decide) (by decide) ?_
    refine ex_aload_n ok_X3_tell (mi 8 rfl) rfl ?_
    refine ex_getIx ok_X3_tell (mi 9 rfl) rfl rfl (fk f.1 55 rfl) (fi f.2.2.1 152 rfl) ?_
    refine ex_iret ok_X3_tell (mi 10 rfl) rfl ?_
    exact ⟨inlI (by decide), rfl⟩
  refine ex_iret ok_X11_keeper (mi 12 rfl) rfl ?_
  exact ⟨Or.inl ⟨rfl, inlI (by decide)⟩, kp0⟩
theorem c_keeper_5_3 {G : GE} (hst : (ge_l G).stackTraces = false) {x : Nat}  : CC G 4 4 24 my_X11_keeper x [.int (nI 5), .int (nI 3)] E3 0 (nI 0) := by
  intro h f
  refine ex_M_of ok_X11_keeper cw_X11_keeper rfl hst (Nat.le_of_ble_eq_true rfl) ?_
  refine ex_iload_n ok_X11_keeper (mi 0 rfl) rfl ?_
  refine ex_bipush ok_X11_keeper (mi 1 rfl) ?_
  refine ex_callSr (As := [_, _]) ok_X11_keeper (mi 2 rfl) rfl (m_reqOk hst (pk_in 5 9 (by decide)) (by decide) (by decide)) rfl rfl rfl (by decide) (Nat.le_of_ble_eq_true rfl) (by decide) ?_
  refine ex_iload_n ok_X11_keeper (mi 3 rfl) rfl ?_
  refine ex_bipush ok_X11_keeper (mi 4 rfl) ?_
  refine ex_callSr (As := [_, _]) ok_X11_keeper (mi 5 rfl) rfl (m_reqOk hst (pk_in 3 8 (by decide)) (by decide) (by decide)) rfl rfl rfl (by decide) (Nat.le_of_ble_eq_true rfl) (by decide) ?_
  refine ex_aload_n ok_X11_keeper (mi 6 rfl) rfl ?_
  refine ex_getRx ok_X11_keeper (mi 7 rfl) rfl rfl (fk f.1 0 rfl) (fr f.1 56 rfl) (fk f.1 44 rfl) (by decide) ?_
  refine ex_iload_n ok_X11_keeper (mi 8 rfl) rfl ?_
  refine ex_aaldx (n := 2) ok_X11_keeper (mi 9 rfl) (by decide) (fk f.1 44 rfl) (fn f.1 44 rfl) (pk_in 5 9 (by decide)) (fo f.2.1 8 rfl) (fk f.1 55 rfl) (by decide) ?_
  refine ex_iload_n ok_X11_keeper (mi 10 rfl) rfl ?_
  refine ex_callVr (As := [_]) (v := some (.int (nI 0))) (g1 := h) ok_X11_keeper (mi 11 rfl) rfl ?c rfl (fk f.1 55 rfl) rfl rfl (by decide) (by decide) (Nat.le_of_ble_eq_true rfl) (by decide) ?_
  case c =>
    refine ex_M_of ok_X3_tell cw_X3_tell rfl hst (Nat.le_of_ble_eq_true rfl) ?_
    refine ex_iload_n ok_X3_tell (mi 0 rfl) rfl ?_
    refine ex_tblk (tgt := 59) ok_X3_tell (mi 1 rfl) (by decide) (by decide) (by decide) (by decide) ?_
    refine ex_aload_n ok_X3_tell (mi 11 rfl) rfl ?_
    refine ex_getRx ok_X3_tell (mi 12 rfl) rfl rfl (fk f.1 55 rfl) (fr f.1 72 rfl) (fk f.1 56 rfl) (by decide) ?_
    refine ex_callSr (As := [_]) ok_X3_tell (mi 13 rfl) rfl (m_X7_size0 hst (sh_sub 860 f.1 (by decide +kernel) (by decide +kernel)) (tA_sub 860 10 (nI 0) f.2.2.2.1 (by decide +kernel))) rfl rfl rfl (by decide) (Nat.le_of_ble_eq_true rfl) (by decide) ?_
    refine ex_iret ok_X3_tell (mi 14 rfl) rfl ?_
    exact ⟨inlI (by decide), rfl⟩
  refine ex_iret ok_X11_keeper (mi 12 rfl) rfl ?_
  exact ⟨Or.inl ⟨rfl, inlI (by decide)⟩, kp0⟩
theorem c_keeper_5_4 {G : GE} (hst : (ge_l G).stackTraces = false) {x : Nat}  : CC G 4 4 24 my_X11_keeper x [.int (nI 5), .int (nI 4)] E3 0 ((-1)) := by
  intro h f
  refine ex_M_of ok_X11_keeper cw_X11_keeper rfl hst (Nat.le_of_ble_eq_true rfl) ?_
  refine ex_iload_n ok_X11_keeper (mi 0 rfl) rfl ?_
  refine ex_bipush ok_X11_keeper (mi 1 rfl) ?_
  refine ex_callSr (As := [_, _]) ok_X11_keeper (mi 2 rfl) rfl (m_reqOk hst (pk_in 5 9 (by decide)) (by decide) (by decide)) rfl rfl rfl (by decide) (Nat.le_of_ble_eq_true rfl) (by decide) ?_
  refine ex_iload_n ok_X11_keeper (mi 3 rfl) rfl ?_
  refine ex_bipush ok_X11_keeper (mi 4 rfl) ?_
  refine ex_callSr (As := [_, _]) ok_X11_keeper (mi 5 rfl) rfl (m_reqOk hst (pk_in 4 8 (by decide)) (by decide) (by decide)) rfl rfl rfl (by decide) (Nat.le_of_ble_eq_true rfl) (by decide) ?_
  refine ex_aload_n ok_X11_keeper (mi 6 rfl) rfl ?_
  refine ex_getRx ok_X11_keeper (mi 7 rfl) rfl rfl (fk f.1 0 rfl) (fr f.1 56 rfl) (fk f.1 44 rfl) (by decide) ?_
  refine ex_iload_n ok_X11_keeper (mi 8 rfl) rfl ?_
  refine ex_aaldx (n := 2) ok_X11_keeper (mi 9 rfl) (by decide) (fk f.1 44 rfl) (fn f.1 44 rfl) (pk_in 5 9 (by decide)) (fo f.2.1 8 rfl) (fk f.1 55 rfl) (by decide) ?_
  refine ex_iload_n ok_X11_keeper (mi 10 rfl) rfl ?_
  refine ex_callVr (As := [_]) (v := some (.int (-1))) (g1 := h) ok_X11_keeper (mi 11 rfl) rfl ?c rfl (fk f.1 55 rfl) rfl rfl (by decide) (by decide) (Nat.le_of_ble_eq_true rfl) (by decide) ?_
  case c =>
    refine ex_M_of ok_X3_tell cw_X3_tell rfl hst (Nat.le_of_ble_eq_true rfl) ?_
    refine ex_iload_n ok_X3_tell (mi 0 rfl) rfl ?_
    refine ex_tblk (tgt := 67) ok_X3_tell (mi 1 rfl) (by decide) (by decide) (by decide) (by decide) ?_
    refine ex_aload_n ok_X3_tell (mi 15 rfl) rfl ?_
    refine ex_getIx ok_X3_tell (mi 16 rfl) rfl rfl (fk f.1 55 rfl) (fi f.2.2.1 153 rfl) ?_
    refine ex_iret ok_X3_tell (mi 17 rfl) rfl ?_
    exact ⟨inlI (by decide), rfl⟩
  refine ex_iret ok_X11_keeper (mi 12 rfl) rfl ?_
  exact ⟨Or.inl ⟨rfl, inlI (by decide)⟩, kp0⟩
theorem c_keeper_5_5 {G : GE} (hst : (ge_l G).stackTraces = false) {x : Nat}  : CC G 4 4 24 my_X11_keeper x [.int (nI 5), .int (nI 5)] E3 0 ((-1)) := by
  intro h f
  refine ex_M_of ok_X11_keeper cw_X11_keeper rfl hst (Nat.le_of_ble_eq_true rfl) ?_
  refine ex_iload_n ok_X11_keeper (mi 0 rfl) rfl ?_
  refine ex_bipush ok_X11_keeper (mi 1 rfl) ?_
  refine ex_callSr (As := [_, _]) ok_X11_keeper (mi 2 rfl) rfl (m_reqOk hst (pk_in 5 9 (by decide)) (by decide) (by decide)) rfl rfl rfl (by decide) (Nat.le_of_ble_eq_true rfl) (by decide) ?_
  refine ex_iload_n ok_X11_keeper (mi 3 rfl) rfl ?_
  refine ex_bipush ok_X11_keeper (mi 4 rfl) ?_
  refine ex_callSr (As := [_, _]) ok_X11_keeper (mi 5 rfl) rfl (m_reqOk hst (pk_in 5 8 (by decide)) (by decide) (by decide)) rfl rfl rfl (by decide) (Nat.le_of_ble_eq_true rfl) (by decide) ?_
  refine ex_aload_n ok_X11_keeper (mi 6 rfl) rfl ?_
  refine ex_getRx ok_X11_keeper (mi 7 rfl) rfl rfl (fk f.1 0 rfl) (fr f.1 56 rfl) (fk f.1 44 rfl) (by decide) ?_
  refine ex_iload_n ok_X11_keeper (mi 8 rfl) rfl ?_
  refine ex_aaldx (n := 2) ok_X11_keeper (mi 9 rfl) (by decide) (fk f.1 44 rfl) (fn f.1 44 rfl) (pk_in 5 9 (by decide)) (fo f.2.1 8 rfl) (fk f.1 55 rfl) (by decide) ?_
  refine ex_iload_n ok_X11_keeper (mi 10 rfl) rfl ?_
  refine ex_callVr (As := [_]) (v := some (.int (-1))) (g1 := h) ok_X11_keeper (mi 11 rfl) rfl ?c rfl (fk f.1 55 rfl) rfl rfl (by decide) (by decide) (Nat.le_of_ble_eq_true rfl) (by decide) ?_
  case c =>
    refine ex_M_of ok_X3_tell cw_X3_tell rfl hst (Nat.le_of_ble_eq_true rfl) ?_
    refine ex_iload_n ok_X3_tell (mi 0 rfl) rfl ?_
    refine ex_tblk (tgt := 72) ok_X3_tell (mi 1 rfl) (by decide) (by decide) (by decide) (by decide) ?_
    refine ex_aload_n ok_X3_tell (mi 18 rfl) rfl ?_
    refine ex_getIx ok_X3_tell (mi 19 rfl) rfl rfl (fk f.1 55 rfl) (fi f.2.2.1 154 rfl) ?_
    refine ex_iret ok_X3_tell (mi 20 rfl) rfl ?_
    exact ⟨inlI (by decide), rfl⟩
  refine ex_iret ok_X11_keeper (mi 12 rfl) rfl ?_
  exact ⟨Or.inl ⟨rfl, inlI (by decide)⟩, kp0⟩
theorem c_keeper_5_6 {G : GE} (hst : (ge_l G).stackTraces = false) {x : Nat}  : CC G 4 4 24 my_X11_keeper x [.int (nI 5), .int (nI 6)] E3 0 (nI 0) := by
  intro h f
  refine ex_M_of ok_X11_keeper cw_X11_keeper rfl hst (Nat.le_of_ble_eq_true rfl) ?_
  refine ex_iload_n ok_X11_keeper (mi 0 rfl) rfl ?_
  refine ex_bipush ok_X11_keeper (mi 1 rfl) ?_
  refine ex_callSr (As := [_, _]) ok_X11_keeper (mi 2 rfl) rfl (m_reqOk hst (pk_in 5 9 (by decide)) (by decide) (by decide)) rfl rfl rfl (by decide) (Nat.le_of_ble_eq_true rfl) (by decide) ?_
  refine ex_iload_n ok_X11_keeper (mi 3 rfl) rfl ?_
  refine ex_bipush ok_X11_keeper (mi 4 rfl) ?_
  refine ex_callSr (As := [_, _]) ok_X11_keeper (mi 5 rfl) rfl (m_reqOk hst (pk_in 6 8 (by decide)) (by decide) (by decide)) rfl rfl rfl (by decide) (Nat.le_of_ble_eq_true rfl) (by decide) ?_
  refine ex_aload_n ok_X11_keeper (mi 6 rfl) rfl ?_
  refine ex_getRx ok_X11_keeper (mi 7 rfl) rfl rfl (fk f.1 0 rfl) (fr f.1 56 rfl) (fk f.1 44 rfl) (by decide) ?_
  refine ex_iload_n ok_X11_keeper (mi 8 rfl) rfl ?_
  refine ex_aaldx (n := 2) ok_X11_keeper (mi 9 rfl) (by decide) (fk f.1 44 rfl) (fn f.1 44 rfl) (pk_in 5 9 (by decide)) (fo f.2.1 8 rfl) (fk f.1 55 rfl) (by decide) ?_
  refine ex_iload_n ok_X11_keeper (mi 10 rfl) rfl ?_
  refine ex_callVr (As := [_]) (v := some (.int (nI 0))) (g1 := h) ok_X11_keeper (mi 11 rfl) rfl ?c rfl (fk f.1 55 rfl) rfl rfl (by decide) (by decide) (Nat.le_of_ble_eq_true rfl) (by decide) ?_
  case c =>
    refine ex_M_of ok_X3_tell cw_X3_tell rfl hst (Nat.le_of_ble_eq_true rfl) ?_
    refine ex_iload_n ok_X3_tell (mi 0 rfl) rfl ?_
    refine ex_tblk (tgt := 77) ok_X3_tell (mi 1 rfl) (by decide) (by decide) (by decide) (by decide) ?_
    refine ex_aload_n ok_X3_tell (mi 21 rfl) rfl ?_
    refine ex_getIx ok_X3_tell (mi 22 rfl) rfl rfl (fk f.1 55 rfl) (fi f.2.2.1 155 rfl) ?_
    refine ex_iret ok_X3_tell (mi 23 rfl) rfl ?_
    exact ⟨inlI (by decide), rfl⟩
  refine ex_iret ok_X11_keeper (mi 12 rfl) rfl ?_
  exact ⟨Or.inl ⟨rfl, inlI (by decide)⟩, kp0⟩
theorem c_keeper_5_7 {G : GE} (hst : (ge_l G).stackTraces = false) {x : Nat}  : CC G 4 4 24 my_X11_keeper x [.int (nI 5), .int (nI 7)] E3 0 (nI 0) := by
  intro h f
  refine ex_M_of ok_X11_keeper cw_X11_keeper rfl hst (Nat.le_of_ble_eq_true rfl) ?_
  refine ex_iload_n ok_X11_keeper (mi 0 rfl) rfl ?_
  refine ex_bipush ok_X11_keeper (mi 1 rfl) ?_
  refine ex_callSr (As := [_, _]) ok_X11_keeper (mi 2 rfl) rfl (m_reqOk hst (pk_in 5 9 (by decide)) (by decide) (by decide)) rfl rfl rfl (by decide) (Nat.le_of_ble_eq_true rfl) (by decide) ?_
  refine ex_iload_n ok_X11_keeper (mi 3 rfl) rfl ?_
  refine ex_bipush ok_X11_keeper (mi 4 rfl) ?_
  refine ex_callSr (As := [_, _]) ok_X11_keeper (mi 5 rfl) rfl (m_reqOk hst (pk_in 7 8 (by decide)) (by decide) (by decide)) rfl rfl rfl (by decide) (Nat.le_of_ble_eq_true rfl) (by decide) ?_
  refine ex_aload_n ok_X11_keeper (mi 6 rfl) rfl ?_
  refine ex_getRx ok_X11_keeper (mi 7 rfl) rfl rfl (fk f.1 0 rfl) (fr f.1 56 rfl) (fk f.1 44 rfl) (by decide) ?_
  refine ex_iload_n ok_X11_keeper (mi 8 rfl) rfl ?_
  refine ex_aaldx (n := 2) ok_X11_keeper (mi 9 rfl) (by decide) (fk f.1 44 rfl) (fn f.1 44 rfl) (pk_in 5 9 (by decide)) (fo f.2.1 8 rfl) (fk f.1 55 rfl) (by decide) ?_
  refine ex_iload_n ok_X11_keeper (mi 10 rfl) rfl ?_
  refine ex_callVr (As := [_]) (v := some (.int (nI 0))) (g1 := h) ok_X11_keeper (mi 11 rfl) rfl ?c rfl (fk f.1 55 rfl) rfl rfl (by decide) (by decide) (Nat.le_of_ble_eq_true rfl) (by decide) ?_
  case c =>
    refine ex_M_of ok_X3_tell cw_X3_tell rfl hst (Nat.le_of_ble_eq_true rfl) ?_
    refine ex_iload_n ok_X3_tell (mi 0 rfl) rfl ?_
    refine ex_tblk (tgt := 82) ok_X3_tell (mi 1 rfl) (by decide) (by decide) (by decide) (by decide) ?_
    refine ex_aload_n ok_X3_tell (mi 24 rfl) rfl ?_
    refine ex_getIx ok_X3_tell (mi 25 rfl) rfl rfl (fk f.1 55 rfl) (fi f.2.2.1 156 rfl) ?_
    refine ex_iret ok_X3_tell (mi 26 rfl) rfl ?_
    exact ⟨inlI (by decide), rfl⟩
  refine ex_iret ok_X11_keeper (mi 12 rfl) rfl ?_
  exact ⟨Or.inl ⟨rfl, inlI (by decide)⟩, kp0⟩
theorem c_entry_5 {G : GE} (hst : (ge_l G).stackTraces = false) {x : Nat} {p1 p2 : Int32} : CC G 3 4 24 my_X11_entry x [.int (nI 5), .int p1, .int p2] E3 1 (nI 0) := by
  intro h f
  refine ex_M_of ok_X11_entry cw_X11_entry rfl hst (Nat.le_of_ble_eq_true rfl) ?_
  refine ex_iload_n ok_X11_entry (mi 0 rfl) rfl ?_
  refine ex_bipush ok_X11_entry (mi 1 rfl) ?_
  refine ex_callSr (As := [_, _]) ok_X11_entry (mi 2 rfl) rfl (m_reqOk hst (pk_in 5 9 (by decide)) (by decide) (by decide)) rfl rfl rfl (by decide) (Nat.le_of_ble_eq_true rfl) (by decide) ?_
  refine ex_aload_n ok_X11_entry (mi 3 rfl) rfl ?_
  refine ex_getRx ok_X11_entry (mi 4 rfl) rfl rfl (fk f.1 0 rfl) (fr f.1 56 rfl) (fk f.1 44 rfl) (by decide) ?_
  refine ex_iload_n ok_X11_entry (mi 5 rfl) rfl ?_
  refine ex_aaldx (n := 2) ok_X11_entry (mi 6 rfl) (by decide) (fk f.1 44 rfl) (fn f.1 44 rfl) (pk_in 5 9 (by decide)) (fo f.2.1 8 rfl) (fk f.1 55 rfl) (by decide) ?_
  refine ex_getRx ok_X11_entry (mi 7 rfl) rfl rfl (fk f.1 55 rfl) (fr f.1 72 rfl) (fk f.1 56 rfl) (by decide) ?_
  refine ex_iload_n ok_X11_entry (mi 8 rfl) rfl ?_
  refine ex_callSr (As := [_, _]) ok_X11_entry (mi 9 rfl) rfl (m_at0 hst (sh_sub 860 f.1 (by decide +kernel) (by decide +kernel)) (tA_sub 860 10 (nI 0) f.2.2.2.1 (by decide +kernel))) rfl rfl rfl (by decide) (Nat.le_of_ble_eq_true rfl) (by decide) ?_
  refine ex_istore ok_X11_entry (mi 10 rfl) ?_
  refine ex_iload ok_X11_entry (mi 11 rfl) rfl ?_
  refine ex_sipush ok_X11_entry (mi 12 rfl) ?_
  refine ex_callSt (e := 100) (As := [_, _]) ok_X11_entry (mi 13 rfl) rfl (m_reqBad (m := 300) hst (by unfold vp_in; decide) (by decide) (by decide)) rfl rfl rfl (by decide) (Nat.le_of_ble_eq_true rfl) (by decide) (fun n hn => ?_)
  exact ⟨Or.inr ⟨by decide, rfl⟩, kpZ kp0 hn⟩
theorem c_keeper_6_0 {G : GE} (hst : (ge_l G).stackTraces = false) {x : Nat}  : CC G 4 4 24 my_X11_keeper x [.int (nI 6), .int (nI 0)] E3 0 (nI 0) := by
  intro h f
  refine ex_M_of ok_X11_keeper cw_X11_keeper rfl hst (Nat.le_of_ble_eq_true rfl) ?_
  refine ex_iload_n ok_X11_keeper (mi 0 rfl) rfl ?_
  refine ex_bipush ok_X11_keeper (mi 1 rfl) ?_
  refine ex_callSr (As := [_, _]) ok_X11_keeper (mi 2 rfl) rfl (m_reqOk hst (pk_in 6 9 (by decide)) (by decide) (by decide)) rfl rfl rfl (by decide) (Nat.le_of_ble_eq_true rfl) (by decide) ?_
  refine ex_iload_n ok_X11_keeper (mi 3 rfl) rfl ?_
  refine ex_bipush ok_X11_keeper (mi 4 rfl) ?_
  refine ex_callSr (As := [_, _]) ok_X11_keeper (mi 5 rfl) rfl (m_reqOk hst (pk_in 0 8 (by decide)) (by decide) (by decide)) rfl rfl rfl (by decide) (Nat.le_of_ble_eq_true rfl) (by decide) ?_
  refine ex_aload_n ok_X11_keeper (mi 6 rfl) rfl ?_
  refine ex_getRx ok_X11_keeper (mi 7 rfl) rfl rfl (fk f.1 0 rfl) (fr f.1 56 rfl) (fk f.1 44 rfl) (by decide) ?_
  refine ex_iload_n ok_X11_keeper (mi 8 rfl) rfl ?_
  refine ex_aaldx (n := 2) ok_X11_keeper (mi 9 rfl) (by decide) (fk f.1 44 rfl) (fn f.1 44 rfl) (pk_in 6 9 (by decide)) (fo f.2.1 9 rfl) (fk f.1 57 rfl) (by decide) ?_
  refine ex_iload_n ok_X11_keeper (mi 10 rfl) rfl ?_
  refine ex_callVr (As := [_]) (v := some (.int (nI 0))) (g1 := h) ok_X11_keeper (mi 11 rfl) rfl ?c rfl (fk f.1 57 rfl) rfl rfl (by decide) (by decide) (Nat.le_of_ble_eq_true rfl) (by decide) ?_
  case c =>
    refine ex_M_of ok_X3_tell cw_X3_tell rfl hst (Nat.le_of_ble_eq_true rfl) ?_
    refine ex_iload_n ok_X3_tell (mi 0 rfl) rfl ?_
    refine ex_tblk (tgt := 44) ok_X3_tell (mi 1 rfl) (by decide) (by decide) (by decide) (by decide) ?_
    refine ex_aload_n ok_X3_tell (mi 2 rfl) rfl ?_
    refine ex_getIx ok_X3_tell (mi 3 rfl) rfl rfl (fk f.1 57 rfl) (fi f.2.2.1 157 rfl) ?_
    refine ex_iret ok_X3_tell (mi 4 rfl) rfl ?_
    exact ⟨inlI (by decide), rfl⟩
  refine ex_iret ok_X11_keeper (mi 12 rfl) rfl ?_
  exact ⟨Or.inl ⟨rfl, inlI (by decide)⟩, kp0⟩
theorem c_keeper_6_1 {G : GE} (hst : (ge_l G).stackTraces = false) {x : Nat}  : CC G 4 4 24 my_X11_keeper x [.int (nI 6), .int (nI 1)] E3 0 ((-1)) := by
  intro h f
  refine ex_M_of ok_X11_keeper cw_X11_keeper rfl hst (Nat.le_of_ble_eq_true rfl) ?_
  refine ex_iload_n ok_X11_keeper (mi 0 rfl) rfl ?_
  refine ex_bipush ok_X11_keeper (mi 1 rfl) ?_
  refine ex_callSr (As := [_, _]) ok_X11_keeper (mi 2 rfl) rfl (m_reqOk hst (pk_in 6 9 (by decide)) (by decide) (by decide)) rfl rfl rfl (by decide) (Nat.le_of_ble_eq_true rfl) (by decide) ?_
  refine ex_iload_n ok_X11_keeper (mi 3 rfl) rfl ?_
  refine ex_bipush ok_X11_keeper (mi 4 rfl) ?_
  refine ex_callSr (As := [_, _]) ok_X11_keeper (mi 5 rfl) rfl (m_reqOk hst (pk_in 1 8 (by decide)) (by decide) (by decide)) rfl rfl rfl (by decide) (Nat.le_of_ble_eq_true rfl) (by decide) ?_
  refine ex_aload_n ok_X11_keeper (mi 6 rfl) rfl ?_
  refine ex_getRx ok_X11_keeper (mi 7 rfl) rfl rfl (fk f.1 0 rfl) (fr f.1 56 rfl) (fk f.1 44 rfl) (by decide) ?_
  refine ex_iload_n ok_X11_keeper (mi 8 rfl) rfl ?_
  refine ex_aaldx (n := 2) ok_X11_keeper (mi 9 rfl) (by decide) (fk f.1 44 rfl) (fn f.1 44 rfl) (pk_in 6 9 (by decide)) (fo f.2.1 9 rfl) (fk f.1 57 rfl) (by decide) ?_
  refine ex_iload_n ok_X11_keeper (mi 10 rfl) rfl ?_
  refine ex_callVr (As := [_]) (v := some (.int (-1))) (g1 := h) ok_X11_keeper (mi 11 rfl) rfl ?c rfl (fk f.1 57 rfl) rfl rfl (by decide) (by decide) (Nat.le_of_ble_eq_true rfl) (by decide) ?_
  case c =>
    refine ex_M_of ok_X3_tell cw_X3_tell rfl hst (Nat.le_of_ble_eq_true rfl) ?_
    refine ex_iload_n ok_X3_tell (mi 0 rfl) rfl ?_
    refine ex_tblk (tgt := 49) ok_X3_tell (mi 1 rfl) (by decide) (by decide) (by decide) (by decide) ?_
    refine ex_aload_n ok_X3_tell (mi 5 rfl) rfl ?_
    refine ex_getIx ok_X3_tell (mi 6 rfl) rfl rfl (fk f.1 57 rfl) (fi f.2.2.1 158 rfl) ?_
    refine ex_iret ok_X3_tell (mi 7 rfl) rfl ?_
    exact ⟨inlI (by decide), rfl⟩
  refine ex_iret ok_X11_keeper (mi 12 rfl) rfl ?_
  exact ⟨Or.inl ⟨rfl, inlI (by decide)⟩, kp0⟩
theorem c_keeper_6_2 {G : GE} (hst : (ge_l G).stackTraces = false) {x : Nat}  : CC G 4 4 24 my_X11_keeper x [.int (nI 6), .int (nI 2)] E3 0 (nI 0) := by
  intro h f
  refine ex_M_of ok_X11_keeper cw_X11_keeper rfl hst (Nat.le_of_ble_eq_true rfl) ?_
  refine ex_iload_n ok_X11_keeper (mi 0 rfl) rfl ?_
  refine ex_bipush ok_X11_keeper (mi 1 rfl) ?_
  refine ex_callSr (As := [_, _]) ok_X11_keeper (mi 2 rfl) rfl (m_reqOk hst (pk_in 6 9 (by decide)) (by decide) (by decide)) rfl rfl rfl (by decide) (Nat.le_of_ble_eq_true rfl) (by decide) ?_
  refine ex_iload_n ok_X11_keeper (mi 3 rfl) rfl ?_
  refine ex_bipush ok_X11_keeper (mi 4 rfl) ?_
  refine ex_callSr (As := [_, _]) ok_X11_keeper (mi 5 rfl) rfl (m_reqOk hst (pk_in 2 8 (by decide)) (by decide) (by decide)) rfl rfl rfl (by decide) (Nat.le_of_ble_eq_true rfl) (by decide) ?_
  refine ex_aload_n ok_X11_keeper (mi 6 rfl) rfl ?_
  refine ex_getRx ok_X11_keeper (mi 7 rfl) rfl rfl (fk f.1 0 rfl) (fr f.1 56 rfl) (fk f.1 44 rfl) (by decide) ?_
  refine ex_iload_n ok_X11_keeper (mi 8 rfl) rfl ?_
  refine ex_aaldx (n := 2) ok_X11_keeper (mi 9 rfl) (by decide) (fk f.1 44 rfl) (fn f.1 44 rfl) (pk_in 6 9 (by decide)) (fo f.2.1 9 rfl) (fk f.1 57 rfl) (by decide) ?_
  refine ex_iload_n ok_X11_keeper (mi 10 rfl) rfl ?_
  refine ex_callVr (As := [_]) (v := some (.int (nI 0))) (g1 := h) ok_X11_keeper (mi 11 rfl) rfl ?c rfl (fk f.1 57 rfl) rfl rfl (by decide) (by decide) (Nat.le_of_ble_eq_true rfl) (by decide) ?_
  case c =>
    refine ex_M_of ok_X3_tell cw_X3_tell rfl hst (Nat.le_of_ble_eq_true rfl) ?_
    refine ex_iload_n ok_X3_tell (mi 0 rfl) rfl ?_
    refine ex_tblk (tgt := 54) ok_X3_tell (mi 1 rfl) (by decide) (by decide) (by decide) (by decide) ?_
    refine ex_aload_n ok_X3_tell (mi 8 rfl) rfl ?_
    refine ex_getIx ok_X3_tell (mi 9 rfl) rfl rfl (fk f.1 57 rfl) (fi f.2.2.1 160 rfl) ?_
    refine ex_iret ok_X3_tell (mi 10 rfl) rfl ?_
    exact ⟨inlI (by decide), rfl⟩
  refine ex_iret ok_X11_keeper (mi 12 rfl) rfl ?_
  exact ⟨Or.inl ⟨rfl, inlI (by decide)⟩, kp0⟩
theorem c_keeper_6_3 {G : GE} (hst : (ge_l G).stackTraces = false) {x : Nat}  : CC G 4 4 24 my_X11_keeper x [.int (nI 6), .int (nI 3)] E3 0 (nI 0) := by
  intro h f
  refine ex_M_of ok_X11_keeper cw_X11_keeper rfl hst (Nat.le_of_ble_eq_true rfl) ?_
  refine ex_iload_n ok_X11_keeper (mi 0 rfl) rfl ?_
  refine ex_bipush ok_X11_keeper (mi 1 rfl) ?_
  refine ex_callSr (As := [_, _]) ok_X11_keeper (mi 2 rfl) rfl (m_reqOk hst (pk_in 6 9 (by decide)) (by decide) (by decide)) rfl rfl rfl (by decide) (Nat.le_of_ble_eq_true rfl) (by decide) ?_
  refine ex_iload_n ok_X11_keeper (mi 3 rfl) rfl ?_
  refine ex_bipush ok_X11_keeper (mi 4 rfl) ?_
  refine ex_callSr (As := [_, _]) ok_X11_keeper (mi 5 rfl) rfl (m_reqOk hst (pk_in 3 8 (by decide)) (by decide) (by decide)) rfl rfl rfl (by decide) (Nat.le_of_ble_eq_true rfl) (by decide) ?_
  refine ex_aload_n ok_X11_keeper (mi 6 rfl) rfl ?_
  refine ex_getRx ok_X11_keeper (mi 7 rfl) rfl rfl (fk f.1 0 rfl) (fr f.1 56 rfl) (fk f.1 44 rfl) (by decide) ?_
  refine ex_iload_n ok_X11_keeper (mi 8 rfl) rfl ?_
  refine ex_aaldx (n := 2) ok_X11_keeper (mi 9 rfl) (by decide) (fk f.1 44 rfl) (fn f.1 44 rfl) (pk_in 6 9 (by decide)) (fo f.2.1 9 rfl) (fk f.1 57 rfl) (by decide) ?_
  refine ex_iload_n ok_X11_keeper (mi 10 rfl) rfl ?_
  refine ex_callVr (As := [_]) (v := some (.int (nI 0))) (g1 := h) ok_X11_keeper (mi 11 rfl) rfl ?c rfl (fk f.1 57 rfl) rfl rfl (by decide) (by decide) (Nat.le_of_ble_eq_true rfl) (by decide) ?_
  case c =>
    refine ex_M_of ok_X3_tell cw_X3_tell rfl hst (Nat.le_of_ble_eq_true rfl) ?_
    refine ex_iload_n ok_X3_tell (mi 0 rfl) rfl ?_
    refine ex_tblk (tgt := 59) ok_X3_tell (mi 1 rfl) (by decide) (by decide) (by decide) (by decide) ?_
    refine ex_aload_n ok_X3_tell (mi 11 rfl) rfl ?_
    refine ex_getRx ok_X3_tell (mi 12 rfl) rfl rfl (fk f.1 57 rfl) (fr f.1 75 rfl) (fk f.1 58 rfl) (by decide) ?_
    refine ex_callSr (As := [_]) ok_X3_tell (mi 13 rfl) rfl (m_X7_size0 hst (sh_sub 862 f.1 (by decide +kernel) (by decide +kernel)) (tA_sub 862 10 (nI 0) f.2.2.2.1 (by decide +kernel))) rfl rfl rfl (by decide) (Nat.le_of_ble_eq_true rfl) (by decide) ?_
    refine ex_iret ok_X3_tell (mi 14 rfl) rfl ?_
    exact ⟨inlI (by decide), rfl⟩
  refine ex_iret ok_X11_keeper (mi 12 rfl) rfl ?_
  exact ⟨Or.inl ⟨rfl, inlI (by decide)⟩, kp0⟩
theorem c_keeper_6_4 {G : GE} (hst : (ge_l G).stackTraces = false) {x : Nat}  : CC G 4 4 24 my_X11_keeper x [.int (nI 6), .int (nI 4)] E3 0 ((-1)) := by
  intro h f
  refine ex_M_of ok_X11_keeper cw_X11_keeper rfl hst (Nat.le_of_ble_eq_true rfl) ?_
  refine ex_iload_n ok_X11_keeper (mi 0 rfl) rfl ?_
  refine ex_bipush ok_X11_keeper (mi 1 rfl) ?_
  refine ex_callSr (As := [_, _]) ok_X11_keeper (mi 2 rfl) rfl (m_reqOk hst (pk_in 6 9 (by decide)) (by decide) (by decide)) rfl rfl rfl (by decide) (Nat.le_of_ble_eq_true rfl) (by decide) ?_
  refine ex_iload_n ok_X11_keeper (mi 3 rfl) rfl ?_
  refine ex_bipush ok_X11_keeper (mi 4 rfl) ?_
  refine ex_callSr (As := [_, _]) ok_X11_keeper (mi 5 rfl) rfl (m_reqOk hst (pk_in 4 8 (by decide)) (by decide) (by decide)) rfl rfl rfl (by decide) (Nat.le_of_ble_eq_true rfl) (by decide) ?_
  refine ex_aload_n ok_X11_keeper (mi 6 rfl) rfl ?_
  refine ex_getRx ok_X11_keeper (mi 7 rfl) rfl rfl (fk f.1 0 rfl) (fr f.1 56 rfl) (fk f.1 44 rfl) (by decide) ?_
  refine ex_iload_n ok_X11_keeper (mi 8 rfl) rfl ?_
  refine ex_aaldx (n := 2) ok_X11_keeper (mi 9 rfl) (by decide) (fk f.1 44 rfl) (fn f.1 44 rfl) (pk_in 6 9 (by decide)) (fo f.2.1 9 rfl) (fk f.1 57 rfl) (by decide) ?_
  refine ex_iload_n ok_X11_keeper (mi 10 rfl) rfl ?_
  refine ex_callVr (As := [_]) (v := some (.int (-1))) (g1 := h) ok_X11_keeper (mi 11 rfl) rfl ?c rfl (fk f.1 57 rfl) rfl rfl (by decide) (by decide) (Nat.le_of_ble_eq_true rfl) (by decide) ?_
  case c =>
    refine ex_M_of ok_X3_tell cw_X3_tell rfl hst (Nat.le_of_ble_eq_true rfl) ?_
    refine ex_iload_n ok_X3_tell (mi 0 rfl) rfl ?_
    refine ex_tblk (tgt := 67) ok_X3_tell (mi 1 rfl) (by decide) (by decide) (by decide) (by decide) ?_
    refine ex_aload_n ok_X3_tell (mi 15 rfl) rfl ?_
    refine ex_getIx ok_X3_tell (mi 16 rfl) rfl rfl (fk f.1 57 rfl) (fi f.2.2.1 161 rfl) ?_
    refine ex_iret ok_X3_tell (mi 17 rfl) rfl ?_
    exact ⟨inlI (by decide), rfl⟩
  refine ex_iret ok_X11_keeper (mi 12 rfl) rfl ?_
  exact ⟨Or.inl ⟨rfl, inlI (by decide)⟩, kp0⟩
theorem c_keeper_6_5 {G : GE} (hst : (ge_l G).stackTraces = false) {x : Nat}  : CC G 4 4 24 my_X11_keeper x [.int (nI 6), .int (nI 5)] E3 0 ((-1)) := by
  intro h f
  refine ex_M_of ok_X11_keeper cw_X11_keeper rfl hst (Nat.le_of_ble_eq_true rfl) ?_
  refine ex_iload_n ok_X11_keeper (mi 0 rfl) rfl ?_
  refine ex_bipush ok_X11_keeper (mi 1 rfl) ?_
  refine ex_callSr (As := [_, _]) ok_X11_keeper (mi 2 rfl) rfl (m_reqOk hst (pk_in 6 9 (by decide)) (by decide) (by decide)) rfl rfl rfl (by decide) (Nat.le_of_ble_eq_true rfl) (by decide) ?_
  refine ex_iload_n ok_X11_keeper (mi 3 rfl) rfl ?_
  refine ex_bipush ok_X11_keeper (mi 4 rfl) ?_
  refine ex_callSr (As := [_, _]) ok_X11_keeper (mi 5 rfl) rfl (m_reqOk hst (pk_in 5 8 (by decide)) (by decide) (by decide)) rfl rfl rfl (by decide) (Nat.le_of_ble_eq_true rfl) (by decide) ?_
  refine ex_aload_n ok_X11_keeper (mi 6 rfl) rfl ?_
  refine ex_getRx ok_X11_keeper (mi 7 rfl) rfl rfl (fk f.1 0 rfl) (fr f.1 56 rfl) (fk f.1 44 rfl) (by decide) ?_
  refine ex_iload_n ok_X11_keeper (mi 8 rfl) rfl ?_
  refine ex_aaldx (n := 2) ok_X11_keeper (mi 9 rfl) (by decide) (fk f.1 44 rfl) (fn f.1 44 rfl) (pk_in 6 9 (by decide)) (fo f.2.1 9 rfl) (fk f.1 57 rfl) (by decide) ?_
  refine ex_iload_n ok_X11_keeper (mi 10 rfl) rfl ?_
  refine ex_callVr (As := [_]) (v := some (.int (-1))) (g1 := h) ok_X11_keeper (mi 11 rfl) rfl ?c rfl (fk f.1 57 rfl) rfl rfl (by decide) (by decide) (Nat.le_of_ble_eq_true rfl) (by decide) ?_
  case c =>
    refine ex_M_of ok_X3_tell cw_X3_tell rfl hst (Nat.le_of_ble_eq_true rfl) ?_
    refine ex_iload_n ok_X3_tell (mi 0 rfl) rfl ?_
    refine ex_tblk (tgt := 72) ok_X3_tell (mi 1 rfl) (by decide) (by decide) (by decide) (by decide) ?_
    refine ex_aload_n ok_X3_tell (mi 18 rfl) rfl ?_
    refine ex_getIx ok_X3_tell (mi 19 rfl) rfl rfl (fk f.1 57 rfl) (fi f.2.2.1 162 rfl) ?_
    refine ex_iret ok_X3_tell (mi 20 rfl) rfl ?_
    exact ⟨inlI (by decide), rfl⟩
  refine ex_iret ok_X11_keeper (mi 12 rfl) rfl ?_
  exact ⟨Or.inl ⟨rfl, inlI (by decide)⟩, kp0⟩
theorem c_keeper_6_6 {G : GE} (hst : (ge_l G).stackTraces = false) {x : Nat}  : CC G 4 4 24 my_X11_keeper x [.int (nI 6), .int (nI 6)] E3 0 (nI 0) := by
  intro h f
  refine ex_M_of ok_X11_keeper cw_X11_keeper rfl hst (Nat.le_of_ble_eq_true rfl) ?_
  refine ex_iload_n ok_X11_keeper (mi 0 rfl) rfl ?_
  refine ex_bipush ok_X11_keeper (mi 1 rfl) ?_
  refine ex_callSr (As := [_, _]) ok_X11_keeper (mi 2 rfl) rfl (m_reqOk hst (pk_in 6 9 (by decide)) (by decide) (by decide)) rfl rfl rfl (by decide) (Nat.le_of_ble_eq_true rfl) (by decide) ?_
  refine ex_iload_n ok_X11_keeper (mi 3 rfl) rfl ?_
  refine ex_bipush ok_X11_keeper (mi 4 rfl) ?_
  refine ex_callSr (As := [_, _]) ok_X11_keeper (mi 5 rfl) rfl (m_reqOk hst (pk_in 6 8 (by decide)) (by decide) (by decide)) rfl rfl rfl (by decide) (Nat.le_of_ble_eq_true rfl) (by decide) ?_
  refine ex_aload_n ok_X11_keeper (mi 6 rfl) rfl ?_
  refine ex_getRx ok_X11_keeper (mi 7 rfl) rfl rfl (fk f.1 0 rfl) (fr f.1 56 rfl) (fk f.1 44 rfl) (by decide) ?_
  refine ex_iload_n ok_X11_keeper (mi 8 rfl) rfl ?_
  refine ex_aaldx (n := 2) ok_X11_keeper (mi 9 rfl) (by decide) (fk f.1 44 rfl) (fn f.1 44 rfl) (pk_in 6 9 (by decide)) (fo f.2.1 9 rfl) (fk f.1 57 rfl) (by decide) ?_
  refine ex_iload_n ok_X11_keeper (mi 10 rfl) rfl ?_
  refine ex_callVr (As := [_]) (v := some (.int (nI 0))) (g1 := h) ok_X11_keeper (mi 11 rfl) rfl ?c rfl (fk f.1 57 rfl) rfl rfl (by decide) (by decide) (Nat.le_of_ble_eq_true rfl) (by decide) ?_
  case c =>
    refine ex_M_of ok_X3_tell cw_X3_tell rfl hst (Nat.le_of_ble_eq_true rfl) ?_
    refine ex_iload_n ok_X3_tell (mi 0 rfl) rfl ?_
    refine ex_tblk (tgt := 77) ok_X3_tell (mi 1 rfl) (by decide) (by decide) (by decide) (by decide) ?_
    refine ex_aload_n ok_X3_tell (mi 21 rfl) rfl ?_
    refine ex_getIx ok_X3_tell (mi 22 rfl) rfl rfl (fk f.1 57 rfl) (fi f.2.2.1 163 rfl) ?_
    refine ex_iret ok_X3_tell (mi 23 rfl) rfl ?_
    exact ⟨inlI (by decide), rfl⟩
  refine ex_iret ok_X11_keeper (mi 12 rfl) rfl ?_
  exact ⟨Or.inl ⟨rfl, inlI (by decide)⟩, kp0⟩
theorem c_keeper_6_7 {G : GE} (hst : (ge_l G).stackTraces = false) {x : Nat}  : CC G 4 4 24 my_X11_keeper x [.int (nI 6), .int (nI 7)] E3 0 (nI 0) := by
  intro h f
  refine ex_M_of ok_X11_keeper cw_X11_keeper rfl hst (Nat.le_of_ble_eq_true rfl) ?_
  refine ex_iload_n ok_X11_keeper (mi 0 rfl) rfl ?_
  refine ex_bipush ok_X11_keeper (mi 1 rfl) ?_
  refine ex_callSr (As := [_, _]) ok_X11_keeper (mi 2 rfl) rfl (m_reqOk hst (pk_in 6 9 (by decide)) (by decide) (by decide)) rfl rfl rfl (by decide) (Nat.le_of_ble_eq_true rfl) (by decide) ?_
  refine ex_iload_n ok_X11_keeper (mi 3 rfl) rfl ?_
  refine ex_bipush ok_X11_keeper (mi 4 rfl) ?_
  refine ex_callSr (As := [_, _]) ok_X11_keeper (mi 5 rfl) rfl (m_reqOk hst (pk_in 7 8 (by decide)) (by decide) (by decide)) rfl rfl rfl (by decide) (Nat.le_of_ble_eq_true rfl) (by decide) ?_
  refine ex_aload_n ok_X11_keeper (mi 6 rfl) rfl ?_
  refine ex_getRx ok_X11_keeper (mi 7 rfl) rfl rfl (fk f.1 0 rfl) (fr f.1 56 rfl) (fk f.1 44 rfl) (by decide) ?_
  refine ex_iload_n ok_X11_keeper (mi 8 rfl) rfl ?_
  refine ex_aaldx (n := 2) ok_X11_keeper (mi 9 rfl) (by decide) (fk f.1 44 rfl) (fn f.1 44 rfl) (pk_in 6 9 (by decide)) (fo f.2.1 9 rfl) (fk f.1 57 rfl) (by decide) ?_
  refine ex_iload_n ok_X11_keeper (mi 10 rfl) rfl ?_
  refine ex_callVr (As := [_]) (v := some (.int (nI 0))) (g1 := h) ok_X11_keeper (mi 11 rfl) rfl ?c rfl (fk f.1 57 rfl) rfl rfl (by decide) (by decide) (Nat.le_of_ble_eq_true rfl) (by decide) ?_
  case c =>
    refine ex_M_of ok_X3_tell cw_X3_tell rfl hst (Nat.le_of_ble_eq_true rfl) ?_
    refine ex_iload_n ok_X3_tell (mi 0 rfl) rfl ?_
    refine ex_tblk (tgt := 82) ok_X3_tell (mi 1 rfl) (by decide) (by decide) (by decide) (by decide) ?_
    refine ex_aload_n ok_X3_tell (mi 24 rfl) rfl ?_
    refine ex_getIx ok_X3_tell (mi 25 rfl) rfl rfl (fk f.1 57 rfl) (fi f.2.2.1 164 rfl) ?_
    refine ex_iret ok_X3_tell (mi 26 rfl) rfl ?_
    exact ⟨inlI (by decide), rfl⟩
  refine ex_iret ok_X11_keeper (mi 12 rfl) rfl ?_
  exact ⟨Or.inl ⟨rfl, inlI (by decide)⟩, kp0⟩
theorem c_entry_6 {G : GE} (hst : (ge_l G).stackTraces = false) {x : Nat} {p1 p2 : Int32} : CC G 3 4 24 my_X11_entry x [.int (nI 6), .int p1, .int p2] E3 1 (nI 0) := by
  intro h f
  refine ex_M_of ok_X11_entry cw_X11_entry rfl hst (Nat.le_of_ble_eq_true rfl) ?_
  refine ex_iload_n ok_X11_entry (mi 0 rfl) rfl ?_
  refine ex_bipush ok_X11_entry (mi 1 rfl) ?_
  refine ex_callSr (As := [_, _]) ok_X11_entry (mi 2 rfl) rfl (m_reqOk hst (pk_in 6 9 (by decide)) (by decide) (by decide)) rfl rfl rfl (by decide) (Nat.le_of_ble_eq_true rfl) (by decide) ?_
  refine ex_aload_n ok_X11_entry (mi 3 rfl) rfl ?_
  refine ex_getRx ok_X11_entry (mi 4 rfl) rfl rfl (fk f.1 0 rfl) (fr f.1 56 rfl) (fk f.1 44 rfl) (by decide) ?_
  refine ex_iload_n ok_X11_entry (mi 5 rfl) rfl ?_
  refine ex_aaldx (n := 2) ok_X11_entry (mi 6 rfl) (by decide) (fk f.1 44 rfl) (fn f.1 44 rfl) (pk_in 6 9 (by decide)) (fo f.2.1 9 rfl) (fk f.1 57 rfl) (by decide) ?_
  refine ex_getRx ok_X11_entry (mi 7 rfl) rfl rfl (fk f.1 57 rfl) (fr f.1 75 rfl) (fk f.1 58 rfl) (by decide) ?_
  refine ex_iload_n ok_X11_entry (mi 8 rfl) rfl ?_
  refine ex_callSr (As := [_, _]) ok_X11_entry (mi 9 rfl) rfl (m_at0 hst (sh_sub 862 f.1 (by decide +kernel) (by decide +kernel)) (tA_sub 862 10 (nI 0) f.2.2.2.1 (by decide +kernel))) rfl rfl rfl (by decide) (Nat.le_of_ble_eq_true rfl) (by decide) ?_
  refine ex_istore ok_X11_entry (mi 10 rfl) ?_
  refine ex_iload ok_X11_entry (mi 11 rfl) rfl ?_
  refine ex_sipush ok_X11_entry (mi 12 rfl) ?_
  refine ex_callSt (e := 100) (As := [_, _]) ok_X11_entry (mi 13 rfl) rfl (m_reqBad (m := 300) hst (by unfold vp_in; decide) (by decide) (by decide)) rfl rfl rfl (by decide) (Nat.le_of_ble_eq_true rfl) (by decide) (fun n hn => ?_)
  exact ⟨Or.inr ⟨by decide, rfl⟩, kpZ kp0 hn⟩
