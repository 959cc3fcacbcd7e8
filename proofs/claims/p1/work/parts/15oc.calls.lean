theorem c_leader_0_3 {G : GE} (hst : (ge_l G).stackTraces = false) {x : Nat}  : CC G 4 4 24 my_X11_leader x [.int (nI 0), .int (nI 3)] E3 0 (nI 0) := by
  intro h f
  refine ex_M_of ok_X11_leader cw_X11_leader rfl hst (Nat.le_of_ble_eq_true rfl) ?_
  refine ex_aload_n ok_X11_leader (mi 0 rfl) rfl ?_
  refine ex_iload_n ok_X11_leader (mi 1 rfl) rfl ?_
  refine ex_callVr (As := [_]) (v := some (.ref (x + 815))) (g1 := h) ok_X11_leader (mi 2 rfl) rfl ?c rfl (fk f.1 0 rfl) rfl rfl (by decide) (by decide) (Nat.le_of_ble_eq_true rfl) (by decide) ?_
  case c =>
    refine ex_M_of ok_X11_leaderAt cw_X11_leaderAt rfl hst (Nat.le_of_ble_eq_true rfl) ?_
    refine ex_iload_n ok_X11_leaderAt (mi 0 rfl) rfl ?_
    refine ex_iconst ok_X11_leaderAt (mi 1 rfl) ?_
    refine ex_callSr (As := [_, _]) ok_X11_leaderAt (mi 2 rfl) rfl (m_reqOk hst (pk_in 0 3 (by decide)) (by decide) (by decide)) rfl rfl rfl (by decide) (Nat.le_of_ble_eq_true rfl) (by decide) ?_
    refine ex_aload_n ok_X11_leaderAt (mi 3 rfl) rfl ?_
    refine ex_getRx ok_X11_leaderAt (mi 4 rfl) rfl rfl (fk f.1 0 rfl) (fr f.1 13 rfl) (fk f.1 10 rfl) (by decide) ?_
    refine ex_iload_n ok_X11_leaderAt (mi 5 rfl) rfl ?_
    refine ex_aaldx (n := 1) ok_X11_leaderAt (mi 6 rfl) (by decide) (fk f.1 10 rfl) (fn f.1 10 rfl) (pk_in 0 3 (by decide)) (fo f.2.1 0 rfl) (fk f.1 11 rfl) (by decide) ?_
    refine ex_aret ok_X11_leaderAt (mi 7 rfl) rfl ?_
    exact ⟨rfl, rfl⟩
  refine ex_astore_n ok_X11_leader (mi 3 rfl) ?_
  refine ex_iload_n ok_X11_leader (mi 4 rfl) rfl ?_
  refine ex_bipush ok_X11_leader (mi 5 rfl) ?_
  refine ex_callSr (As := [_, _]) ok_X11_leader (mi 6 rfl) rfl (m_reqOk hst (pk_in 3 14 (by decide)) (by decide) (by decide)) rfl rfl rfl (by decide) (Nat.le_of_ble_eq_true rfl) (by decide) ?_
  refine ex_aload_n ok_X11_leader (mi 7 rfl) rfl ?_
  refine ex_iload_n ok_X11_leader (mi 8 rfl) rfl ?_
  refine ex_callVr (As := [_]) (v := some (.int (nI 0))) (g1 := h) ok_X11_leader (mi 9 rfl) rfl ?c rfl (fk f.1 11 rfl) rfl rfl (by decide) (by decide) (Nat.le_of_ble_eq_true rfl) (by decide) ?_
  case c =>
    refine ex_M_of ok_X5_tell cw_X5_tell rfl hst (Nat.le_of_ble_eq_true rfl) ?_
    refine ex_iload_n ok_X5_tell (mi 0 rfl) rfl ?_
    refine ex_tblk (tgt := 87) ok_X5_tell (mi 1 rfl) (by decide) (by decide) (by decide) (by decide) ?_
    refine ex_aload_n ok_X5_tell (mi 11 rfl) rfl ?_
    refine ex_getRx ok_X5_tell (mi 12 rfl) rfl rfl (fk f.1 11 rfl) (fr f.1 14 rfl) (fk f.1 14 rfl) (by decide) ?_
    refine ex_getIx ok_X5_tell (mi 13 rfl) rfl rfl (fk f.1 14 rfl) (fi f.2.2.1 40 rfl) ?_
    refine ex_iret ok_X5_tell (mi 14 rfl) rfl ?_
    exact ⟨inlI (by decide), rfl⟩
  refine ex_iret ok_X11_leader (mi 10 rfl) rfl ?_
  exact ⟨Or.inl ⟨rfl, inlI (by decide)⟩, kp0⟩
theorem c_leader_0_4 {G : GE} (hst : (ge_l G).stackTraces = false) {x : Nat}  : CC G 4 4 24 my_X11_leader x [.int (nI 0), .int (nI 4)] E3 0 (nI 7) := by
  intro h f
  refine ex_M_of ok_X11_leader cw_X11_leader rfl hst (Nat.le_of_ble_eq_true rfl) ?_
  refine ex_aload_n ok_X11_leader (mi 0 rfl) rfl ?_
  refine ex_iload_n ok_X11_leader (mi 1 rfl) rfl ?_
  refine ex_callVr (As := [_]) (v := some (.ref (x + 815))) (g1 := h) ok_X11_leader (mi 2 rfl) rfl ?c rfl (fk f.1 0 rfl) rfl rfl (by decide) (by decide) (Nat.le_of_ble_eq_true rfl) (by decide) ?_
  case c =>
    refine ex_M_of ok_X11_leaderAt cw_X11_leaderAt rfl hst (Nat.le_of_ble_eq_true rfl) ?_
    refine ex_iload_n ok_X11_leaderAt (mi 0 rfl) rfl ?_
    refine ex_iconst ok_X11_leaderAt (mi 1 rfl) ?_
    refine ex_callSr (As := [_, _]) ok_X11_leaderAt (mi 2 rfl) rfl (m_reqOk hst (pk_in 0 3 (by decide)) (by decide) (by decide)) rfl rfl rfl (by decide) (Nat.le_of_ble_eq_true rfl) (by decide) ?_
    refine ex_aload_n ok_X11_leaderAt (mi 3 rfl) rfl ?_
    refine ex_getRx ok_X11_leaderAt (mi 4 rfl) rfl rfl (fk f.1 0 rfl) (fr f.1 13 rfl) (fk f.1 10 rfl) (by decide) ?_
    refine ex_iload_n ok_X11_leaderAt (mi 5 rfl) rfl ?_
    refine ex_aaldx (n := 1) ok_X11_leaderAt (mi 6 rfl) (by decide) (fk f.1 10 rfl) (fn f.1 10 rfl) (pk_in 0 3 (by decide)) (fo f.2.1 0 rfl) (fk f.1 11 rfl) (by decide) ?_
    refine ex_aret ok_X11_leaderAt (mi 7 rfl) rfl ?_
    exact ⟨rfl, rfl⟩
  refine ex_astore_n ok_X11_leader (mi 3 rfl) ?_
  refine ex_iload_n ok_X11_leader (mi 4 rfl) rfl ?_
  refine ex_bipush ok_X11_leader (mi 5 rfl) ?_
  refine ex_callSr (As := [_, _]) ok_X11_leader (mi 6 rfl) rfl (m_reqOk hst (pk_in 4 14 (by decide)) (by decide) (by decide)) rfl rfl rfl (by decide) (Nat.le_of_ble_eq_true rfl) (by decide) ?_
  refine ex_aload_n ok_X11_leader (mi 7 rfl) rfl ?_
  refine ex_iload_n ok_X11_leader (mi 8 rfl) rfl ?_
  refine ex_callVr (As := [_]) (v := some (.int (nI 7))) (g1 := h) ok_X11_leader (mi 9 rfl) rfl ?c rfl (fk f.1 11 rfl) rfl rfl (by decide) (by decide) (Nat.le_of_ble_eq_true rfl) (by decide) ?_
  case c =>
    refine ex_M_of ok_X5_tell cw_X5_tell rfl hst (Nat.le_of_ble_eq_true rfl) ?_
    refine ex_iload_n ok_X5_tell (mi 0 rfl) rfl ?_
    refine ex_tblk (tgt := 95) ok_X5_tell (mi 1 rfl) (by decide) (by decide) (by decide) (by decide) ?_
    refine ex_aload_n ok_X5_tell (mi 15 rfl) rfl ?_
    refine ex_getRx ok_X5_tell (mi 16 rfl) rfl rfl (fk f.1 11 rfl) (fr f.1 14 rfl) (fk f.1 14 rfl) (by decide) ?_
    refine ex_getIx ok_X5_tell (mi 17 rfl) rfl rfl (fk f.1 14 rfl) (fi f.2.2.1 41 rfl) ?_
    refine ex_iret ok_X5_tell (mi 18 rfl) rfl ?_
    exact ⟨inlI (by decide), rfl⟩
  refine ex_iret ok_X11_leader (mi 10 rfl) rfl ?_
  exact ⟨Or.inl ⟨rfl, inlI (by decide)⟩, kp0⟩
theorem c_leader_0_5 {G : GE} (hst : (ge_l G).stackTraces = false) {x : Nat}  : CC G 4 4 24 my_X11_leader x [.int (nI 0), .int (nI 5)] E3 0 (nI 0) := by
  intro h f
  refine ex_M_of ok_X11_leader cw_X11_leader rfl hst (Nat.le_of_ble_eq_true rfl) ?_
  refine ex_aload_n ok_X11_leader (mi 0 rfl) rfl ?_
  refine ex_iload_n ok_X11_leader (mi 1 rfl) rfl ?_
  refine ex_callVr (As := [_]) (v := some (.ref (x + 815))) (g1 := h) ok_X11_leader (mi 2 rfl) rfl ?c rfl (fk f.1 0 rfl) rfl rfl (by decide) (by decide) (Nat.le_of_ble_eq_true rfl) (by decide) ?_
  case c =>
    refine ex_M_of ok_X11_leaderAt cw_X11_leaderAt rfl hst (Nat.le_of_ble_eq_true rfl) ?_
    refine ex_iload_n ok_X11_leaderAt (mi 0 rfl) rfl ?_
    refine ex_iconst ok_X11_leaderAt (mi 1 rfl) ?_
    refine ex_callSr (As := [_, _]) ok_X11_leaderAt (mi 2 rfl) rfl (m_reqOk hst (pk_in 0 3 (by decide)) (by decide) (by decide)) rfl rfl rfl (by decide) (Nat.le_of_ble_eq_true rfl) (by decide) ?_
    refine ex_aload_n ok_X11_leaderAt (mi 3 rfl) rfl ?_
    refine ex_getRx ok_X11_leaderAt (mi 4 rfl) rfl rfl (fk f.1 0 rfl) (fr f.1 13 rfl) (fk f.1 10 rfl) (by decide) ?_
    refine ex_iload_n ok_X11_leaderAt (mi 5 rfl) rfl ?_
    refine ex_aaldx (n := 1) ok_X11_leaderAt (mi 6 rfl) (by decide) (fk f.1 10 rfl) (fn f.1 10 rfl) (pk_in 0 3 (by decide)) (fo f.2.1 0 rfl) (fk f.1 11 rfl) (by decide) ?_
    refine ex_aret ok_X11_leaderAt (mi 7 rfl) rfl ?_
    exact ⟨rfl, rfl⟩
  refine ex_astore_n ok_X11_leader (mi 3 rfl) ?_
  refine ex_iload_n ok_X11_leader (mi 4 rfl) rfl ?_
  refine ex_bipush ok_X11_leader (mi 5 rfl) ?_
  refine ex_callSr (As := [_, _]) ok_X11_leader (mi 6 rfl) rfl (m_reqOk hst (pk_in 5 14 (by decide)) (by decide) (by decide)) rfl rfl rfl (by decide) (Nat.le_of_ble_eq_true rfl) (by decide) ?_
  refine ex_aload_n ok_X11_leader (mi 7 rfl) rfl ?_
  refine ex_iload_n ok_X11_leader (mi 8 rfl) rfl ?_
  refine ex_callVr (As := [_]) (v := some (.int (nI 0))) (g1 := h) ok_X11_leader (mi 9 rfl) rfl ?c rfl (fk f.1 11 rfl) rfl rfl (by decide) (by decide) (Nat.le_of_ble_eq_true rfl) (by decide) ?_
  case c =>
    refine ex_M_of ok_X5_tell cw_X5_tell rfl hst (Nat.le_of_ble_eq_true rfl) ?_
    refine ex_iload_n ok_X5_tell (mi 0 rfl) rfl ?_
    refine ex_tblk (tgt := 103) ok_X5_tell (mi 1 rfl) (by decide) (by decide) (by decide) (by decide) ?_
    refine ex_aload_n ok_X5_tell (mi 19 rfl) rfl ?_
    refine ex_getRx ok_X5_tell (mi 20 rfl) rfl rfl (fk f.1 11 rfl) (fr f.1 17 rfl) (fk f.1 12 rfl) (by decide) ?_
    refine ex_callSr (As := [_]) ok_X5_tell (mi 21 rfl) rfl (m_X7_size0 hst (sh_sub 816 f.1 (by decide +kernel) (by decide +kernel)) (tA_sub 816 10 (nI 0) f.2.2.2.1 (by decide +kernel))) rfl rfl rfl (by decide) (Nat.le_of_ble_eq_true rfl) (by decide) ?_
    refine ex_iret ok_X5_tell (mi 22 rfl) rfl ?_
    exact ⟨inlI (by decide), rfl⟩
  refine ex_iret ok_X11_leader (mi 10 rfl) rfl ?_
  exact ⟨Or.inl ⟨rfl, inlI (by decide)⟩, kp0⟩
theorem c_leader_0_6 {G : GE} (hst : (ge_l G).stackTraces = false) {x : Nat}  : CC G 4 4 24 my_X11_leader x [.int (nI 0), .int (nI 6)] E3 0 (nI 0) := by
  intro h f
  refine ex_M_of ok_X11_leader cw_X11_leader rfl hst (Nat.le_of_ble_eq_true rfl) ?_
  refine ex_aload_n ok_X11_leader (mi 0 rfl) rfl ?_
  refine ex_iload_n ok_X11_leader (mi 1 rfl) rfl ?_
  refine ex_callVr (As := [_]) (v := some (.ref (x + 815))) (g1 := h) ok_X11_leader (mi 2 rfl) rfl ?c rfl (fk f.1 0 rfl) rfl rfl (by decide) (by decide) (Nat.le_of_ble_eq_true rfl) (by decide) ?_
  case c =>
    refine ex_M_of ok_X11_leaderAt cw_X11_leaderAt rfl hst (Nat.le_of_ble_eq_true rfl) ?_
    refine ex_iload_n ok_X11_leaderAt (mi 0 rfl) rfl ?_
    refine ex_iconst ok_X11_leaderAt (mi 1 rfl) ?_
    refine ex_callSr (As := [_, _]) ok_X11_leaderAt (mi 2 rfl) rfl (m_reqOk hst (pk_in 0 3 (by decide)) (by decide) (by decide)) rfl rfl rfl (by decide) (Nat.le_of_ble_eq_true rfl) (by decide) ?_
    refine ex_aload_n ok_X11_leaderAt (mi 3 rfl) rfl ?_
    refine ex_getRx ok_X11_leaderAt (mi 4 rfl) rfl rfl (fk f.1 0 rfl) (fr f.1 13 rfl) (fk f.1 10 rfl) (by decide) ?_
    refine ex_iload_n ok_X11_leaderAt (mi 5 rfl) rfl ?_
    refine ex_aaldx (n := 1) ok_X11_leaderAt (mi 6 rfl) (by decide) (fk f.1 10 rfl) (fn f.1 10 rfl) (pk_in 0 3 (by decide)) (fo f.2.1 0 rfl) (fk f.1 11 rfl) (by decide) ?_
    refine ex_aret ok_X11_leaderAt (mi 7 rfl) rfl ?_
    exact ⟨rfl, rfl⟩
  refine ex_astore_n ok_X11_leader (mi 3 rfl) ?_
  refine ex_iload_n ok_X11_leader (mi 4 rfl) rfl ?_
  refine ex_bipush ok_X11_leader (mi 5 rfl) ?_
  refine ex_callSr (As := [_, _]) ok_X11_leader (mi 6 rfl) rfl (m_reqOk hst (pk_in 6 14 (by decide)) (by decide) (by decide)) rfl rfl rfl (by decide) (Nat.le_of_ble_eq_true rfl) (by decide) ?_
  refine ex_aload_n ok_X11_leader (mi 7 rfl) rfl ?_
  refine ex_iload_n ok_X11_leader (mi 8 rfl) rfl ?_
  refine ex_callVr (As := [_]) (v := some (.int (nI 0))) (g1 := h) ok_X11_leader (mi 9 rfl) rfl ?c rfl (fk f.1 11 rfl) rfl rfl (by decide) (by decide) (Nat.le_of_ble_eq_true rfl) (by decide) ?_
  case c =>
    refine ex_M_of ok_X5_tell cw_X5_tell rfl hst (Nat.le_of_ble_eq_true rfl) ?_
    refine ex_iload_n ok_X5_tell (mi 0 rfl) rfl ?_
    refine ex_tblk (tgt := 161) ok_X5_tell (mi 1 rfl) (by decide) (by decide) (by decide) (by decide) ?_
    refine ex_aload_n ok_X5_tell (mi 47 rfl) rfl ?_
    refine ex_getIx ok_X5_tell (mi 48 rfl) rfl rfl (fk f.1 11 rfl) (fi f.2.2.1 37 rfl) ?_
    refine ex_iconst ok_X5_tell (mi 49 rfl) ?_
    refine ex_icmp_ne (tgt := 177) ok_X5_tell (mi 50 rfl) rfl (fun _ => ?_) (fun hn => absurd hn (by decide))
    refine ex_iconst ok_X5_tell (mi 55 rfl) ?_
    refine ex_iret ok_X5_tell (mi 56 rfl) rfl ?_
    exact ⟨inlI (by decide), rfl⟩
  refine ex_iret ok_X11_leader (mi 10 rfl) rfl ?_
  exact ⟨Or.inl ⟨rfl, inlI (by decide)⟩, kp0⟩
theorem c_leader_0_7 {G : GE} (hst : (ge_l G).stackTraces = false) {x : Nat}  : CC G 4 4 24 my_X11_leader x [.int (nI 0), .int (nI 7)] E3 0 (nI 0) := by
  intro h f
  refine ex_M_of ok_X11_leader cw_X11_leader rfl hst (Nat.le_of_ble_eq_true rfl) ?_
  refine ex_aload_n ok_X11_leader (mi 0 rfl) rfl ?_
  refine ex_iload_n ok_X11_leader (mi 1 rfl) rfl ?_
  refine ex_callVr (As := [_]) (v := some (.ref (x + 815))) (g1 := h) ok_X11_leader (mi 2 rfl) rfl ?c rfl (fk f.1 0 rfl) rfl rfl (by decide) (by decide) (Nat.le_of_ble_eq_true rfl) (by decide) ?_
  case c =>
    refine ex_M_of ok_X11_leaderAt cw_X11_leaderAt rfl hst (Nat.le_of_ble_eq_true rfl) ?_
    refine ex_iload_n ok_X11_leaderAt (mi 0 rfl) rfl ?_
    refine ex_iconst ok_X11_leaderAt (mi 1 rfl) ?_
    refine ex_callSr (As := [_, _]) ok_X11_leaderAt (mi 2 rfl) rfl (m_reqOk hst (pk_in 0 3 (by decide)) (by decide) (by decide)) rfl rfl rfl (by decide) (Nat.le_of_ble_eq_true rfl) (by decide) ?_
    refine ex_aload_n ok_X11_leaderAt (mi 3 rfl) rfl ?_
    refine ex_getRx ok_X11_leaderAt (mi 4 rfl) rfl rfl (fk f.1 0 rfl) (fr f.1 13 rfl) (fk f.1 10 rfl) (by decide) ?_
    refine ex_iload_n ok_X11_leaderAt (mi 5 rfl) rfl ?_
    refine ex_aaldx (n := 1) ok_X11_leaderAt (mi 6 rfl) (by decide) (fk f.1 10 rfl) (fn f.1 10 rfl) (pk_in 0 3 (by decide)) (fo f.2.1 0 rfl) (fk f.1 11 rfl) (by decide) ?_
    refine ex_aret ok_X11_leaderAt (mi 7 rfl) rfl ?_
    exact ⟨rfl, rfl⟩
  refine ex_astore_n ok_X11_leader (mi 3 rfl) ?_
  refine ex_iload_n ok_X11_leader (mi 4 rfl) rfl ?_
  refine ex_bipush ok_X11_leader (mi 5 rfl) ?_
  refine ex_callSr (As := [_, _]) ok_X11_leader (mi 6 rfl) rfl (m_reqOk hst (pk_in 7 14 (by decide)) (by decide) (by decide)) rfl rfl rfl (by decide) (Nat.le_of_ble_eq_true rfl) (by decide) ?_
  refine ex_aload_n ok_X11_leader (mi 7 rfl) rfl ?_
  refine ex_iload_n ok_X11_leader (mi 8 rfl) rfl ?_
  refine ex_callVr (As := [_]) (v := some (.int (nI 0))) (g1 := h) ok_X11_leader (mi 9 rfl) rfl ?c rfl (fk f.1 11 rfl) rfl rfl (by decide) (by decide) (Nat.le_of_ble_eq_true rfl) (by decide) ?_
  case c =>
    refine ex_M_of ok_X5_tell cw_X5_tell rfl hst (Nat.le_of_ble_eq_true rfl) ?_
    refine ex_iload_n ok_X5_tell (mi 0 rfl) rfl ?_
    refine ex_tblk (tgt := 161) ok_X5_tell (mi 1 rfl) (by decide) (by decide) (by decide) (by decide) ?_
    refine ex_aload_n ok_X5_tell (mi 47 rfl) rfl ?_
    refine ex_getIx ok_X5_tell (mi 48 rfl) rfl rfl (fk f.1 11 rfl) (fi f.2.2.1 37 rfl) ?_
    refine ex_iconst ok_X5_tell (mi 49 rfl) ?_
    refine ex_icmp_ne (tgt := 177) ok_X5_tell (mi 50 rfl) rfl (fun _ => ?_) (fun hn => absurd hn (by decide))
    refine ex_iconst ok_X5_tell (mi 55 rfl) ?_
    refine ex_iret ok_X5_tell (mi 56 rfl) rfl ?_
    exact ⟨inlI (by decide), rfl⟩
  refine ex_iret ok_X11_leader (mi 10 rfl) rfl ?_
  exact ⟨Or.inl ⟨rfl, inlI (by decide)⟩, kp0⟩
theorem c_leader_0_8 {G : GE} (hst : (ge_l G).stackTraces = false) {x : Nat}  : CC G 4 4 24 my_X11_leader x [.int (nI 0), .int (nI 8)] E3 0 (nI 0) := by
  intro h f
  refine ex_M_of ok_X11_leader cw_X11_leader rfl hst (Nat.le_of_ble_eq_true rfl) ?_
  refine ex_aload_n ok_X11_leader (mi 0 rfl) rfl ?_
  refine ex_iload_n ok_X11_leader (mi 1 rfl) rfl ?_
  refine ex_callVr (As := [_]) (v := some (.ref (x + 815))) (g1 := h) ok_X11_leader (mi 2 rfl) rfl ?c rfl (fk f.1 0 rfl) rfl rfl (by decide) (by decide) (Nat.le_of_ble_eq_true rfl) (by decide) ?_
  case c =>
    refine ex_M_of ok_X11_leaderAt cw_X11_leaderAt rfl hst (Nat.le_of_ble_eq_true rfl) ?_
    refine ex_iload_n ok_X11_leaderAt (mi 0 rfl) rfl ?_
    refine ex_iconst ok_X11_leaderAt (mi 1 rfl) ?_
    refine ex_callSr (As := [_, _]) ok_X11_leaderAt (mi 2 rfl) rfl (m_reqOk hst (pk_in 0 3 (by decide)) (by decide) (by decide)) rfl rfl rfl (by decide) (Nat.le_of_ble_eq_true rfl) (by decide) ?_
    refine ex_aload_n ok_X11_leaderAt (mi 3 rfl) rfl ?_
    refine ex_getRx ok_X11_leaderAt (mi 4 rfl) rfl rfl (fk f.1 0 rfl) (fr f.1 13 rfl) (fk f.1 10 rfl) (by decide) ?_
    refine ex_iload_n ok_X11_leaderAt (mi 5 rfl) rfl ?_
    refine ex_aaldx (n := 1) ok_X11_leaderAt (mi 6 rfl) (by decide) (fk f.1 10 rfl) (fn f.1 10 rfl) (pk_in 0 3 (by decide)) (fo f.2.1 0 rfl) (fk f.1 11 rfl) (by decide) ?_
    refine ex_aret ok_X11_leaderAt (mi 7 rfl) rfl ?_
    exact ⟨rfl, rfl⟩
  refine ex_astore_n ok_X11_leader (mi 3 rfl) ?_
  refine ex_iload_n ok_X11_leader (mi 4 rfl) rfl ?_
  refine ex_bipush ok_X11_leader (mi 5 rfl) ?_
  refine ex_callSr (As := [_, _]) ok_X11_leader (mi 6 rfl) rfl (m_reqOk hst (pk_in 8 14 (by decide)) (by decide) (by decide)) rfl rfl rfl (by decide) (Nat.le_of_ble_eq_true rfl) (by decide) ?_
  refine ex_aload_n ok_X11_leader (mi 7 rfl) rfl ?_
  refine ex_iload_n ok_X11_leader (mi 8 rfl) rfl ?_
  refine ex_callVr (As := [_]) (v := some (.int (nI 0))) (g1 := h) ok_X11_leader (mi 9 rfl) rfl ?c rfl (fk f.1 11 rfl) rfl rfl (by decide) (by decide) (Nat.le_of_ble_eq_true rfl) (by decide) ?_
  case c =>
    refine ex_M_of ok_X5_tell cw_X5_tell rfl hst (Nat.le_of_ble_eq_true rfl) ?_
    refine ex_iload_n ok_X5_tell (mi 0 rfl) rfl ?_
    refine ex_tblk (tgt := 161) ok_X5_tell (mi 1 rfl) (by decide) (by decide) (by decide) (by decide) ?_
    refine ex_aload_n ok_X5_tell (mi 47 rfl) rfl ?_
    refine ex_getIx ok_X5_tell (mi 48 rfl) rfl rfl (fk f.1 11 rfl) (fi f.2.2.1 37 rfl) ?_
    refine ex_iconst ok_X5_tell (mi 49 rfl) ?_
    refine ex_icmp_ne (tgt := 177) ok_X5_tell (mi 50 rfl) rfl (fun _ => ?_) (fun hn => absurd hn (by decide))
    refine ex_iconst ok_X5_tell (mi 55 rfl) ?_
    refine ex_iret ok_X5_tell (mi 56 rfl) rfl ?_
    exact ⟨inlI (by decide), rfl⟩
  refine ex_iret ok_X11_leader (mi 10 rfl) rfl ?_
  exact ⟨Or.inl ⟨rfl, inlI (by decide)⟩, kp0⟩
theorem c_leader_0_9 {G : GE} (hst : (ge_l G).stackTraces = false) {x : Nat}  : CC G 4 4 24 my_X11_leader x [.int (nI 0), .int (nI 9)] E3 0 (nI 0) := by
  intro h f
  refine ex_M_of ok_X11_leader cw_X11_leader rfl hst (Nat.le_of_ble_eq_true rfl) ?_
  refine ex_aload_n ok_X11_leader (mi 0 rfl) rfl ?_
  refine ex_iload_n ok_X11_leader (mi 1 rfl) rfl ?_
  refine ex_callVr (As := [_]) (v := some (.ref (x + 815))) (g1 := h) ok_X11_leader (mi 2 rfl) rfl ?c rfl (fk f.1 0 rfl) rfl rfl (by decide) (by decide) (Nat.le_of_ble_eq_true rfl) (by decide) ?_
  case c =>
    refine ex_M_of ok_X11_leaderAt cw_X11_leaderAt rfl hst (Nat.le_of_ble_eq_true rfl) ?_
    refine ex_iload_n ok_X11_leaderAt (mi 0 rfl) rfl ?_
    refine ex_iconst ok_X11_leaderAt (mi 1 rfl) ?_
    refine ex_callSr (As := [_, _]) ok_X11_leaderAt (mi 2 rfl) rfl (m_reqOk hst (pk_in 0 3 (by decide)) (by decide) (by decide)) rfl rfl rfl (by decide) (Nat.le_of_ble_eq_true rfl) (by decide) ?_
    refine ex_aload_n ok_X11_leaderAt (mi 3 rfl) rfl ?_
    refine ex_getRx ok_X11_leaderAt (mi 4 rfl) rfl rfl (fk f.1 0 rfl) (fr f.1 13 rfl) (fk f.1 10 rfl) (by decide) ?_
    refine ex_iload_n ok_X11_leaderAt (mi 5 rfl) rfl ?_
    refine ex_aaldx (n := 1) ok_X11_leaderAt (mi 6 rfl) (by decide) (fk f.1 10 rfl) (fn f.1 10 rfl) (pk_in 0 3 (by decide)) (fo f.2.1 0 rfl) (fk f.1 11 rfl) (by decide) ?_
    refine ex_aret ok_X11_leaderAt (mi 7 rfl) rfl ?_
    exact ⟨rfl, rfl⟩
  refine ex_astore_n ok_X11_leader (mi 3 rfl) ?_
  refine ex_iload_n ok_X11_leader (mi 4 rfl) rfl ?_
  refine ex_bipush ok_X11_leader (mi 5 rfl) ?_
  refine ex_callSr (As := [_, _]) ok_X11_leader (mi 6 rfl) rfl (m_reqOk hst (pk_in 9 14 (by decide)) (by decide) (by decide)) rfl rfl rfl (by decide) (Nat.le_of_ble_eq_true rfl) (by decide) ?_
  refine ex_aload_n ok_X11_leader (mi 7 rfl) rfl ?_
  refine ex_iload_n ok_X11_leader (mi 8 rfl) rfl ?_
  refine ex_callVr (As := [_]) (v := some (.int (nI 0))) (g1 := h) ok_X11_leader (mi 9 rfl) rfl ?c rfl (fk f.1 11 rfl) rfl rfl (by decide) (by decide) (Nat.le_of_ble_eq_true rfl) (by decide) ?_
  case c =>
    refine ex_M_of ok_X5_tell cw_X5_tell rfl hst (Nat.le_of_ble_eq_true rfl) ?_
    refine ex_iload_n ok_X5_tell (mi 0 rfl) rfl ?_
    refine ex_tblk (tgt := 161) ok_X5_tell (mi 1 rfl) (by decide) (by decide) (by decide) (by decide) ?_
    refine ex_aload_n ok_X5_tell (mi 47 rfl) rfl ?_
    refine ex_getIx ok_X5_tell (mi 48 rfl) rfl rfl (fk f.1 11 rfl) (fi f.2.2.1 37 rfl) ?_
    refine ex_iconst ok_X5_tell (mi 49 rfl) ?_
    refine ex_icmp_ne (tgt := 177) ok_X5_tell (mi 50 rfl) rfl (fun _ => ?_) (fun hn => absurd hn (by decide))
    refine ex_iconst ok_X5_tell (mi 55 rfl) ?_
    refine ex_iret ok_X5_tell (mi 56 rfl) rfl ?_
    exact ⟨inlI (by decide), rfl⟩
  refine ex_iret ok_X11_leader (mi 10 rfl) rfl ?_
  exact ⟨Or.inl ⟨rfl, inlI (by decide)⟩, kp0⟩
theorem c_leader_0_10 {G : GE} (hst : (ge_l G).stackTraces = false) {x : Nat}  : CC G 4 4 24 my_X11_leader x [.int (nI 0), .int (nI 10)] E3 0 (nI 0) := by
  intro h f
  refine ex_M_of ok_X11_leader cw_X11_leader rfl hst (Nat.le_of_ble_eq_true rfl) ?_
  refine ex_aload_n ok_X11_leader (mi 0 rfl) rfl ?_
  refine ex_iload_n ok_X11_leader (mi 1 rfl) rfl ?_
  refine ex_callVr (As := [_]) (v := some (.ref (x + 815))) (g1 := h) ok_X11_leader (mi 2 rfl) rfl ?c rfl (fk f.1 0 rfl) rfl rfl (by decide) (by decide) (Nat.le_of_ble_eq_true rfl) (by decide) ?_
  case c =>
    refine ex_M_of ok_X11_leaderAt cw_X11_leaderAt rfl hst (Nat.le_of_ble_eq_true rfl) ?_
    refine ex_iload_n ok_X11_leaderAt (mi 0 rfl) rfl ?_
    refine ex_iconst ok_X11_leaderAt (mi 1 rfl) ?_
    refine ex_callSr (As := [_, _]) ok_X11_leaderAt (mi 2 rfl) rfl (m_reqOk hst (pk_in 0 3 (by decide)) (by decide) (by decide)) rfl rfl rfl (by decide) (Nat.le_of_ble_eq_true rfl) (by decide) ?_
    refine ex_aload_n ok_X11_leaderAt (mi 3 rfl) rfl ?_
    refine ex_getRx ok_X11_leaderAt (mi 4 rfl) rfl rfl (fk f.1 0 rfl) (fr f.1 13 rfl) (fk f.1 10 rfl) (by decide) ?_
    refine ex_iload_n ok_X11_leaderAt (mi 5 rfl) rfl ?_
    refine ex_aaldx (n := 1) ok_X11_leaderAt (mi 6 rfl) (by decide) (fk f.1 10 rfl) (fn f.1 10 rfl) (pk_in 0 3 (by decide)) (fo f.2.1 0 rfl) (fk f.1 11 rfl) (by decide) ?_
    refine ex_aret ok_X11_leaderAt (mi 7 rfl) rfl ?_
    exact ⟨rfl, rfl⟩
  refine ex_astore_n ok_X11_leader (mi 3 rfl) ?_
  refine ex_iload_n ok_X11_leader (mi 4 rfl) rfl ?_
  refine ex_bipush ok_X11_leader (mi 5 rfl) ?_
  refine ex_callSr (As := [_, _]) ok_X11_leader (mi 6 rfl) rfl (m_reqOk hst (pk_in 10 14 (by decide)) (by decide) (by decide)) rfl rfl rfl (by decide) (Nat.le_of_ble_eq_true rfl) (by decide) ?_
  refine ex_aload_n ok_X11_leader (mi 7 rfl) rfl ?_
  refine ex_iload_n ok_X11_leader (mi 8 rfl) rfl ?_
  refine ex_callVr (As := [_]) (v := some (.int (nI 0))) (g1 := h) ok_X11_leader (mi 9 rfl) rfl ?c rfl (fk f.1 11 rfl) rfl rfl (by decide) (by decide) (Nat.le_of_ble_eq_true rfl) (by decide) ?_
  case c =>
    refine ex_M_of ok_X5_tell cw_X5_tell rfl hst (Nat.le_of_ble_eq_true rfl) ?_
    refine ex_iload_n ok_X5_tell (mi 0 rfl) rfl ?_
    refine ex_tblk (tgt := 111) ok_X5_tell (mi 1 rfl) (by decide) (by decide) (by decide) (by decide) ?_
    refine ex_aload_n ok_X5_tell (mi 23 rfl) rfl ?_
    refine ex_getRx ok_X5_tell (mi 24 rfl) rfl rfl (fk f.1 11 rfl) (fr f.1 16 rfl) (fk f.1 21 rfl) (by decide) ?_
    refine ex_getIx ok_X5_tell (mi 25 rfl) rfl rfl (fk f.1 21 rfl) (fi f.2.2.1 55 rfl) ?_
    refine ex_iret ok_X5_tell (mi 26 rfl) rfl ?_
    exact ⟨inlI (by decide), rfl⟩
  refine ex_iret ok_X11_leader (mi 10 rfl) rfl ?_
  exact ⟨Or.inl ⟨rfl, inlI (by decide)⟩, kp0⟩
theorem c_leader_0_11 {G : GE} (hst : (ge_l G).stackTraces = false) {x : Nat}  : CC G 4 4 24 my_X11_leader x [.int (nI 0), .int (nI 11)] E3 0 (nI 0) := by
  intro h f
  refine ex_M_of ok_X11_leader cw_X11_leader rfl hst (Nat.le_of_ble_eq_true rfl) ?_
  refine ex_aload_n ok_X11_leader (mi 0 rfl) rfl ?_
  refine ex_iload_n ok_X11_leader (mi 1 rfl) rfl ?_
  refine ex_callVr (As := [_]) (v := some (.ref (x + 815))) (g1 := h) ok_X11_leader (mi 2 rfl) rfl ?c rfl (fk f.1 0 rfl) rfl rfl (by decide) (by decide) (Nat.le_of_ble_eq_true rfl) (by decide) ?_
  case c =>
    refine ex_M_of ok_X11_leaderAt cw_X11_leaderAt rfl hst (Nat.le_of_ble_eq_true rfl) ?_
    refine ex_iload_n ok_X11_leaderAt (mi 0 rfl) rfl ?_
    refine ex_iconst ok_X11_leaderAt (mi 1 rfl) ?_
    refine ex_callSr (As := [_, _]) ok_X11_leaderAt (mi 2 rfl) rfl (m_reqOk hst (pk_in 0 3 (by decide)) (by decide) (by decide)) rfl rfl rfl (by decide) (Nat.le_of_ble_eq_true rfl) (by decide) ?_
    refine ex_aload_n ok_X11_leaderAt (mi 3 rfl) rfl ?_
    refine ex_getRx ok_X11_leaderAt (mi 4 rfl) rfl rfl (fk f.1 0 rfl) (fr f.1 13 rfl) (fk f.1 10 rfl) (by decide) ?_
    refine ex_iload_n ok_X11_leaderAt (mi 5 rfl) rfl ?_
    refine ex_aaldx (n := 1) ok_X11_leaderAt (mi 6 rfl) (by decide) (fk f.1 10 rfl) (fn f.1 10 rfl) (pk_in 0 3 (by decide)) (fo f.2.1 0 rfl) (fk f.1 11 rfl) (by decide) ?_
    refine ex_aret ok_X11_leaderAt (mi 7 rfl) rfl ?_
    exact ⟨rfl, rfl⟩
  refine ex_astore_n ok_X11_leader (mi 3 rfl) ?_
  refine ex_iload_n ok_X11_leader (mi 4 rfl) rfl ?_
  refine ex_bipush ok_X11_leader (mi 5 rfl) ?_
  refine ex_callSr (As := [_, _]) ok_X11_leader (mi 6 rfl) rfl (m_reqOk hst (pk_in 11 14 (by decide)) (by decide) (by decide)) rfl rfl rfl (by decide) (Nat.le_of_ble_eq_true rfl) (by decide) ?_
  refine ex_aload_n ok_X11_leader (mi 7 rfl) rfl ?_
  refine ex_iload_n ok_X11_leader (mi 8 rfl) rfl ?_
  refine ex_callVr (As := [_]) (v := some (.int (nI 0))) (g1 := h) ok_X11_leader (mi 9 rfl) rfl ?c rfl (fk f.1 11 rfl) rfl rfl (by decide) (by decide) (Nat.le_of_ble_eq_true rfl) (by decide) ?_
  case c =>
    refine ex_M_of ok_X5_tell cw_X5_tell rfl hst (Nat.le_of_ble_eq_true rfl) ?_
    refine ex_iload_n ok_X5_tell (mi 0 rfl) rfl ?_
    refine ex_tblk (tgt := 119) ok_X5_tell (mi 1 rfl) (by decide) (by decide) (by decide) (by decide) ?_
    refine ex_aload_n ok_X5_tell (mi 27 rfl) rfl ?_
    refine ex_getRx ok_X5_tell (mi 28 rfl) rfl rfl (fk f.1 11 rfl) (fr f.1 14 rfl) (fk f.1 14 rfl) (by decide) ?_
    refine ex_getIx ok_X5_tell (mi 29 rfl) rfl rfl (fk f.1 14 rfl) (fi f.2.2.1 42 rfl) ?_
    refine ex_iret ok_X5_tell (mi 30 rfl) rfl ?_
    exact ⟨inlI (by decide), rfl⟩
  refine ex_iret ok_X11_leader (mi 10 rfl) rfl ?_
  exact ⟨Or.inl ⟨rfl, inlI (by decide)⟩, kp0⟩
theorem c_leader_0_12 {G : GE} (hst : (ge_l G).stackTraces = false) {x : Nat}  : CC G 4 4 24 my_X11_leader x [.int (nI 0), .int (nI 12)] E3 0 (nI 0) := by
  intro h f
  refine ex_M_of ok_X11_leader cw_X11_leader rfl hst (Nat.le_of_ble_eq_true rfl) ?_
  refine ex_aload_n ok_X11_leader (mi 0 rfl) rfl ?_
  refine ex_iload_n ok_X11_leader (mi 1 rfl) rfl ?_
  refine ex_callVr (As := [_]) (v := some (.ref (x + 815))) (g1 := h) ok_X11_leader (mi 2 rfl) rfl ?c rfl (fk f.1 0 rfl) rfl rfl (by decide) (by decide) (Nat.le_of_ble_eq_true rfl) (by decide) ?_
  case c =>
    refine ex_M_of ok_X11_leaderAt cw_X11_leaderAt rfl hst (Nat.le_of_ble_eq_true rfl) ?_
    refine ex_iload_n ok_X11_leaderAt (mi 0 rfl) rfl ?_
    refine ex_iconst ok_X11_leaderAt (mi 1 rfl) ?_
    refine ex_callSr (As := [_, _]) ok_X11_leaderAt (mi 2 rfl) rfl (m_reqOk hst (pk_in 0 3 (by decide)) (by decide) (by decide)) rfl rfl rfl (by decide) (Nat.le_of_ble_eq_true rfl) (by decide) ?_
    refine ex_aload_n ok_X11_leaderAt (mi 3 rfl) rfl ?_
    refine ex_getRx ok_X11_leaderAt (mi 4 rfl) rfl rfl (fk f.1 0 rfl) (fr f.1 13 rfl) (fk f.1 10 rfl) (by decide) ?_
    refine ex_iload_n ok_X11_leaderAt (mi 5 rfl) rfl ?_
    refine ex_aaldx (n := 1) ok_X11_leaderAt (mi 6 rfl) (by decide) (fk f.1 10 rfl) (fn f.1 10 rfl) (pk_in 0 3 (by decide)) (fo f.2.1 0 rfl) (fk f.1 11 rfl) (by decide) ?_
    refine ex_aret ok_X11_leaderAt (mi 7 rfl) rfl ?_
    exact ⟨rfl, rfl⟩
  refine ex_astore_n ok_X11_leader (mi 3 rfl) ?_
  refine ex_iload_n ok_X11_leader (mi 4 rfl) rfl ?_
  refine ex_bipush ok_X11_leader (mi 5 rfl) ?_
  refine ex_callSr (As := [_, _]) ok_X11_leader (mi 6 rfl) rfl (m_reqOk hst (pk_in 12 14 (by decide)) (by decide) (by decide)) rfl rfl rfl (by decide) (Nat.le_of_ble_eq_true rfl) (by decide) ?_
  refine ex_aload_n ok_X11_leader (mi 7 rfl) rfl ?_
  refine ex_iload_n ok_X11_leader (mi 8 rfl) rfl ?_
  refine ex_callVr (As := [_]) (v := some (.int (nI 0))) (g1 := h) ok_X11_leader (mi 9 rfl) rfl ?c rfl (fk f.1 11 rfl) rfl rfl (by decide) (by decide) (Nat.le_of_ble_eq_true rfl) (by decide) ?_
  case c =>
    refine ex_M_of ok_X5_tell cw_X5_tell rfl hst (Nat.le_of_ble_eq_true rfl) ?_
    refine ex_iload_n ok_X5_tell (mi 0 rfl) rfl ?_
    refine ex_tblk (tgt := 127) ok_X5_tell (mi 1 rfl) (by decide) (by decide) (by decide) (by decide) ?_
    refine ex_aload_n ok_X5_tell (mi 31 rfl) rfl ?_
    refine ex_getRx ok_X5_tell (mi 32 rfl) rfl rfl (fk f.1 11 rfl) (fr f.1 14 rfl) (fk f.1 14 rfl) (by decide) ?_
    refine ex_getIx ok_X5_tell (mi 33 rfl) rfl rfl (fk f.1 14 rfl) (fi f.2.2.1 44 rfl) ?_
    refine ex_iret ok_X5_tell (mi 34 rfl) rfl ?_
    exact ⟨inlI (by decide), rfl⟩
  refine ex_iret ok_X11_leader (mi 10 rfl) rfl ?_
  exact ⟨Or.inl ⟨rfl, inlI (by decide)⟩, kp0⟩
theorem c_leader_0_13 {G : GE} (hst : (ge_l G).stackTraces = false) {x : Nat}  : CC G 4 4 24 my_X11_leader x [.int (nI 0), .int (nI 13)] E3 0 (nI 0) := by
  intro h f
  refine ex_M_of ok_X11_leader cw_X11_leader rfl hst (Nat.le_of_ble_eq_true rfl) ?_
  refine ex_aload_n ok_X11_leader (mi 0 rfl) rfl ?_
  refine ex_iload_n ok_X11_leader (mi 1 rfl) rfl ?_
  refine ex_callVr (As := [_]) (v := some (.ref (x + 815))) (g1 := h) ok_X11_leader (mi 2 rfl) rfl ?c rfl (fk f.1 0 rfl) rfl rfl (by decide) (by decide) (Nat.le_of_ble_eq_true rfl) (by decide) ?_
  case c =>
    refine ex_M_of ok_X11_leaderAt cw_X11_leaderAt rfl hst (Nat.le_of_ble_eq_true rfl) ?_
    refine ex_iload_n ok_X11_leaderAt (mi 0 rfl) rfl ?_
    refine ex_iconst ok_X11_leaderAt (mi 1 rfl) ?_
    refine ex_callSr (As := [_, _]) ok_X11_leaderAt (mi 2 rfl) rfl (m_reqOk hst (pk_in 0 3 (by decide)) (by decide) (by decide)) rfl rfl rfl (by decide) (Nat.le_of_ble_eq_true rfl) (by decide) ?_
    refine ex_aload_n ok_X11_leaderAt (mi 3 rfl) rfl ?_
    refine ex_getRx ok_X11_leaderAt (mi 4 rfl) rfl rfl (fk f.1 0 rfl) (fr f.1 13 rfl) (fk f.1 10 rfl) (by decide) ?_
    refine ex_iload_n ok_X11_leaderAt (mi 5 rfl) rfl ?_
    refine ex_aaldx (n := 1) ok_X11_leaderAt (mi 6 rfl) (by decide) (fk f.1 10 rfl) (fn f.1 10 rfl) (pk_in 0 3 (by decide)) (fo f.2.1 0 rfl) (fk f.1 11 rfl) (by decide) ?_
    refine ex_aret ok_X11_leaderAt (mi 7 rfl) rfl ?_
    exact ⟨rfl, rfl⟩
  refine ex_astore_n ok_X11_leader (mi 3 rfl) ?_
  refine ex_iload_n ok_X11_leader (mi 4 rfl) rfl ?_
  refine ex_bipush ok_X11_leader (mi 5 rfl) ?_
  refine ex_callSr (As := [_, _]) ok_X11_leader (mi 6 rfl) rfl (m_reqOk hst (pk_in 13 14 (by decide)) (by decide) (by decide)) rfl rfl rfl (by decide) (Nat.le_of_ble_eq_true rfl) (by decide) ?_
  refine ex_aload_n ok_X11_leader (mi 7 rfl) rfl ?_
  refine ex_iload_n ok_X11_leader (mi 8 rfl) rfl ?_
  refine ex_callVr (As := [_]) (v := some (.int (nI 0))) (g1 := h) ok_X11_leader (mi 9 rfl) rfl ?c rfl (fk f.1 11 rfl) rfl rfl (by decide) (by decide) (Nat.le_of_ble_eq_true rfl) (by decide) ?_
  case c =>
    refine ex_M_of ok_X5_tell cw_X5_tell rfl hst (Nat.le_of_ble_eq_true rfl) ?_
    refine ex_iload_n ok_X5_tell (mi 0 rfl) rfl ?_
    refine ex_tblk (tgt := 135) ok_X5_tell (mi 1 rfl) (by decide) (by decide) (by decide) (by decide) ?_
    refine ex_aload_n ok_X5_tell (mi 35 rfl) rfl ?_
    refine ex_getRx ok_X5_tell (mi 36 rfl) rfl rfl (fk f.1 11 rfl) (fr f.1 16 rfl) (fk f.1 21 rfl) (by decide) ?_
    refine ex_getIx ok_X5_tell (mi 37 rfl) rfl rfl (fk f.1 21 rfl) (fi f.2.2.1 55 rfl) ?_
    refine ex_iconst ok_X5_tell (mi 38 rfl) ?_
    refine ex_icmp_ne (tgt := 156) ok_X5_tell (mi 39 rfl) rfl (fun _ => ?_) (fun hn => absurd hn (by decide))
    refine ex_aload_n ok_X5_tell (mi 44 rfl) rfl ?_
    refine ex_getIx ok_X5_tell (mi 45 rfl) rfl rfl (fk f.1 11 rfl) (fi f.2.2.1 51 rfl) ?_
    refine ex_iret ok_X5_tell (mi 46 rfl) rfl ?_
    exact ⟨inlI (by decide), rfl⟩
  refine ex_iret ok_X11_leader (mi 10 rfl) rfl ?_
  exact ⟨Or.inl ⟨rfl, inlI (by decide)⟩, kp0⟩
theorem c_slot_0_b1 {G : GE} (hst : (ge_l G).stackTraces = false) {x : Nat} {p1 p2 : Int32} (c1 : ¬ vp_in p1 16) : CC G 3 4 24 my_X11_slot x [.int (nI 0), .int p1, .int p2] E3 1 (nI 0) := by
  intro h f
  refine ex_M_of ok_X11_slot cw_X11_slot rfl hst (Nat.le_of_ble_eq_true rfl) ?_
  refine ex_aload_n ok_X11_slot (mi 0 rfl) rfl ?_
  refine ex_iload_n ok_X11_slot (mi 1 rfl) rfl ?_
  refine ex_callVr (As := [_]) (v := some (.ref (x + 815))) (g1 := h) ok_X11_slot (mi 2 rfl) rfl ?c rfl (fk f.1 0 rfl) rfl rfl (by decide) (by decide) (Nat.le_of_ble_eq_true rfl) (by decide) ?_
  case c =>
    refine ex_M_of ok_X11_leaderAt cw_X11_leaderAt rfl hst (Nat.le_of_ble_eq_true rfl) ?_
    refine ex_iload_n ok_X11_leaderAt (mi 0 rfl) rfl ?_
    refine ex_iconst ok_X11_leaderAt (mi 1 rfl) ?_
    refine ex_callSr (As := [_, _]) ok_X11_leaderAt (mi 2 rfl) rfl (m_reqOk hst (pk_in 0 3 (by decide)) (by decide) (by decide)) rfl rfl rfl (by decide) (Nat.le_of_ble_eq_true rfl) (by decide) ?_
    refine ex_aload_n ok_X11_leaderAt (mi 3 rfl) rfl ?_
    refine ex_getRx ok_X11_leaderAt (mi 4 rfl) rfl rfl (fk f.1 0 rfl) (fr f.1 13 rfl) (fk f.1 10 rfl) (by decide) ?_
    refine ex_iload_n ok_X11_leaderAt (mi 5 rfl) rfl ?_
    refine ex_aaldx (n := 1) ok_X11_leaderAt (mi 6 rfl) (by decide) (fk f.1 10 rfl) (fn f.1 10 rfl) (pk_in 0 3 (by decide)) (fo f.2.1 0 rfl) (fk f.1 11 rfl) (by decide) ?_
    refine ex_aret ok_X11_leaderAt (mi 7 rfl) rfl ?_
    exact ⟨rfl, rfl⟩
  refine ex_astore ok_X11_slot (mi 3 rfl) ?_
  refine ex_iload_n ok_X11_slot (mi 4 rfl) rfl ?_
  refine ex_bipush ok_X11_slot (mi 5 rfl) ?_
  refine ex_callSt (e := 100) (As := [_, _]) ok_X11_slot (mi 6 rfl) rfl (m_reqBad hst c1 (by decide) (by decide)) rfl rfl rfl (by decide) (Nat.le_of_ble_eq_true rfl) (by decide) (fun n hn => ?_)
  exact ⟨Or.inr ⟨by decide, rfl⟩, kpZ kp0 hn⟩
theorem c_slot_0_b2 {G : GE} (hst : (ge_l G).stackTraces = false) {x : Nat} {p1 p2 : Int32} (c1 : vp_in p1 16) (c2 : ¬ vp_in p2 4) : CC G 3 4 24 my_X11_slot x [.int (nI 0), .int p1, .int p2] E3 1 (nI 0) := by
  intro h f
  refine ex_M_of ok_X11_slot cw_X11_slot rfl hst (Nat.le_of_ble_eq_true rfl) ?_
  refine ex_aload_n ok_X11_slot (mi 0 rfl) rfl ?_
  refine ex_iload_n ok_X11_slot (mi 1 rfl) rfl ?_
  refine ex_callVr (As := [_]) (v := some (.ref (x + 815))) (g1 := h) ok_X11_slot (mi 2 rfl) rfl ?c rfl (fk f.1 0 rfl) rfl rfl (by decide) (by decide) (Nat.le_of_ble_eq_true rfl) (by decide) ?_
  case c =>
    refine ex_M_of ok_X11_leaderAt cw_X11_leaderAt rfl hst (Nat.le_of_ble_eq_true rfl) ?_
    refine ex_iload_n ok_X11_leaderAt (mi 0 rfl) rfl ?_
    refine ex_iconst ok_X11_leaderAt (mi 1 rfl) ?_
    refine ex_callSr (As := [_, _]) ok_X11_leaderAt (mi 2 rfl) rfl (m_reqOk hst (pk_in 0 3 (by decide)) (by decide) (by decide)) rfl rfl rfl (by decide) (Nat.le_of_ble_eq_true rfl) (by decide) ?_
    refine ex_aload_n ok_X11_leaderAt (mi 3 rfl) rfl ?_
    refine ex_getRx ok_X11_leaderAt (mi 4 rfl) rfl rfl (fk f.1 0 rfl) (fr f.1 13 rfl) (fk f.1 10 rfl) (by decide) ?_
    refine ex_iload_n ok_X11_leaderAt (mi 5 rfl) rfl ?_
    refine ex_aaldx (n := 1) ok_X11_leaderAt (mi 6 rfl) (by decide) (fk f.1 10 rfl) (fn f.1 10 rfl) (pk_in 0 3 (by decide)) (fo f.2.1 0 rfl) (fk f.1 11 rfl) (by decide) ?_
    refine ex_aret ok_X11_leaderAt (mi 7 rfl) rfl ?_
    exact ⟨rfl, rfl⟩
  refine ex_astore ok_X11_slot (mi 3 rfl) ?_
  refine ex_iload_n ok_X11_slot (mi 4 rfl) rfl ?_
  refine ex_bipush ok_X11_slot (mi 5 rfl) ?_
  refine ex_callSr (As := [_, _]) ok_X11_slot (mi 6 rfl) rfl (m_reqOk hst c1 (by decide) (by decide)) rfl rfl rfl (by decide) (Nat.le_of_ble_eq_true rfl) (by decide) ?_
  refine ex_iload_n ok_X11_slot (mi 7 rfl) rfl ?_
  refine ex_iconst ok_X11_slot (mi 8 rfl) ?_
  refine ex_callSt (e := 100) (As := [_, _]) ok_X11_slot (mi 9 rfl) rfl (m_reqBad hst c2 (by decide) (by decide)) rfl rfl rfl (by decide) (Nat.le_of_ble_eq_true rfl) (by decide) (fun n hn => ?_)
  exact ⟨Or.inr ⟨by decide, rfl⟩, kpZ kp0 hn⟩
theorem c_slot_0_0 {G : GE} (hst : (ge_l G).stackTraces = false) {x : Nat} {j : Nat} (hj : j < 16) : CC G 3 4 24 my_X11_slot x [.int (nI 0), .int (nI j), .int (nI 0)] E3 0 (nI 0) := by
  intro h f
  refine ex_M_of ok_X11_slot cw_X11_slot rfl hst (Nat.le_of_ble_eq_true rfl) ?_
  refine ex_aload_n ok_X11_slot (mi 0 rfl) rfl ?_
  refine ex_iload_n ok_X11_slot (mi 1 rfl) rfl ?_
  refine ex_callVr (As := [_]) (v := some (.ref (x + 815))) (g1 := h) ok_X11_slot (mi 2 rfl) rfl ?c rfl (fk f.1 0 rfl) rfl rfl (by decide) (by decide) (Nat.le_of_ble_eq_true rfl) (by decide) ?_
  case c =>
    refine ex_M_of ok_X11_leaderAt cw_X11_leaderAt rfl hst (Nat.le_of_ble_eq_true rfl) ?_
    refine ex_iload_n ok_X11_leaderAt (mi 0 rfl) rfl ?_
    refine ex_iconst ok_X11_leaderAt (mi 1 rfl) ?_
    refine ex_callSr (As := [_, _]) ok_X11_leaderAt (mi 2 rfl) rfl (m_reqOk hst (pk_in 0 3 (by decide)) (by decide) (by decide)) rfl rfl rfl (by decide) (Nat.le_of_ble_eq_true rfl) (by decide) ?_
    refine ex_aload_n ok_X11_leaderAt (mi 3 rfl) rfl ?_
    refine ex_getRx ok_X11_leaderAt (mi 4 rfl) rfl rfl (fk f.1 0 rfl) (fr f.1 13 rfl) (fk f.1 10 rfl) (by decide) ?_
    refine ex_iload_n ok_X11_leaderAt (mi 5 rfl) rfl ?_
    refine ex_aaldx (n := 1) ok_X11_leaderAt (mi 6 rfl) (by decide) (fk f.1 10 rfl) (fn f.1 10 rfl) (pk_in 0 3 (by decide)) (fo f.2.1 0 rfl) (fk f.1 11 rfl) (by decide) ?_
    refine ex_aret ok_X11_leaderAt (mi 7 rfl) rfl ?_
    exact ⟨rfl, rfl⟩
  refine ex_astore ok_X11_slot (mi 3 rfl) ?_
  refine ex_iload_n ok_X11_slot (mi 4 rfl) rfl ?_
  refine ex_bipush ok_X11_slot (mi 5 rfl) ?_
  refine ex_callSr (As := [_, _]) ok_X11_slot (mi 6 rfl) rfl (m_reqOk hst (vp_in_nI hj (by decide)) (by decide) (by decide)) rfl rfl rfl (by decide) (Nat.le_of_ble_eq_true rfl) (by decide) ?_
  refine ex_iload_n ok_X11_slot (mi 7 rfl) rfl ?_
  refine ex_iconst ok_X11_slot (mi 8 rfl) ?_
  refine ex_callSr (As := [_, _]) ok_X11_slot (mi 9 rfl) rfl (m_reqOk hst (pk_in 0 4 (by decide)) (by decide) (by decide)) rfl rfl rfl (by decide) (Nat.le_of_ble_eq_true rfl) (by decide) ?_
  refine ex_iload_n ok_X11_slot (mi 10 rfl) rfl ?_
  refine ex_if_ne (tgt := 33) ok_X11_slot (mi 11 rfl) rfl (fun hn => absurd (by decide) hn) (fun _ => ?_)
  refine ex_aload ok_X11_slot (mi 12 rfl) rfl ?_
  refine ex_getIx ok_X11_slot (mi 13 rfl) rfl rfl (fk f.1 11 rfl) (fi f.2.2.1 37 rfl) ?_
  refine ex_iconst ok_X11_slot (mi 14 rfl) ?_
  refine ex_icmp_eq (tgt := 33) ok_X11_slot (mi 15 rfl) rfl (fun hn => absurd hn (by decide)) (fun _ => ?_)
  refine ex_iconst ok_X11_slot (mi 16 rfl) ?_
  refine ex_iret ok_X11_slot (mi 17 rfl) rfl ?_
  exact ⟨Or.inl ⟨rfl, inlI (by decide)⟩, kp0⟩
theorem c_slot_0_1 {G : GE} (hst : (ge_l G).stackTraces = false) {x : Nat} {j : Nat} (hj : j < 16) : CC G 3 4 24 my_X11_slot x [.int (nI 0), .int (nI j), .int (nI 1)] E3 0 ((-1)) := by
  intro h f
  refine ex_M_of ok_X11_slot cw_X11_slot rfl hst (Nat.le_of_ble_eq_true rfl) ?_
  refine ex_aload_n ok_X11_slot (mi 0 rfl) rfl ?_
  refine ex_iload_n ok_X11_slot (mi 1 rfl) rfl ?_
  refine ex_callVr (As := [_]) (v := some (.ref (x + 815))) (g1 := h) ok_X11_slot (mi 2 rfl) rfl ?c rfl (fk f.1 0 rfl) rfl rfl (by decide) (by decide) (Nat.le_of_ble_eq_true rfl) (by decide) ?_
  case c =>
    refine ex_M_of ok_X11_leaderAt cw_X11_leaderAt rfl hst (Nat.le_of_ble_eq_true rfl) ?_
    refine ex_iload_n ok_X11_leaderAt (mi 0 rfl) rfl ?_
    refine ex_iconst ok_X11_leaderAt (mi 1 rfl) ?_
    refine ex_callSr (As := [_, _]) ok_X11_leaderAt (mi 2 rfl) rfl (m_reqOk hst (pk_in 0 3 (by decide)) (by decide) (by decide)) rfl rfl rfl (by decide) (Nat.le_of_ble_eq_true rfl) (by decide) ?_
    refine ex_aload_n ok_X11_leaderAt (mi 3 rfl) rfl ?_
    refine ex_getRx ok_X11_leaderAt (mi 4 rfl) rfl rfl (fk f.1 0 rfl) (fr f.1 13 rfl) (fk f.1 10 rfl) (by decide) ?_
    refine ex_iload_n ok_X11_leaderAt (mi 5 rfl) rfl ?_
    refine ex_aaldx (n := 1) ok_X11_leaderAt (mi 6 rfl) (by decide) (fk f.1 10 rfl) (fn f.1 10 rfl) (pk_in 0 3 (by decide)) (fo f.2.1 0 rfl) (fk f.1 11 rfl) (by decide) ?_
    refine ex_aret ok_X11_leaderAt (mi 7 rfl) rfl ?_
    exact ⟨rfl, rfl⟩
  refine ex_astore ok_X11_slot (mi 3 rfl) ?_
  refine ex_iload_n ok_X11_slot (mi 4 rfl) rfl ?_
  refine ex_bipush ok_X11_slot (mi 5 rfl) ?_
  refine ex_callSr (As := [_, _]) ok_X11_slot (mi 6 rfl) rfl (m_reqOk hst (vp_in_nI hj (by decide)) (by decide) (by decide)) rfl rfl rfl (by decide) (Nat.le_of_ble_eq_true rfl) (by decide) ?_
  refine ex_iload_n ok_X11_slot (mi 7 rfl) rfl ?_
  refine ex_iconst ok_X11_slot (mi 8 rfl) ?_
  refine ex_callSr (As := [_, _]) ok_X11_slot (mi 9 rfl) rfl (m_reqOk hst (pk_in 1 4 (by decide)) (by decide) (by decide)) rfl rfl rfl (by decide) (Nat.le_of_ble_eq_true rfl) (by decide) ?_
  refine ex_iload_n ok_X11_slot (mi 10 rfl) rfl ?_
  refine ex_if_ne (tgt := 33) ok_X11_slot (mi 11 rfl) rfl (fun _ => ?_) (fun hn => absurd hn (by decide))
  refine ex_aload ok_X11_slot (mi 18 rfl) rfl ?_
  refine ex_getRx ok_X11_slot (mi 19 rfl) rfl rfl (fk f.1 11 rfl) (fr f.1 15 rfl) (fk f.1 16 rfl) (by decide) ?_
  refine ex_iload_n ok_X11_slot (mi 20 rfl) rfl ?_
  refine ex_iload_n ok_X11_slot (mi 21 rfl) rfl ?_
  refine ex_callVr (As := [_, _]) (v := some (.int (-1))) (g1 := h) ok_X11_slot (mi 22 rfl) rfl ?c rfl (fk f.1 16 rfl) rfl rfl (by decide) (by decide) (Nat.le_of_ble_eq_true rfl) (by decide) ?_
  case c =>
    refine ex_M_of ok_X8_tell cw_X8_tell rfl hst (Nat.le_of_ble_eq_true rfl) ?_
    refine ex_iload_n ok_X8_tell (mi 0 rfl) rfl ?_
    refine ex_callSNr (As := [_]) ok_X8_tell (mi 1 rfl) rfl (m_isSlot1 hst hj) rfl (List.mem_of_getElem? (i := 2) rfl) rfl rfl (by decide) (Nat.le_of_ble_eq_true rfl) (by decide) ?_
    refine ex_if_ne (tgt := 9) ok_X8_tell (mi 2 rfl) rfl (fun _ => ?_) (fun hn => absurd hn (by decide))
    refine ex_iload_n ok_X8_tell (mi 5 rfl) rfl ?_
    refine ex_tblk (tgt := 43) ok_X8_tell (mi 6 rfl) (by decide) (by decide) (by decide) (by decide) ?_
    refine ex_aload_n ok_X8_tell (mi 12 rfl) rfl ?_
    refine ex_getRx ok_X8_tell (mi 13 rfl) rfl rfl (fk f.1 16 rfl) (fr f.1 21 rfl) (fk f.1 18 rfl) (by decide) ?_
    refine ex_iload_n ok_X8_tell (mi 14 rfl) rfl ?_
    refine ex_ialdx ok_X8_tell (mi 15 rfl) (Or.inl (fk f.1 18 rfl)) (fn f.1 18 rfl) (vp_in_nI hj (by decide)) (fa f.2.2.2.1 7 rfl (by rw [nI_clamp (by omega)]; exact hj)) ?_
    refine ex_iret ok_X8_tell (mi 16 rfl) rfl ?_
    exact ⟨inlI (by decide), rfl⟩
  refine ex_iret ok_X11_slot (mi 23 rfl) rfl ?_
  exact ⟨Or.inl ⟨rfl, inlI (by decide)⟩, kp0⟩
theorem c_slot_0_2 {G : GE} (hst : (ge_l G).stackTraces = false) {x : Nat} {j : Nat} (hj : j < 16) : CC G 3 4 24 my_X11_slot x [.int (nI 0), .int (nI j), .int (nI 2)] E3 0 (nI 0) := by
  intro h f
  refine ex_M_of ok_X11_slot cw_X11_slot rfl hst (Nat.le_of_ble_eq_true rfl) ?_
  refine ex_aload_n ok_X11_slot (mi 0 rfl) rfl ?_
  refine ex_iload_n ok_X11_slot (mi 1 rfl) rfl ?_
  refine ex_callVr (As := [_]) (v := some (.ref (x + 815))) (g1 := h) ok_X11_slot (mi 2 rfl) rfl ?c rfl (fk f.1 0 rfl) rfl rfl (by decide) (by decide) (Nat.le_of_ble_eq_true rfl) (by decide) ?_
  case c =>
    refine ex_M_of ok_X11_leaderAt cw_X11_leaderAt rfl hst (Nat.le_of_ble_eq_true rfl) ?_
    refine ex_iload_n ok_X11_leaderAt (mi 0 rfl) rfl ?_
    refine ex_iconst ok_X11_leaderAt (mi 1 rfl) ?_
    refine ex_callSr (As := [_, _]) ok_X11_leaderAt (mi 2 rfl) rfl (m_reqOk hst (pk_in 0 3 (by decide)) (by decide) (by decide)) rfl rfl rfl (by decide) (Nat.le_of_ble_eq_true rfl) (by decide) ?_
    refine ex_aload_n ok_X11_leaderAt (mi 3 rfl) rfl ?_
    refine ex_getRx ok_X11_leaderAt (mi 4 rfl) rfl rfl (fk f.1 0 rfl) (fr f.1 13 rfl) (fk f.1 10 rfl) (by decide) ?_
    refine ex_iload_n ok_X11_leaderAt (mi 5 rfl) rfl ?_
    refine ex_aaldx (n := 1) ok_X11_leaderAt (mi 6 rfl) (by decide) (fk f.1 10 rfl) (fn f.1 10 rfl) (pk_in 0 3 (by decide)) (fo f.2.1 0 rfl) (fk f.1 11 rfl) (by decide) ?_
    refine ex_aret ok_X11_leaderAt (mi 7 rfl) rfl ?_
    exact ⟨rfl, rfl⟩
  refine ex_astore ok_X11_slot (mi 3 rfl) ?_
  refine ex_iload_n ok_X11_slot (mi 4 rfl) rfl ?_
  refine ex_bipush ok_X11_slot (mi 5 rfl) ?_
  refine ex_callSr (As := [_, _]) ok_X11_slot (mi 6 rfl) rfl (m_reqOk hst (vp_in_nI hj (by decide)) (by decide) (by decide)) rfl rfl rfl (by decide) (Nat.le_of_ble_eq_true rfl) (by decide) ?_
  refine ex_iload_n ok_X11_slot (mi 7 rfl) rfl ?_
  refine ex_iconst ok_X11_slot (mi 8 rfl) ?_
  refine ex_callSr (As := [_, _]) ok_X11_slot (mi 9 rfl) rfl (m_reqOk hst (pk_in 2 4 (by decide)) (by decide) (by decide)) rfl rfl rfl (by decide) (Nat.le_of_ble_eq_true rfl) (by decide) ?_
  refine ex_iload_n ok_X11_slot (mi 10 rfl) rfl ?_
  refine ex_if_ne (tgt := 33) ok_X11_slot (mi 11 rfl) rfl (fun _ => ?_) (fun hn => absurd hn (by decide))
  refine ex_aload ok_X11_slot (mi 18 rfl) rfl ?_
  refine ex_getRx ok_X11_slot (mi 19 rfl) rfl rfl (fk f.1 11 rfl) (fr f.1 15 rfl) (fk f.1 16 rfl) (by decide) ?_
  refine ex_iload_n ok_X11_slot (mi 20 rfl) rfl ?_
  refine ex_iload_n ok_X11_slot (mi 21 rfl) rfl ?_
  refine ex_callVr (As := [_, _]) (v := some (.int (nI 0))) (g1 := h) ok_X11_slot (mi 22 rfl) rfl ?c rfl (fk f.1 16 rfl) rfl rfl (by decide) (by decide) (Nat.le_of_ble_eq_true rfl) (by decide) ?_
  case c =>
    refine ex_M_of ok_X8_tell cw_X8_tell rfl hst (Nat.le_of_ble_eq_true rfl) ?_
    refine ex_iload_n ok_X8_tell (mi 0 rfl) rfl ?_
    refine ex_callSNr (As := [_]) ok_X8_tell (mi 1 rfl) rfl (m_isSlot1 hst hj) rfl (List.mem_of_getElem? (i := 2) rfl) rfl rfl (by decide) (Nat.le_of_ble_eq_true rfl) (by decide) ?_
    refine ex_if_ne (tgt := 9) ok_X8_tell (mi 2 rfl) rfl (fun _ => ?_) (fun hn => absurd hn (by decide))
    refine ex_iload_n ok_X8_tell (mi 5 rfl) rfl ?_
    refine ex_tblk (tgt := 50) ok_X8_tell (mi 6 rfl) (by decide) (by decide) (by decide) (by decide) ?_
    refine ex_aload_n ok_X8_tell (mi 17 rfl) rfl ?_
    refine ex_getRx ok_X8_tell (mi 18 rfl) rfl rfl (fk f.1 16 rfl) (fr f.1 22 rfl) (fk f.1 19 rfl) (by decide) ?_
    refine ex_iload_n ok_X8_tell (mi 19 rfl) rfl ?_
    refine ex_ialdx ok_X8_tell (mi 20 rfl) (Or.inl (fk f.1 19 rfl)) (fn f.1 19 rfl) (vp_in_nI hj (by decide)) (fa f.2.2.2.1 8 rfl (by rw [nI_clamp (by omega)]; exact hj)) ?_
    refine ex_iret ok_X8_tell (mi 21 rfl) rfl ?_
    exact ⟨inlI (by decide), rfl⟩
  refine ex_iret ok_X11_slot (mi 23 rfl) rfl ?_
  exact ⟨Or.inl ⟨rfl, inlI (by decide)⟩, kp0⟩
theorem c_slot_0_3 {G : GE} (hst : (ge_l G).stackTraces = false) {x : Nat} {j : Nat} (hj : j < 16) : CC G 3 4 24 my_X11_slot x [.int (nI 0), .int (nI j), .int (nI 3)] E3 0 (nI 0) := by
  intro h f
  refine ex_M_of ok_X11_slot cw_X11_slot rfl hst (Nat.le_of_ble_eq_true rfl) ?_
  refine ex_aload_n ok_X11_slot (mi 0 rfl) rfl ?_
  refine ex_iload_n ok_X11_slot (mi 1 rfl) rfl ?_
  refine ex_callVr (As := [_]) (v := some (.ref (x + 815))) (g1 := h) ok_X11_slot (mi 2 rfl) rfl ?c rfl (fk f.1 0 rfl) rfl rfl (by decide) (by decide) (Nat.le_of_ble_eq_true rfl) (by decide) ?_
  case c =>
    refine ex_M_of ok_X11_leaderAt cw_X11_leaderAt rfl hst (Nat.le_of_ble_eq_true rfl) ?_
    refine ex_iload_n ok_X11_leaderAt (mi 0 rfl) rfl ?_
    refine ex_iconst ok_X11_leaderAt (mi 1 rfl) ?_
    refine ex_callSr (As := [_, _]) ok_X11_leaderAt (mi 2 rfl) rfl (m_reqOk hst (pk_in 0 3 (by decide)) (by decide) (by decide)) rfl rfl rfl (by decide) (Nat.le_of_ble_eq_true rfl) (by decide) ?_
    refine ex_aload_n ok_X11_leaderAt (mi 3 rfl) rfl ?_
    refine ex_getRx ok_X11_leaderAt (mi 4 rfl) rfl rfl (fk f.1 0 rfl) (fr f.1 13 rfl) (fk f.1 10 rfl) (by decide) ?_
    refine ex_iload_n ok_X11_leaderAt (mi 5 rfl) rfl ?_
    refine ex_aaldx (n := 1) ok_X11_leaderAt (mi 6 rfl) (by decide) (fk f.1 10 rfl) (fn f.1 10 rfl) (pk_in 0 3 (by decide)) (fo f.2.1 0 rfl) (fk f.1 11 rfl) (by decide) ?_
    refine ex_aret ok_X11_leaderAt (mi 7 rfl) rfl ?_
    exact ⟨rfl, rfl⟩
  refine ex_astore ok_X11_slot (mi 3 rfl) ?_
  refine ex_iload_n ok_X11_slot (mi 4 rfl) rfl ?_
  refine ex_bipush ok_X11_slot (mi 5 rfl) ?_
  refine ex_callSr (As := [_, _]) ok_X11_slot (mi 6 rfl) rfl (m_reqOk hst (vp_in_nI hj (by decide)) (by decide) (by decide)) rfl rfl rfl (by decide) (Nat.le_of_ble_eq_true rfl) (by decide) ?_
  refine ex_iload_n ok_X11_slot (mi 7 rfl) rfl ?_
  refine ex_iconst ok_X11_slot (mi 8 rfl) ?_
  refine ex_callSr (As := [_, _]) ok_X11_slot (mi 9 rfl) rfl (m_reqOk hst (pk_in 3 4 (by decide)) (by decide) (by decide)) rfl rfl rfl (by decide) (Nat.le_of_ble_eq_true rfl) (by decide) ?_
  refine ex_iload_n ok_X11_slot (mi 10 rfl) rfl ?_
  refine ex_if_ne (tgt := 33) ok_X11_slot (mi 11 rfl) rfl (fun _ => ?_) (fun hn => absurd hn (by decide))
  refine ex_aload ok_X11_slot (mi 18 rfl) rfl ?_
  refine ex_getRx ok_X11_slot (mi 19 rfl) rfl rfl (fk f.1 11 rfl) (fr f.1 15 rfl) (fk f.1 16 rfl) (by decide) ?_
  refine ex_iload_n ok_X11_slot (mi 20 rfl) rfl ?_
  refine ex_iload_n ok_X11_slot (mi 21 rfl) rfl ?_
  refine ex_callVr (As := [_, _]) (v := some (.int (nI 0))) (g1 := h) ok_X11_slot (mi 22 rfl) rfl ?c rfl (fk f.1 16 rfl) rfl rfl (by decide) (by decide) (Nat.le_of_ble_eq_true rfl) (by decide) ?_
  case c =>
    refine ex_M_of ok_X8_tell cw_X8_tell rfl hst (Nat.le_of_ble_eq_true rfl) ?_
    refine ex_iload_n ok_X8_tell (mi 0 rfl) rfl ?_
    refine ex_callSNr (As := [_]) ok_X8_tell (mi 1 rfl) rfl (m_isSlot1 hst hj) rfl (List.mem_of_getElem? (i := 2) rfl) rfl rfl (by decide) (Nat.le_of_ble_eq_true rfl) (by decide) ?_
    refine ex_if_ne (tgt := 9) ok_X8_tell (mi 2 rfl) rfl (fun _ => ?_) (fun hn => absurd hn (by decide))
    refine ex_iload_n ok_X8_tell (mi 5 rfl) rfl ?_
    refine ex_tblk (tgt := 57) ok_X8_tell (mi 6 rfl) (by decide) (by decide) (by decide) (by decide) ?_
    refine ex_aload_n ok_X8_tell (mi 22 rfl) rfl ?_
    refine ex_getRx ok_X8_tell (mi 23 rfl) rfl rfl (fk f.1 16 rfl) (fr f.1 23 rfl) (fk f.1 20 rfl) (by decide) ?_
    refine ex_iload_n ok_X8_tell (mi 24 rfl) rfl ?_
    refine ex_ialdx ok_X8_tell (mi 25 rfl) (Or.inl (fk f.1 20 rfl)) (fn f.1 20 rfl) (vp_in_nI hj (by decide)) (fa f.2.2.2.1 9 rfl (by rw [nI_clamp (by omega)]; exact hj)) ?_
    refine ex_iret ok_X8_tell (mi 26 rfl) rfl ?_
    exact ⟨inlI (by decide), rfl⟩
  refine ex_iret ok_X11_slot (mi 23 rfl) rfl ?_
  exact ⟨Or.inl ⟨rfl, inlI (by decide)⟩, kp0⟩
theorem c_copy_0 {G : GE} (hst : (ge_l G).stackTraces = false) {x : Nat} {j : Nat} (hj : j < 16) : CC G 2 4 24 my_X11_copy x [.int (nI 0), .int (nI j)] E3 0 ((-1)) := by
  intro h f
  refine ex_M_of ok_X11_copy cw_X11_copy rfl hst (Nat.le_of_ble_eq_true rfl) ?_
  refine ex_iload_n ok_X11_copy (mi 0 rfl) rfl ?_
  refine ex_iconst ok_X11_copy (mi 1 rfl) ?_
  refine ex_callSr (As := [_, _]) ok_X11_copy (mi 2 rfl) rfl (m_reqOk hst (pk_in 0 3 (by decide)) (by decide) (by decide)) rfl rfl rfl (by decide) (Nat.le_of_ble_eq_true rfl) (by decide) ?_
  refine ex_iload_n ok_X11_copy (mi 3 rfl) rfl ?_
  refine ex_bipush ok_X11_copy (mi 4 rfl) ?_
  refine ex_callSr (As := [_, _]) ok_X11_copy (mi 5 rfl) rfl (m_reqOk hst (vp_in_nI hj (by decide)) (by decide) (by decide)) rfl rfl rfl (by decide) (Nat.le_of_ble_eq_true rfl) (by decide) ?_
  refine ex_aload_n ok_X11_copy (mi 6 rfl) rfl ?_
  refine ex_getRx ok_X11_copy (mi 7 rfl) rfl rfl (fk f.1 0 rfl) (fr f.1 11 rfl) (fk f.1 7 rfl) (by decide) ?_
  refine ex_getRx ok_X11_copy (mi 8 rfl) rfl rfl (fk f.1 7 rfl) (fr f.1 9 rfl) (fk f.1 8 rfl) (by decide) ?_
  refine ex_iload_n ok_X11_copy (mi 9 rfl) rfl ?_
  refine ex_bipush ok_X11_copy (mi 10 rfl) ?_
  refine ex_imul ok_X11_copy (mi 11 rfl) ?_
  refine ex_top (w := (nI 0)) (by decide) ?_
  refine ex_iload_n ok_X11_copy (mi 12 rfl) rfl ?_
  refine ex_iadd ok_X11_copy (mi 13 rfl) ?_
  refine ex_top (w := (nI (0 + j))) (nI_add 0 j) ?_
  refine ex_ialdx ok_X11_copy (mi 14 rfl) (Or.inl (fk f.1 8 rfl)) (fn f.1 8 rfl) (vp_in_nI (by omega) (by decide)) (fa f.2.2.2.1 2 rfl (by rw [nI_clamp (by omega)]; omega)) ?_
  refine ex_iret ok_X11_copy (mi 15 rfl) rfl ?_
  exact ⟨Or.inl ⟨rfl, inlI (by decide)⟩, kp0⟩
theorem c_propose_1_b {G : GE} (hst : (ge_l G).stackTraces = false) {x : Nat} {p1 : Int32} (c1 : ¬ (nI 1 ≤ p1 ∧ p1 ≤ nI 1000000)) : CC G 4 4 24 my_X11_propose x [.int (nI 1), .int p1] E3 2 (nI 0) := by
  intro h f
  refine ex_M_of ok_X11_propose cw_X11_propose rfl hst (Nat.le_of_ble_eq_true rfl) ?_
  refine ex_aload_n ok_X11_propose (mi 0 rfl) rfl ?_
  refine ex_iload_n ok_X11_propose (mi 1 rfl) rfl ?_
  refine ex_callVr (As := [_]) (v := some (.ref (x + 826))) (g1 := h) ok_X11_propose (mi 2 rfl) rfl ?c rfl (fk f.1 0 rfl) rfl rfl (by decide) (by decide) (Nat.le_of_ble_eq_true rfl) (by decide) ?_
  case c =>
    refine ex_M_of ok_X11_leaderAt cw_X11_leaderAt rfl hst (Nat.le_of_ble_eq_true rfl) ?_
    refine ex_iload_n ok_X11_leaderAt (mi 0 rfl) rfl ?_
    refine ex_iconst ok_X11_leaderAt (mi 1 rfl) ?_
    refine ex_callSr (As := [_, _]) ok_X11_leaderAt (mi 2 rfl) rfl (m_reqOk hst (pk_in 1 3 (by decide)) (by decide) (by decide)) rfl rfl rfl (by decide) (Nat.le_of_ble_eq_true rfl) (by decide) ?_
    refine ex_aload_n ok_X11_leaderAt (mi 3 rfl) rfl ?_
    refine ex_getRx ok_X11_leaderAt (mi 4 rfl) rfl rfl (fk f.1 0 rfl) (fr f.1 13 rfl) (fk f.1 10 rfl) (by decide) ?_
    refine ex_iload_n ok_X11_leaderAt (mi 5 rfl) rfl ?_
    refine ex_aaldx (n := 1) ok_X11_leaderAt (mi 6 rfl) (by decide) (fk f.1 10 rfl) (fn f.1 10 rfl) (pk_in 1 3 (by decide)) (fo f.2.1 1 rfl) (fk f.1 22 rfl) (by decide) ?_
    refine ex_aret ok_X11_leaderAt (mi 7 rfl) rfl ?_
    exact ⟨rfl, rfl⟩
  refine ex_astore_n ok_X11_propose (mi 3 rfl) ?_
  refine ex_iload_n ok_X11_propose (mi 4 rfl) rfl ?_
  refine ex_iconst ok_X11_propose (mi 5 rfl) ?_
  refine ex_icmp_lt (tgt := 17) ok_X11_propose (mi 6 rfl) rfl (fun h8 => ?_) (fun h8 => ?_)
  · skip
    refine ex_throw (e := 101) ok_X11_propose (mi 10 rfl) (mi 11 rfl) (mi 12 rfl) (mi 13 rfl) (mi 14 rfl) (by decide) tx_85_89 (List.mem_of_getElem? (i := 3) rfl) rfl (by decide) (by decide) (Nat.le_of_ble_eq_true rfl) (fun n hn => ?_)
    exact ⟨Or.inr ⟨by decide, rfl⟩, kpZ kp0 hn⟩
  · skip
    refine ex_iload_n ok_X11_propose (mi 7 rfl) rfl ?_
    refine ex_ldc ok_X11_propose (mi 8 rfl) rfl ?_
    refine ex_icmp_le (tgt := 27) ok_X11_propose (mi 9 rfl) rfl (fun h14 => False.elim (c1 ⟨by rw [← Int32.not_lt]; exact h8, h14⟩)) (fun h14 => ?_)
    refine ex_throw (e := 101) ok_X11_propose (mi 10 rfl) (mi 11 rfl) (mi 12 rfl) (mi 13 rfl) (mi 14 rfl) (by decide) tx_85_89 (List.mem_of_getElem? (i := 3) rfl) rfl (by decide) (by decide) (Nat.le_of_ble_eq_true rfl) (fun n hn => ?_)
    exact ⟨Or.inr ⟨by decide, rfl⟩, kpZ kp0 hn⟩
theorem c_propose_1_k {G : GE} (hst : (ge_l G).stackTraces = false) {x : Nat} {p1 : Int32} (c1 : nI 1 ≤ p1 ∧ p1 ≤ nI 1000000) : CC G 4 4 24 my_X11_propose x [.int (nI 1), .int p1] E3 0 ((-1)) := by
  intro h f
  refine ex_M_of ok_X11_propose cw_X11_propose rfl hst (Nat.le_of_ble_eq_true rfl) ?_
  refine ex_aload_n ok_X11_propose (mi 0 rfl) rfl ?_
  refine ex_iload_n ok_X11_propose (mi 1 rfl) rfl ?_
  refine ex_callVr (As := [_]) (v := some (.ref (x + 826))) (g1 := h) ok_X11_propose (mi 2 rfl) rfl ?c rfl (fk f.1 0 rfl) rfl rfl (by decide) (by decide) (Nat.le_of_ble_eq_true rfl) (by decide) ?_
  case c =>
    refine ex_M_of ok_X11_leaderAt cw_X11_leaderAt rfl hst (Nat.le_of_ble_eq_true rfl) ?_
    refine ex_iload_n ok_X11_leaderAt (mi 0 rfl) rfl ?_
    refine ex_iconst ok_X11_leaderAt (mi 1 rfl) ?_
    refine ex_callSr (As := [_, _]) ok_X11_leaderAt (mi 2 rfl) rfl (m_reqOk hst (pk_in 1 3 (by decide)) (by decide) (by decide)) rfl rfl rfl (by decide) (Nat.le_of_ble_eq_true rfl) (by decide) ?_
    refine ex_aload_n ok_X11_leaderAt (mi 3 rfl) rfl ?_
    refine ex_getRx ok_X11_leaderAt (mi 4 rfl) rfl rfl (fk f.1 0 rfl) (fr f.1 13 rfl) (fk f.1 10 rfl) (by decide) ?_
    refine ex_iload_n ok_X11_leaderAt (mi 5 rfl) rfl ?_
    refine ex_aaldx (n := 1) ok_X11_leaderAt (mi 6 rfl) (by decide) (fk f.1 10 rfl) (fn f.1 10 rfl) (pk_in 1 3 (by decide)) (fo f.2.1 1 rfl) (fk f.1 22 rfl) (by decide) ?_
    refine ex_aret ok_X11_leaderAt (mi 7 rfl) rfl ?_
    exact ⟨rfl, rfl⟩
  refine ex_astore_n ok_X11_propose (mi 3 rfl) ?_
  refine ex_iload_n ok_X11_propose (mi 4 rfl) rfl ?_
  refine ex_iconst ok_X11_propose (mi 5 rfl) ?_
  refine ex_icmp_lt (tgt := 17) ok_X11_propose (mi 6 rfl) rfl (fun h8 => False.elim (absurd c1.1 (by rw [Int32.not_le]; exact h8))) (fun h8 => ?_)
  refine ex_iload_n ok_X11_propose (mi 7 rfl) rfl ?_
  refine ex_ldc ok_X11_propose (mi 8 rfl) rfl ?_
  refine ex_icmp_le (tgt := 27) ok_X11_propose (mi 9 rfl) rfl (fun h14 => ?_) (fun h14 => False.elim (h14 c1.2))
  refine ex_aload_n ok_X11_propose (mi 15 rfl) rfl ?_
  refine ex_iload_n ok_X11_propose (mi 16 rfl) rfl ?_
  refine ex_callVr (As := [_]) (v := none) (g1 := h) ok_X11_propose (mi 17 rfl) rfl ?c rfl (fk f.1 0 rfl) rfl rfl (by decide) (by decide) (Nat.le_of_ble_eq_true rfl) (by decide) ?_
  case c =>
    refine ex_M_of ok_X11_requireUp cw_X11_requireUp rfl hst (Nat.le_of_ble_eq_true rfl) ?_
    refine ex_aload_n ok_X11_requireUp (mi 0 rfl) rfl ?_
    refine ex_iconst ok_X11_requireUp (mi 1 rfl) ?_
    refine ex_iload_n ok_X11_requireUp (mi 2 rfl) rfl ?_
    refine ex_callVr (As := [_, _]) (v := some (.int (nI 1))) (g1 := h) ok_X11_requireUp (mi 3 rfl) rfl ?c rfl (fk f.1 0 rfl) rfl rfl (by decide) (by decide) (Nat.le_of_ble_eq_true rfl) (by decide) ?_
    case c =>
      refine ex_M_of ok_X11_isUp cw_X11_isUp rfl hst (Nat.le_of_ble_eq_true rfl) ?_
      refine ex_iload_n ok_X11_isUp (mi 0 rfl) rfl ?_
      refine ex_if_lt (tgt := 38) ok_X11_isUp (mi 1 rfl) rfl (fun hn => absurd hn (by decide)) (fun _ => ?_)
      refine ex_iload_n ok_X11_isUp (mi 2 rfl) rfl ?_
      refine ex_iconst ok_X11_isUp (mi 3 rfl) ?_
      refine ex_icmp_ge (tgt := 38) ok_X11_isUp (mi 4 rfl) rfl (fun hn => absurd hn (by decide)) (fun _ => ?_)
      refine ex_iload_n ok_X11_isUp (mi 5 rfl) rfl ?_
      refine ex_if_lt (tgt := 38) ok_X11_isUp (mi 6 rfl) rfl (fun hn => absurd hn (by decide)) (fun _ => ?_)
      refine ex_iload_n ok_X11_isUp (mi 7 rfl) rfl ?_
      refine ex_iload_n ok_X11_isUp (mi 8 rfl) rfl ?_
      refine ex_callSr (As := [_]) (v := some (.int (nI 3))) (g1 := h) ok_X11_isUp (mi 9 rfl) rfl ?c rfl rfl rfl (by decide) (Nat.le_of_ble_eq_true rfl) (by decide) ?_
      case c =>
        refine ex_M_of ok_X11_nodesOf cw_X11_nodesOf rfl hst (Nat.le_of_ble_eq_true rfl) ?_
        refine ex_iload_n ok_X11_nodesOf (mi 0 rfl) rfl ?_
        refine ex_tblk (tgt := 32) ok_X11_nodesOf (mi 1 rfl) (by decide) (by decide) (by decide) (by decide) ?_
        refine ex_iconst ok_X11_nodesOf (mi 2 rfl) ?_
        refine ex_iret ok_X11_nodesOf (mi 3 rfl) rfl ?_
        exact ⟨inlI (by decide), rfl⟩
      refine ex_icmp_ge (tgt := 38) ok_X11_isUp (mi 10 rfl) rfl (fun hn => absurd hn (by decide)) (fun _ => ?_)
      refine ex_aload_n ok_X11_isUp (mi 11 rfl) rfl ?_
      refine ex_getRx ok_X11_isUp (mi 12 rfl) rfl rfl (fk f.1 0 rfl) (fr f.1 12 rfl) (fk f.1 9 rfl) (by decide) ?_
      refine ex_iload_n ok_X11_isUp (mi 13 rfl) rfl ?_
      refine ex_ialdx ok_X11_isUp (mi 14 rfl) (Or.inl (fk f.1 9 rfl)) (fn f.1 9 rfl) (pk_in 0 4 (by decide)) (fe f.2.2.2.2 0 rfl) ?_
      refine ex_iload_n ok_X11_isUp (mi 15 rfl) rfl ?_
      refine ex_ishr ok_X11_isUp (mi 16 rfl) ?_
      refine ex_top (w := (nI 3)) (by decide) ?_
      refine ex_iconst ok_X11_isUp (mi 17 rfl) ?_
      refine ex_iand ok_X11_isUp (mi 18 rfl) ?_
      refine ex_top (w := (nI 1)) (by decide) ?_
      refine ex_if_eq (tgt := 38) ok_X11_isUp (mi 19 rfl) rfl (fun hn => absurd hn (by decide)) (fun _ => ?_)
      refine ex_iconst ok_X11_isUp (mi 20 rfl) ?_
      refine ex_goto (tgt := 39) ok_X11_isUp (mi 21 rfl) rfl ?_
      refine ex_zret ok_X11_isUp (mi 23 rfl) rfl (by decide) ?_
      exact ⟨inlI (by decide), rfl⟩
    refine ex_if_ne (tgt := 20) ok_X11_requireUp (mi 4 rfl) rfl (fun _ => ?_) (fun hn => absurd hn (by decide))
    refine ex_vret ok_X11_requireUp (mi 10 rfl) rfl ?_
    exact ⟨rfl, rfl⟩
  refine ex_aload_n ok_X11_propose (mi 18 rfl) rfl ?_
  refine ex_iload_n ok_X11_propose (mi 19 rfl) rfl ?_
  refine ex_callVr (As := [_]) (v := some (.int (-1))) (g1 := h) ok_X11_propose (mi 20 rfl) rfl ?c rfl (fk f.1 22 rfl) rfl rfl (by decide) (by decide) (Nat.le_of_ble_eq_true rfl) (by decide) ?_
  case c =>
    refine ex_M_of ok_X5_proposeNext cw_X5_proposeNext rfl hst (Nat.le_of_ble_eq_true rfl) ?_
    refine ex_aload_n ok_X5_proposeNext (mi 0 rfl) rfl ?_
    refine ex_getIx ok_X5_proposeNext (mi 1 rfl) rfl rfl (fk f.1 22 rfl) (fi f.2.2.1 61 rfl) ?_
    refine ex_iconst ok_X5_proposeNext (mi 2 rfl) ?_
    refine ex_icmp_ne (tgt := 17) ok_X5_proposeNext (mi 3 rfl) rfl (fun _ => ?_) (fun hn => absurd hn (by decide))
    refine ex_iconst ok_X5_proposeNext (mi 8 rfl) ?_
    refine ex_iret ok_X5_proposeNext (mi 9 rfl) rfl ?_
    exact ⟨inlI (by decide), rfl⟩
  refine ex_iret ok_X11_propose (mi 21 rfl) rfl ?_
  exact ⟨Or.inl ⟨rfl, inlI (by decide)⟩, kp0⟩
theorem c_collect_1 {G : GE} (hst : (ge_l G).stackTraces = false) {x : Nat}  : CC G 4 4 24 my_X11_collect x [.int (nI 1)] E2 0 (nI 0) := by
  intro h f
  refine ex_M_of ok_X11_collect cw_X11_collect rfl hst (Nat.le_of_ble_eq_true rfl) ?_
  refine ex_aload_n ok_X11_collect (mi 0 rfl) rfl ?_
  refine ex_iload_n ok_X11_collect (mi 1 rfl) rfl ?_
  refine ex_callVr (As := [_]) (v := some (.ref (x + 826))) (g1 := h) ok_X11_collect (mi 2 rfl) rfl ?c rfl (fk f.1 0 rfl) rfl rfl (by decide) (by decide) (Nat.le_of_ble_eq_true rfl) (by decide) ?_
  case c =>
    refine ex_M_of ok_X11_leaderAt cw_X11_leaderAt rfl hst (Nat.le_of_ble_eq_true rfl) ?_
    refine ex_iload_n ok_X11_leaderAt (mi 0 rfl) rfl ?_
    refine ex_iconst ok_X11_leaderAt (mi 1 rfl) ?_
    refine ex_callSr (As := [_, _]) ok_X11_leaderAt (mi 2 rfl) rfl (m_reqOk hst (pk_in 1 3 (by decide)) (by decide) (by decide)) rfl rfl rfl (by decide) (Nat.le_of_ble_eq_true rfl) (by decide) ?_
    refine ex_aload_n ok_X11_leaderAt (mi 3 rfl) rfl ?_
    refine ex_getRx ok_X11_leaderAt (mi 4 rfl) rfl rfl (fk f.1 0 rfl) (fr f.1 13 rfl) (fk f.1 10 rfl) (by decide) ?_
    refine ex_iload_n ok_X11_leaderAt (mi 5 rfl) rfl ?_
    refine ex_aaldx (n := 1) ok_X11_leaderAt (mi 6 rfl) (by decide) (fk f.1 10 rfl) (fn f.1 10 rfl) (pk_in 1 3 (by decide)) (fo f.2.1 1 rfl) (fk f.1 22 rfl) (by decide) ?_
    refine ex_aret ok_X11_leaderAt (mi 7 rfl) rfl ?_
    exact ⟨rfl, rfl⟩
  refine ex_astore_n ok_X11_collect (mi 3 rfl) ?_
  refine ex_aload_n ok_X11_collect (mi 4 rfl) rfl ?_
  refine ex_iload_n ok_X11_collect (mi 5 rfl) rfl ?_
  refine ex_callVr (As := [_]) (v := none) (g1 := h) ok_X11_collect (mi 6 rfl) rfl ?c rfl (fk f.1 0 rfl) rfl rfl (by decide) (by decide) (Nat.le_of_ble_eq_true rfl) (by decide) ?_
  case c =>
    refine ex_M_of ok_X11_requireUp cw_X11_requireUp rfl hst (Nat.le_of_ble_eq_true rfl) ?_
    refine ex_aload_n ok_X11_requireUp (mi 0 rfl) rfl ?_
    refine ex_iconst ok_X11_requireUp (mi 1 rfl) ?_
    refine ex_iload_n ok_X11_requireUp (mi 2 rfl) rfl ?_
    refine ex_callVr (As := [_, _]) (v := some (.int (nI 1))) (g1 := h) ok_X11_requireUp (mi 3 rfl) rfl ?c rfl (fk f.1 0 rfl) rfl rfl (by decide) (by decide) (Nat.le_of_ble_eq_true rfl) (by decide) ?_
    case c =>
      refine ex_M_of ok_X11_isUp cw_X11_isUp rfl hst (Nat.le_of_ble_eq_true rfl) ?_
      refine ex_iload_n ok_X11_isUp (mi 0 rfl) rfl ?_
      refine ex_if_lt (tgt := 38) ok_X11_isUp (mi 1 rfl) rfl (fun hn => absurd hn (by decide)) (fun _ => ?_)
      refine ex_iload_n ok_X11_isUp (mi 2 rfl) rfl ?_
      refine ex_iconst ok_X11_isUp (mi 3 rfl) ?_
      refine ex_icmp_ge (tgt := 38) ok_X11_isUp (mi 4 rfl) rfl (fun hn => absurd hn (by decide)) (fun _ => ?_)
      refine ex_iload_n ok_X11_isUp (mi 5 rfl) rfl ?_
      refine ex_if_lt (tgt := 38) ok_X11_isUp (mi 6 rfl) rfl (fun hn => absurd hn (by decide)) (fun _ => ?_)
      refine ex_iload_n ok_X11_isUp (mi 7 rfl) rfl ?_
      refine ex_iload_n ok_X11_isUp (mi 8 rfl) rfl ?_
      refine ex_callSr (As := [_]) (v := some (.int (nI 3))) (g1 := h) ok_X11_isUp (mi 9 rfl) rfl ?c rfl rfl rfl (by decide) (Nat.le_of_ble_eq_true rfl) (by decide) ?_
      case c =>
        refine ex_M_of ok_X11_nodesOf cw_X11_nodesOf rfl hst (Nat.le_of_ble_eq_true rfl) ?_
        refine ex_iload_n ok_X11_nodesOf (mi 0 rfl) rfl ?_
        refine ex_tblk (tgt := 32) ok_X11_nodesOf (mi 1 rfl) (by decide) (by decide) (by decide) (by decide) ?_
        refine ex_iconst ok_X11_nodesOf (mi 2 rfl) ?_
        refine ex_iret ok_X11_nodesOf (mi 3 rfl) rfl ?_
        exact ⟨inlI (by decide), rfl⟩
      refine ex_icmp_ge (tgt := 38) ok_X11_isUp (mi 10 rfl) rfl (fun hn => absurd hn (by decide)) (fun _ => ?_)
      refine ex_aload_n ok_X11_isUp (mi 11 rfl) rfl ?_
      refine ex_getRx ok_X11_isUp (mi 12 rfl) rfl rfl (fk f.1 0 rfl) (fr f.1 12 rfl) (fk f.1 9 rfl) (by decide) ?_
      refine ex_iload_n ok_X11_isUp (mi 13 rfl) rfl ?_
      refine ex_ialdx ok_X11_isUp (mi 14 rfl) (Or.inl (fk f.1 9 rfl)) (fn f.1 9 rfl) (pk_in 0 4 (by decide)) (fe f.2.2.2.2 0 rfl) ?_
      refine ex_iload_n ok_X11_isUp (mi 15 rfl) rfl ?_
      refine ex_ishr ok_X11_isUp (mi 16 rfl) ?_
      refine ex_top (w := (nI 3)) (by decide) ?_
      refine ex_iconst ok_X11_isUp (mi 17 rfl) ?_
      refine ex_iand ok_X11_isUp (mi 18 rfl) ?_
      refine ex_top (w := (nI 1)) (by decide) ?_
      refine ex_if_eq (tgt := 38) ok_X11_isUp (mi 19 rfl) rfl (fun hn => absurd hn (by decide)) (fun _ => ?_)
      refine ex_iconst ok_X11_isUp (mi 20 rfl) ?_
      refine ex_goto (tgt := 39) ok_X11_isUp (mi 21 rfl) rfl ?_
      refine ex_zret ok_X11_isUp (mi 23 rfl) rfl (by decide) ?_
      exact ⟨inlI (by decide), rfl⟩
    refine ex_if_ne (tgt := 20) ok_X11_requireUp (mi 4 rfl) rfl (fun _ => ?_) (fun hn => absurd hn (by decide))
    refine ex_vret ok_X11_requireUp (mi 10 rfl) rfl ?_
    exact ⟨rfl, rfl⟩
  refine ex_aload_n ok_X11_collect (mi 7 rfl) rfl ?_
  refine ex_callVr (As := []) (v := some (.int (nI 0))) (g1 := h) ok_X11_collect (mi 8 rfl) rfl ?c rfl (fk f.1 22 rfl) rfl rfl (by decide) (by decide) (Nat.le_of_ble_eq_true rfl) (by decide) ?_
  case c =>
    refine ex_M_of ok_X5_startCollecting cw_X5_startCollecting rfl hst (Nat.le_of_ble_eq_true rfl) ?_
    refine ex_aload_n ok_X5_startCollecting (mi 0 rfl) rfl ?_
    refine ex_getIx ok_X5_startCollecting (mi 1 rfl) rfl rfl (fk f.1 22 rfl) (fi f.2.2.1 61 rfl) ?_
    refine ex_iconst ok_X5_startCollecting (mi 2 rfl) ?_
    refine ex_icmp_ne (tgt := 29) ok_X5_startCollecting (mi 3 rfl) rfl (fun _ => ?_) (fun hn => absurd hn (by decide))
    refine ex_iconst ok_X5_startCollecting (mi 13 rfl) ?_
    refine ex_zret ok_X5_startCollecting (mi 14 rfl) rfl (by decide) ?_
    exact ⟨inlI (by decide), rfl⟩
  refine ex_zret ok_X11_collect (mi 9 rfl) rfl (by decide) ?_
  exact ⟨Or.inl ⟨rfl, inlI (by decide)⟩, kp0⟩
