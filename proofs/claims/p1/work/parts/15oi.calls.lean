theorem c_leader_2_4 {G : GE} (hst : (ge_l G).stackTraces = false) {x : Nat}  : CC G 4 4 24 my_X11_leader x [.int (nI 2), .int (nI 4)] E3 0 (nI 7) := by
  intro h f
  refine ex_M_of ok_X11_leader cw_X11_leader rfl hst (Nat.le_of_ble_eq_true rfl) ?_
  refine ex_aload_n ok_X11_leader (mi 0 rfl) rfl ?_
  refine ex_iload_n ok_X11_leader (mi 1 rfl) rfl ?_
  refine ex_callVr (As := [_]) (v := some (.ref (x + 837))) (g1 := h) ok_X11_leader (mi 2 rfl) rfl ?c rfl (fk f.1 0 rfl) rfl rfl (by decide) (by decide) (Nat.le_of_ble_eq_true rfl) (by decide) ?_
  case c =>
    refine ex_M_of ok_X11_leaderAt cw_X11_leaderAt rfl hst (Nat.le_of_ble_eq_true rfl) ?_
    refine ex_iload_n ok_X11_leaderAt (mi 0 rfl) rfl ?_
    refine ex_iconst ok_X11_leaderAt (mi 1 rfl) ?_
    refine ex_callSr (As := [_, _]) ok_X11_leaderAt (mi 2 rfl) rfl (m_reqOk hst (pk_in 2 3 (by decide)) (by decide) (by decide)) rfl rfl rfl (by decide) (Nat.le_of_ble_eq_true rfl) (by decide) ?_
    refine ex_aload_n ok_X11_leaderAt (mi 3 rfl) rfl ?_
    refine ex_getRx ok_X11_leaderAt (mi 4 rfl) rfl rfl (fk f.1 0 rfl) (fr f.1 13 rfl) (fk f.1 10 rfl) (by decide) ?_
    refine ex_iload_n ok_X11_leaderAt (mi 5 rfl) rfl ?_
    refine ex_aaldx (n := 1) ok_X11_leaderAt (mi 6 rfl) (by decide) (fk f.1 10 rfl) (fn f.1 10 rfl) (pk_in 2 3 (by decide)) (fo f.2.1 2 rfl) (fk f.1 33 rfl) (by decide) ?_
    refine ex_aret ok_X11_leaderAt (mi 7 rfl) rfl ?_
    exact ⟨rfl, rfl⟩
  refine ex_astore_n ok_X11_leader (mi 3 rfl) ?_
  refine ex_iload_n ok_X11_leader (mi 4 rfl) rfl ?_
  refine ex_bipush ok_X11_leader (mi 5 rfl) ?_
  refine ex_callSr (As := [_, _]) ok_X11_leader (mi 6 rfl) rfl (m_reqOk hst (pk_in 4 14 (by decide)) (by decide) (by decide)) rfl rfl rfl (by decide) (Nat.le_of_ble_eq_true rfl) (by decide) ?_
  refine ex_aload_n ok_X11_leader (mi 7 rfl) rfl ?_
  refine ex_iload_n ok_X11_leader (mi 8 rfl) rfl ?_
  refine ex_callVr (As := [_]) (v := some (.int (nI 7))) (g1 := h) ok_X11_leader (mi 9 rfl) rfl ?c rfl (fk f.1 33 rfl) rfl rfl (by decide) (by decide) (Nat.le_of_ble_eq_true rfl) (by decide) ?_
  case c =>
    refine ex_M_of ok_X5_tell cw_X5_tell rfl hst (Nat.le_of_ble_eq_true rfl) ?_
    refine ex_iload_n ok_X5_tell (mi 0 rfl) rfl ?_
    refine ex_tblk (tgt := 95) ok_X5_tell (mi 1 rfl) (by decide) (by decide) (by decide) (by decide) ?_
    refine ex_aload_n ok_X5_tell (mi 15 rfl) rfl ?_
    refine ex_getRx ok_X5_tell (mi 16 rfl) rfl rfl (fk f.1 33 rfl) (fr f.1 42 rfl) (fk f.1 36 rfl) (by decide) ?_
    refine ex_getIx ok_X5_tell (mi 17 rfl) rfl rfl (fk f.1 36 rfl) (fi f.2.2.1 89 rfl) ?_
    refine ex_iret ok_X5_tell (mi 18 rfl) rfl ?_
    exact ⟨inlI (by decide), rfl⟩
  refine ex_iret ok_X11_leader (mi 10 rfl) rfl ?_
  exact ⟨Or.inl ⟨rfl, inlI (by decide)⟩, kp0⟩
theorem c_leader_2_5 {G : GE} (hst : (ge_l G).stackTraces = false) {x : Nat}  : CC G 4 4 24 my_X11_leader x [.int (nI 2), .int (nI 5)] E3 0 (nI 0) := by
  intro h f
  refine ex_M_of ok_X11_leader cw_X11_leader rfl hst (Nat.le_of_ble_eq_true rfl) ?_
  refine ex_aload_n ok_X11_leader (mi 0 rfl) rfl ?_
  refine ex_iload_n ok_X11_leader (mi 1 rfl) rfl ?_
  refine ex_callVr (As := [_]) (v := some (.ref (x + 837))) (g1 := h) ok_X11_leader (mi 2 rfl) rfl ?c rfl (fk f.1 0 rfl) rfl rfl (by decide) (by decide) (Nat.le_of_ble_eq_true rfl) (by decide) ?_
  case c =>
    refine ex_M_of ok_X11_leaderAt cw_X11_leaderAt rfl hst (Nat.le_of_ble_eq_true rfl) ?_
    refine ex_iload_n ok_X11_leaderAt (mi 0 rfl) rfl ?_
    refine ex_iconst ok_X11_leaderAt (mi 1 rfl) ?_
    refine ex_callSr (As := [_, _]) ok_X11_leaderAt (mi 2 rfl) rfl (m_reqOk hst (pk_in 2 3 (by decide)) (by decide) (by decide)) rfl rfl rfl (by decide) (Nat.le_of_ble_eq_true rfl) (by decide) ?_
    refine ex_aload_n ok_X11_leaderAt (mi 3 rfl) rfl ?_
    refine ex_getRx ok_X11_leaderAt (mi 4 rfl) rfl rfl (fk f.1 0 rfl) (fr f.1 13 rfl) (fk f.1 10 rfl) (by decide) ?_
    refine ex_iload_n ok_X11_leaderAt (mi 5 rfl) rfl ?_
    refine ex_aaldx (n := 1) ok_X11_leaderAt (mi 6 rfl) (by decide) (fk f.1 10 rfl) (fn f.1 10 rfl) (pk_in 2 3 (by decide)) (fo f.2.1 2 rfl) (fk f.1 33 rfl) (by decide) ?_
    refine ex_aret ok_X11_leaderAt (mi 7 rfl) rfl ?_
    exact ⟨rfl, rfl⟩
  refine ex_astore_n ok_X11_leader (mi 3 rfl) ?_
  refine ex_iload_n ok_X11_leader (mi 4 rfl) rfl ?_
  refine ex_bipush ok_X11_leader (mi 5 rfl) ?_
  refine ex_callSr (As := [_, _]) ok_X11_leader (mi 6 rfl) rfl (m_reqOk hst (pk_in 5 14 (by decide)) (by decide) (by decide)) rfl rfl rfl (by decide) (Nat.le_of_ble_eq_true rfl) (by decide) ?_
  refine ex_aload_n ok_X11_leader (mi 7 rfl) rfl ?_
  refine ex_iload_n ok_X11_leader (mi 8 rfl) rfl ?_
  refine ex_callVr (As := [_]) (v := some (.int (nI 0))) (g1 := h) ok_X11_leader (mi 9 rfl) rfl ?c rfl (fk f.1 33 rfl) rfl rfl (by decide) (by decide) (Nat.le_of_ble_eq_true rfl) (by decide) ?_
  case c =>
    refine ex_M_of ok_X5_tell cw_X5_tell rfl hst (Nat.le_of_ble_eq_true rfl) ?_
    refine ex_iload_n ok_X5_tell (mi 0 rfl) rfl ?_
    refine ex_tblk (tgt := 103) ok_X5_tell (mi 1 rfl) (by decide) (by decide) (by decide) (by decide) ?_
    refine ex_aload_n ok_X5_tell (mi 19 rfl) rfl ?_
    refine ex_getRx ok_X5_tell (mi 20 rfl) rfl rfl (fk f.1 33 rfl) (fr f.1 45 rfl) (fk f.1 34 rfl) (by decide) ?_
    refine ex_callSr (As := [_]) ok_X5_tell (mi 21 rfl) rfl (m_X7_size0 hst (sh_sub 838 f.1 (by decide +kernel) (by decide +kernel)) (tA_sub 838 10 (nI 0) f.2.2.2.1 (by decide +kernel))) rfl rfl rfl (by decide) (Nat.le_of_ble_eq_true rfl) (by decide) ?_
    refine ex_iret ok_X5_tell (mi 22 rfl) rfl ?_
    exact ⟨inlI (by decide), rfl⟩
  refine ex_iret ok_X11_leader (mi 10 rfl) rfl ?_
  exact ⟨Or.inl ⟨rfl, inlI (by decide)⟩, kp0⟩
theorem c_leader_2_6 {G : GE} (hst : (ge_l G).stackTraces = false) {x : Nat}  : CC G 4 4 24 my_X11_leader x [.int (nI 2), .int (nI 6)] E3 0 (nI 0) := by
  intro h f
  refine ex_M_of ok_X11_leader cw_X11_leader rfl hst (Nat.le_of_ble_eq_true rfl) ?_
  refine ex_aload_n ok_X11_leader (mi 0 rfl) rfl ?_
  refine ex_iload_n ok_X11_leader (mi 1 rfl) rfl ?_
  refine ex_callVr (As := [_]) (v := some (.ref (x + 837))) (g1 := h) ok_X11_leader (mi 2 rfl) rfl ?c rfl (fk f.1 0 rfl) rfl rfl (by decide) (by decide) (Nat.le_of_ble_eq_true rfl) (by decide) ?_
  case c =>
    refine ex_M_of ok_X11_leaderAt cw_X11_leaderAt rfl hst (Nat.le_of_ble_eq_true rfl) ?_
    refine ex_iload_n ok_X11_leaderAt (mi 0 rfl) rfl ?_
    refine ex_iconst ok_X11_leaderAt (mi 1 rfl) ?_
    refine ex_callSr (As := [_, _]) ok_X11_leaderAt (mi 2 rfl) rfl (m_reqOk hst (pk_in 2 3 (by decide)) (by decide) (by decide)) rfl rfl rfl (by decide) (Nat.le_of_ble_eq_true rfl) (by decide) ?_
    refine ex_aload_n ok_X11_leaderAt (mi 3 rfl) rfl ?_
    refine ex_getRx ok_X11_leaderAt (mi 4 rfl) rfl rfl (fk f.1 0 rfl) (fr f.1 13 rfl) (fk f.1 10 rfl) (by decide) ?_
    refine ex_iload_n ok_X11_leaderAt (mi 5 rfl) rfl ?_
    refine ex_aaldx (n := 1) ok_X11_leaderAt (mi 6 rfl) (by decide) (fk f.1 10 rfl) (fn f.1 10 rfl) (pk_in 2 3 (by decide)) (fo f.2.1 2 rfl) (fk f.1 33 rfl) (by decide) ?_
    refine ex_aret ok_X11_leaderAt (mi 7 rfl) rfl ?_
    exact ⟨rfl, rfl⟩
  refine ex_astore_n ok_X11_leader (mi 3 rfl) ?_
  refine ex_iload_n ok_X11_leader (mi 4 rfl) rfl ?_
  refine ex_bipush ok_X11_leader (mi 5 rfl) ?_
  refine ex_callSr (As := [_, _]) ok_X11_leader (mi 6 rfl) rfl (m_reqOk hst (pk_in 6 14 (by decide)) (by decide) (by decide)) rfl rfl rfl (by decide) (Nat.le_of_ble_eq_true rfl) (by decide) ?_
  refine ex_aload_n ok_X11_leader (mi 7 rfl) rfl ?_
  refine ex_iload_n ok_X11_leader (mi 8 rfl) rfl ?_
  refine ex_callVr (As := [_]) (v := some (.int (nI 0))) (g1 := h) ok_X11_leader (mi 9 rfl) rfl ?c rfl (fk f.1 33 rfl) rfl rfl (by decide) (by decide) (Nat.le_of_ble_eq_true rfl) (by decide) ?_
  case c =>
    refine ex_M_of ok_X5_tell cw_X5_tell rfl hst (Nat.le_of_ble_eq_true rfl) ?_
    refine ex_iload_n ok_X5_tell (mi 0 rfl) rfl ?_
    refine ex_tblk (tgt := 161) ok_X5_tell (mi 1 rfl) (by decide) (by decide) (by decide) (by decide) ?_
    refine ex_aload_n ok_X5_tell (mi 47 rfl) rfl ?_
    refine ex_getIx ok_X5_tell (mi 48 rfl) rfl rfl (fk f.1 33 rfl) (fi f.2.2.1 85 rfl) ?_
    refine ex_iconst ok_X5_tell (mi 49 rfl) ?_
    refine ex_icmp_ne (tgt := 177) ok_X5_tell (mi 50 rfl) rfl (fun _ => ?_) (fun hn => absurd hn (by decide))
    refine ex_iconst ok_X5_tell (mi 55 rfl) ?_
    refine ex_iret ok_X5_tell (mi 56 rfl) rfl ?_
    exact ⟨inlI (by decide), rfl⟩
  refine ex_iret ok_X11_leader (mi 10 rfl) rfl ?_
  exact ⟨Or.inl ⟨rfl, inlI (by decide)⟩, kp0⟩
theorem c_leader_2_7 {G : GE} (hst : (ge_l G).stackTraces = false) {x : Nat}  : CC G 4 4 24 my_X11_leader x [.int (nI 2), .int (nI 7)] E3 0 (nI 0) := by
  intro h f
  refine ex_M_of ok_X11_leader cw_X11_leader rfl hst (Nat.le_of_ble_eq_true rfl) ?_
  refine ex_aload_n ok_X11_leader (mi 0 rfl) rfl ?_
  refine ex_iload_n ok_X11_leader (mi 1 rfl) rfl ?_
  refine ex_callVr (As := [_]) (v := some (.ref (x + 837))) (g1 := h) ok_X11_leader (mi 2 rfl) rfl ?c rfl (fk f.1 0 rfl) rfl rfl (by decide) (by decide) (Nat.le_of_ble_eq_true rfl) (by decide) ?_
  case c =>
    refine ex_M_of ok_X11_leaderAt cw_X11_leaderAt rfl hst (Nat.le_of_ble_eq_true rfl) ?_
    refine ex_iload_n ok_X11_leaderAt (mi 0 rfl) rfl ?_
    refine ex_iconst ok_X11_leaderAt (mi 1 rfl) ?_
    refine ex_callSr (As := [_, _]) ok_X11_leaderAt (mi 2 rfl) rfl (m_reqOk hst (pk_in 2 3 (by decide)) (by decide) (by decide)) rfl rfl rfl (by decide) (Nat.le_of_ble_eq_true rfl) (by decide) ?_
    refine ex_aload_n ok_X11_leaderAt (mi 3 rfl) rfl ?_
    refine ex_getRx ok_X11_leaderAt (mi 4 rfl) rfl rfl (fk f.1 0 rfl) (fr f.1 13 rfl) (fk f.1 10 rfl) (by decide) ?_
    refine ex_iload_n ok_X11_leaderAt (mi 5 rfl) rfl ?_
    refine ex_aaldx (n := 1) ok_X11_leaderAt (mi 6 rfl) (by decide) (fk f.1 10 rfl) (fn f.1 10 rfl) (pk_in 2 3 (by decide)) (fo f.2.1 2 rfl) (fk f.1 33 rfl) (by decide) ?_
    refine ex_aret ok_X11_leaderAt (mi 7 rfl) rfl ?_
    exact ⟨rfl, rfl⟩
  refine ex_astore_n ok_X11_leader (mi 3 rfl) ?_
  refine ex_iload_n ok_X11_leader (mi 4 rfl) rfl ?_
  refine ex_bipush ok_X11_leader (mi 5 rfl) ?_
  refine ex_callSr (As := [_, _]) ok_X11_leader (mi 6 rfl) rfl (m_reqOk hst (pk_in 7 14 (by decide)) (by decide) (by decide)) rfl rfl rfl (by decide) (Nat.le_of_ble_eq_true rfl) (by decide) ?_
  refine ex_aload_n ok_X11_leader (mi 7 rfl) rfl ?_
  refine ex_iload_n ok_X11_leader (mi 8 rfl) rfl ?_
  refine ex_callVr (As := [_]) (v := some (.int (nI 0))) (g1 := h) ok_X11_leader (mi 9 rfl) rfl ?c rfl (fk f.1 33 rfl) rfl rfl (by decide) (by decide) (Nat.le_of_ble_eq_true rfl) (by decide) ?_
  case c =>
    refine ex_M_of ok_X5_tell cw_X5_tell rfl hst (Nat.le_of_ble_eq_true rfl) ?_
    refine ex_iload_n ok_X5_tell (mi 0 rfl) rfl ?_
    refine ex_tblk (tgt := 161) ok_X5_tell (mi 1 rfl) (by decide) (by decide) (by decide) (by decide) ?_
    refine ex_aload_n ok_X5_tell (mi 47 rfl) rfl ?_
    refine ex_getIx ok_X5_tell (mi 48 rfl) rfl rfl (fk f.1 33 rfl) (fi f.2.2.1 85 rfl) ?_
    refine ex_iconst ok_X5_tell (mi 49 rfl) ?_
    refine ex_icmp_ne (tgt := 177) ok_X5_tell (mi 50 rfl) rfl (fun _ => ?_) (fun hn => absurd hn (by decide))
    refine ex_iconst ok_X5_tell (mi 55 rfl) ?_
    refine ex_iret ok_X5_tell (mi 56 rfl) rfl ?_
    exact ⟨inlI (by decide), rfl⟩
  refine ex_iret ok_X11_leader (mi 10 rfl) rfl ?_
  exact ⟨Or.inl ⟨rfl, inlI (by decide)⟩, kp0⟩
theorem c_leader_2_8 {G : GE} (hst : (ge_l G).stackTraces = false) {x : Nat}  : CC G 4 4 24 my_X11_leader x [.int (nI 2), .int (nI 8)] E3 0 (nI 0) := by
  intro h f
  refine ex_M_of ok_X11_leader cw_X11_leader rfl hst (Nat.le_of_ble_eq_true rfl) ?_
  refine ex_aload_n ok_X11_leader (mi 0 rfl) rfl ?_
  refine ex_iload_n ok_X11_leader (mi 1 rfl) rfl ?_
  refine ex_callVr (As := [_]) (v := some (.ref (x + 837))) (g1 := h) ok_X11_leader (mi 2 rfl) rfl ?c rfl (fk f.1 0 rfl) rfl rfl (by decide) (by decide) (Nat.le_of_ble_eq_true rfl) (by decide) ?_
  case c =>
    refine ex_M_of ok_X11_leaderAt cw_X11_leaderAt rfl hst (Nat.le_of_ble_eq_true rfl) ?_
    refine ex_iload_n ok_X11_leaderAt (mi 0 rfl) rfl ?_
    refine ex_iconst ok_X11_leaderAt (mi 1 rfl) ?_
    refine ex_callSr (As := [_, _]) ok_X11_leaderAt (mi 2 rfl) rfl (m_reqOk hst (pk_in 2 3 (by decide)) (by decide) (by decide)) rfl rfl rfl (by decide) (Nat.le_of_ble_eq_true rfl) (by decide) ?_
    refine ex_aload_n ok_X11_leaderAt (mi 3 rfl) rfl ?_
    refine ex_getRx ok_X11_leaderAt (mi 4 rfl) rfl rfl (fk f.1 0 rfl) (fr f.1 13 rfl) (fk f.1 10 rfl) (by decide) ?_
    refine ex_iload_n ok_X11_leaderAt (mi 5 rfl) rfl ?_
    refine ex_aaldx (n := 1) ok_X11_leaderAt (mi 6 rfl) (by decide) (fk f.1 10 rfl) (fn f.1 10 rfl) (pk_in 2 3 (by decide)) (fo f.2.1 2 rfl) (fk f.1 33 rfl) (by decide) ?_
    refine ex_aret ok_X11_leaderAt (mi 7 rfl) rfl ?_
    exact ⟨rfl, rfl⟩
  refine ex_astore_n ok_X11_leader (mi 3 rfl) ?_
  refine ex_iload_n ok_X11_leader (mi 4 rfl) rfl ?_
  refine ex_bipush ok_X11_leader (mi 5 rfl) ?_
  refine ex_callSr (As := [_, _]) ok_X11_leader (mi 6 rfl) rfl (m_reqOk hst (pk_in 8 14 (by decide)) (by decide) (by decide)) rfl rfl rfl (by decide) (Nat.le_of_ble_eq_true rfl) (by decide) ?_
  refine ex_aload_n ok_X11_leader (mi 7 rfl) rfl ?_
  refine ex_iload_n ok_X11_leader (mi 8 rfl) rfl ?_
  refine ex_callVr (As := [_]) (v := some (.int (nI 0))) (g1 := h) ok_X11_leader (mi 9 rfl) rfl ?c rfl (fk f.1 33 rfl) rfl rfl (by decide) (by decide) (Nat.le_of_ble_eq_true rfl) (by decide) ?_
  case c =>
    refine ex_M_of ok_X5_tell cw_X5_tell rfl hst (Nat.le_of_ble_eq_true rfl) ?_
    refine ex_iload_n ok_X5_tell (mi 0 rfl) rfl ?_
    refine ex_tblk (tgt := 161) ok_X5_tell (mi 1 rfl) (by decide) (by decide) (by decide) (by decide) ?_
    refine ex_aload_n ok_X5_tell (mi 47 rfl) rfl ?_
    refine ex_getIx ok_X5_tell (mi 48 rfl) rfl rfl (fk f.1 33 rfl) (fi f.2.2.1 85 rfl) ?_
    refine ex_iconst ok_X5_tell (mi 49 rfl) ?_
    refine ex_icmp_ne (tgt := 177) ok_X5_tell (mi 50 rfl) rfl (fun _ => ?_) (fun hn => absurd hn (by decide))
    refine ex_iconst ok_X5_tell (mi 55 rfl) ?_
    refine ex_iret ok_X5_tell (mi 56 rfl) rfl ?_
    exact ⟨inlI (by decide), rfl⟩
  refine ex_iret ok_X11_leader (mi 10 rfl) rfl ?_
  exact ⟨Or.inl ⟨rfl, inlI (by decide)⟩, kp0⟩
theorem c_leader_2_9 {G : GE} (hst : (ge_l G).stackTraces = false) {x : Nat}  : CC G 4 4 24 my_X11_leader x [.int (nI 2), .int (nI 9)] E3 0 (nI 0) := by
  intro h f
  refine ex_M_of ok_X11_leader cw_X11_leader rfl hst (Nat.le_of_ble_eq_true rfl) ?_
  refine ex_aload_n ok_X11_leader (mi 0 rfl) rfl ?_
  refine ex_iload_n ok_X11_leader (mi 1 rfl) rfl ?_
  refine ex_callVr (As := [_]) (v := some (.ref (x + 837))) (g1 := h) ok_X11_leader (mi 2 rfl) rfl ?c rfl (fk f.1 0 rfl) rfl rfl (by decide) (by decide) (Nat.le_of_ble_eq_true rfl) (by decide) ?_
  case c =>
    refine ex_M_of ok_X11_leaderAt cw_X11_leaderAt rfl hst (Nat.le_of_ble_eq_true rfl) ?_
    refine ex_iload_n ok_X11_leaderAt (mi 0 rfl) rfl ?_
    refine ex_iconst ok_X11_leaderAt (mi 1 rfl) ?_
    refine ex_callSr (As := [_, _]) ok_X11_leaderAt (mi 2 rfl) rfl (m_reqOk hst (pk_in 2 3 (by decide)) (by decide) (by decide)) rfl rfl rfl (by decide) (Nat.le_of_ble_eq_true rfl) (by decide) ?_
    refine ex_aload_n ok_X11_leaderAt (mi 3 rfl) rfl ?_
    refine ex_getRx ok_X11_leaderAt (mi 4 rfl) rfl rfl (fk f.1 0 rfl) (fr f.1 13 rfl) (fk f.1 10 rfl) (by decide) ?_
    refine ex_iload_n ok_X11_leaderAt (mi 5 rfl) rfl ?_
    refine ex_aaldx (n := 1) ok_X11_leaderAt (mi 6 rfl) (by decide) (fk f.1 10 rfl) (fn f.1 10 rfl) (pk_in 2 3 (by decide)) (fo f.2.1 2 rfl) (fk f.1 33 rfl) (by decide) ?_
    refine ex_aret ok_X11_leaderAt (mi 7 rfl) rfl ?_
    exact ⟨rfl, rfl⟩
  refine ex_astore_n ok_X11_leader (mi 3 rfl) ?_
  refine ex_iload_n ok_X11_leader (mi 4 rfl) rfl ?_
  refine ex_bipush ok_X11_leader (mi 5 rfl) ?_
  refine ex_callSr (As := [_, _]) ok_X11_leader (mi 6 rfl) rfl (m_reqOk hst (pk_in 9 14 (by decide)) (by decide) (by decide)) rfl rfl rfl (by decide) (Nat.le_of_ble_eq_true rfl) (by decide) ?_
  refine ex_aload_n ok_X11_leader (mi 7 rfl) rfl ?_
  refine ex_iload_n ok_X11_leader (mi 8 rfl) rfl ?_
  refine ex_callVr (As := [_]) (v := some (.int (nI 0))) (g1 := h) ok_X11_leader (mi 9 rfl) rfl ?c rfl (fk f.1 33 rfl) rfl rfl (by decide) (by decide) (Nat.le_of_ble_eq_true rfl) (by decide) ?_
  case c =>
    refine ex_M_of ok_X5_tell cw_X5_tell rfl hst (Nat.le_of_ble_eq_true rfl) ?_
    refine ex_iload_n ok_X5_tell (mi 0 rfl) rfl ?_
    refine ex_tblk (tgt := 161) ok_X5_tell (mi 1 rfl) (by decide) (by decide) (by decide) (by decide) ?_
    refine ex_aload_n ok_X5_tell (mi 47 rfl) rfl ?_
    refine ex_getIx ok_X5_tell (mi 48 rfl) rfl rfl (fk f.1 33 rfl) (fi f.2.2.1 85 rfl) ?_
    refine ex_iconst ok_X5_tell (mi 49 rfl) ?_
    refine ex_icmp_ne (tgt := 177) ok_X5_tell (mi 50 rfl) rfl (fun _ => ?_) (fun hn => absurd hn (by decide))
    refine ex_iconst ok_X5_tell (mi 55 rfl) ?_
    refine ex_iret ok_X5_tell (mi 56 rfl) rfl ?_
    exact ⟨inlI (by decide), rfl⟩
  refine ex_iret ok_X11_leader (mi 10 rfl) rfl ?_
  exact ⟨Or.inl ⟨rfl, inlI (by decide)⟩, kp0⟩
theorem c_leader_2_10 {G : GE} (hst : (ge_l G).stackTraces = false) {x : Nat}  : CC G 4 4 24 my_X11_leader x [.int (nI 2), .int (nI 10)] E3 0 (nI 0) := by
  intro h f
  refine ex_M_of ok_X11_leader cw_X11_leader rfl hst (Nat.le_of_ble_eq_true rfl) ?_
  refine ex_aload_n ok_X11_leader (mi 0 rfl) rfl ?_
  refine ex_iload_n ok_X11_leader (mi 1 rfl) rfl ?_
  refine ex_callVr (As := [_]) (v := some (.ref (x + 837))) (g1 := h) ok_X11_leader (mi 2 rfl) rfl ?c rfl (fk f.1 0 rfl) rfl rfl (by decide) (by decide) (Nat.le_of_ble_eq_true rfl) (by decide) ?_
  case c =>
    refine ex_M_of ok_X11_leaderAt cw_X11_leaderAt rfl hst (Nat.le_of_ble_eq_true rfl) ?_
    refine ex_iload_n ok_X11_leaderAt (mi 0 rfl) rfl ?_
    refine ex_iconst ok_X11_leaderAt (mi 1 rfl) ?_
    refine ex_callSr (As := [_, _]) ok_X11_leaderAt (mi 2 rfl) rfl (m_reqOk hst (pk_in 2 3 (by decide)) (by decide) (by decide)) rfl rfl rfl (by decide) (Nat.le_of_ble_eq_true rfl) (by decide) ?_
    refine ex_aload_n ok_X11_leaderAt (mi 3 rfl) rfl ?_
    refine ex_getRx ok_X11_leaderAt (mi 4 rfl) rfl rfl (fk f.1 0 rfl) (fr f.1 13 rfl) (fk f.1 10 rfl) (by decide) ?_
    refine ex_iload_n ok_X11_leaderAt (mi 5 rfl) rfl ?_
    refine ex_aaldx (n := 1) ok_X11_leaderAt (mi 6 rfl) (by decide) (fk f.1 10 rfl) (fn f.1 10 rfl) (pk_in 2 3 (by decide)) (fo f.2.1 2 rfl) (fk f.1 33 rfl) (by decide) ?_
    refine ex_aret ok_X11_leaderAt (mi 7 rfl) rfl ?_
    exact ⟨rfl, rfl⟩
  refine ex_astore_n ok_X11_leader (mi 3 rfl) ?_
  refine ex_iload_n ok_X11_leader (mi 4 rfl) rfl ?_
  refine ex_bipush ok_X11_leader (mi 5 rfl) ?_
  refine ex_callSr (As := [_, _]) ok_X11_leader (mi 6 rfl) rfl (m_reqOk hst (pk_in 10 14 (by decide)) (by decide) (by decide)) rfl rfl rfl (by decide) (Nat.le_of_ble_eq_true rfl) (by decide) ?_
  refine ex_aload_n ok_X11_leader (mi 7 rfl) rfl ?_
  refine ex_iload_n ok_X11_leader (mi 8 rfl) rfl ?_
  refine ex_callVr (As := [_]) (v := some (.int (nI 0))) (g1 := h) ok_X11_leader (mi 9 rfl) rfl ?c rfl (fk f.1 33 rfl) rfl rfl (by decide) (by decide) (Nat.le_of_ble_eq_true rfl) (by decide) ?_
  case c =>
    refine ex_M_of ok_X5_tell cw_X5_tell rfl hst (Nat.le_of_ble_eq_true rfl) ?_
    refine ex_iload_n ok_X5_tell (mi 0 rfl) rfl ?_
    refine ex_tblk (tgt := 111) ok_X5_tell (mi 1 rfl) (by decide) (by decide) (by decide) (by decide) ?_
    refine ex_aload_n ok_X5_tell (mi 23 rfl) rfl ?_
    refine ex_getRx ok_X5_tell (mi 24 rfl) rfl rfl (fk f.1 33 rfl) (fr f.1 44 rfl) (fk f.1 43 rfl) (by decide) ?_
    refine ex_getIx ok_X5_tell (mi 25 rfl) rfl rfl (fk f.1 43 rfl) (fi f.2.2.1 103 rfl) ?_
    refine ex_iret ok_X5_tell (mi 26 rfl) rfl ?_
    exact ⟨inlI (by decide), rfl⟩
  refine ex_iret ok_X11_leader (mi 10 rfl) rfl ?_
  exact ⟨Or.inl ⟨rfl, inlI (by decide)⟩, kp0⟩
theorem c_leader_2_11 {G : GE} (hst : (ge_l G).stackTraces = false) {x : Nat}  : CC G 4 4 24 my_X11_leader x [.int (nI 2), .int (nI 11)] E3 0 (nI 0) := by
  intro h f
  refine ex_M_of ok_X11_leader cw_X11_leader rfl hst (Nat.le_of_ble_eq_true rfl) ?_
  refine ex_aload_n ok_X11_leader (mi 0 rfl) rfl ?_
  refine ex_iload_n ok_X11_leader (mi 1 rfl) rfl ?_
  refine ex_callVr (As := [_]) (v := some (.ref (x + 837))) (g1 := h) ok_X11_leader (mi 2 rfl) rfl ?c rfl (fk f.1 0 rfl) rfl rfl (by decide) (by decide) (Nat.le_of_ble_eq_true rfl) (by decide) ?_
  case c =>
    refine ex_M_of ok_X11_leaderAt cw_X11_leaderAt rfl hst (Nat.le_of_ble_eq_true rfl) ?_
    refine ex_iload_n ok_X11_leaderAt (mi 0 rfl) rfl ?_
    refine ex_iconst ok_X11_leaderAt (mi 1 rfl) ?_
    refine ex_callSr (As := [_, _]) ok_X11_leaderAt (mi 2 rfl) rfl (m_reqOk hst (pk_in 2 3 (by decide)) (by decide) (by decide)) rfl rfl rfl (by decide) (Nat.le_of_ble_eq_true rfl) (by decide) ?_
    refine ex_aload_n ok_X11_leaderAt (mi 3 rfl) rfl ?_
    refine ex_getRx ok_X11_leaderAt (mi 4 rfl) rfl rfl (fk f.1 0 rfl) (fr f.1 13 rfl) (fk f.1 10 rfl) (by decide) ?_
    refine ex_iload_n ok_X11_leaderAt (mi 5 rfl) rfl ?_
    refine ex_aaldx (n := 1) ok_X11_leaderAt (mi 6 rfl) (by decide) (fk f.1 10 rfl) (fn f.1 10 rfl) (pk_in 2 3 (by decide)) (fo f.2.1 2 rfl) (fk f.1 33 rfl) (by decide) ?_
    refine ex_aret ok_X11_leaderAt (mi 7 rfl) rfl ?_
    exact ⟨rfl, rfl⟩
  refine ex_astore_n ok_X11_leader (mi 3 rfl) ?_
  refine ex_iload_n ok_X11_leader (mi 4 rfl) rfl ?_
  refine ex_bipush ok_X11_leader (mi 5 rfl) ?_
  refine ex_callSr (As := [_, _]) ok_X11_leader (mi 6 rfl) rfl (m_reqOk hst (pk_in 11 14 (by decide)) (by decide) (by decide)) rfl rfl rfl (by decide) (Nat.le_of_ble_eq_true rfl) (by decide) ?_
  refine ex_aload_n ok_X11_leader (mi 7 rfl) rfl ?_
  refine ex_iload_n ok_X11_leader (mi 8 rfl) rfl ?_
  refine ex_callVr (As := [_]) (v := some (.int (nI 0))) (g1 := h) ok_X11_leader (mi 9 rfl) rfl ?c rfl (fk f.1 33 rfl) rfl rfl (by decide) (by decide) (Nat.le_of_ble_eq_true rfl) (by decide) ?_
  case c =>
    refine ex_M_of ok_X5_tell cw_X5_tell rfl hst (Nat.le_of_ble_eq_true rfl) ?_
    refine ex_iload_n ok_X5_tell (mi 0 rfl) rfl ?_
    refine ex_tblk (tgt := 119) ok_X5_tell (mi 1 rfl) (by decide) (by decide) (by decide) (by decide) ?_
    refine ex_aload_n ok_X5_tell (mi 27 rfl) rfl ?_
    refine ex_getRx ok_X5_tell (mi 28 rfl) rfl rfl (fk f.1 33 rfl) (fr f.1 42 rfl) (fk f.1 36 rfl) (by decide) ?_
    refine ex_getIx ok_X5_tell (mi 29 rfl) rfl rfl (fk f.1 36 rfl) (fi f.2.2.1 90 rfl) ?_
    refine ex_iret ok_X5_tell (mi 30 rfl) rfl ?_
    exact ⟨inlI (by decide), rfl⟩
  refine ex_iret ok_X11_leader (mi 10 rfl) rfl ?_
  exact ⟨Or.inl ⟨rfl, inlI (by decide)⟩, kp0⟩
theorem c_leader_2_12 {G : GE} (hst : (ge_l G).stackTraces = false) {x : Nat}  : CC G 4 4 24 my_X11_leader x [.int (nI 2), .int (nI 12)] E3 0 (nI 0) := by
  intro h f
  refine ex_M_of ok_X11_leader cw_X11_leader rfl hst (Nat.le_of_ble_eq_true rfl) ?_
  refine ex_aload_n ok_X11_leader (mi 0 rfl) rfl ?_
  refine ex_iload_n ok_X11_leader (mi 1 rfl) rfl ?_
  refine ex_callVr (As := [_]) (v := some (.ref (x + 837))) (g1 := h) ok_X11_leader (mi 2 rfl) rfl ?c rfl (fk f.1 0 rfl) rfl rfl (by decide) (by decide) (Nat.le_of_ble_eq_true rfl) (by decide) ?_
  case c =>
    refine ex_M_of ok_X11_leaderAt cw_X11_leaderAt rfl hst (Nat.le_of_ble_eq_true rfl) ?_
    refine ex_iload_n ok_X11_leaderAt (mi 0 rfl) rfl ?_
    refine ex_iconst ok_X11_leaderAt (mi 1 rfl) ?_
    refine ex_callSr (As := [_, _]) ok_X11_leaderAt (mi 2 rfl) rfl (m_reqOk hst (pk_in 2 3 (by decide)) (by decide) (by decide)) rfl rfl rfl (by decide) (Nat.le_of_ble_eq_true rfl) (by decide) ?_
    refine ex_aload_n ok_X11_leaderAt (mi 3 rfl) rfl ?_
    refine ex_getRx ok_X11_leaderAt (mi 4 rfl) rfl rfl (fk f.1 0 rfl) (fr f.1 13 rfl) (fk f.1 10 rfl) (by decide) ?_
    refine ex_iload_n ok_X11_leaderAt (mi 5 rfl) rfl ?_
    refine ex_aaldx (n := 1) ok_X11_leaderAt (mi 6 rfl) (by decide) (fk f.1 10 rfl) (fn f.1 10 rfl) (pk_in 2 3 (by decide)) (fo f.2.1 2 rfl) (fk f.1 33 rfl) (by decide) ?_
    refine ex_aret ok_X11_leaderAt (mi 7 rfl) rfl ?_
    exact ⟨rfl, rfl⟩
  refine ex_astore_n ok_X11_leader (mi 3 rfl) ?_
  refine ex_iload_n ok_X11_leader (mi 4 rfl) rfl ?_
  refine ex_bipush ok_X11_leader (mi 5 rfl) ?_
  refine ex_callSr (As := [_, _]) ok_X11_leader (mi 6 rfl) rfl (m_reqOk hst (pk_in 12 14 (by decide)) (by decide) (by decide)) rfl rfl rfl (by decide) (Nat.le_of_ble_eq_true rfl) (by decide) ?_
  refine ex_aload_n ok_X11_leader (mi 7 rfl) rfl ?_
  refine ex_iload_n ok_X11_leader (mi 8 rfl) rfl ?_
  refine ex_callVr (As := [_]) (v := some (.int (nI 0))) (g1 := h) ok_X11_leader (mi 9 rfl) rfl ?c rfl (fk f.1 33 rfl) rfl rfl (by decide) (by decide) (Nat.le_of_ble_eq_true rfl) (by decide) ?_
  case c =>
    refine ex_M_of ok_X5_tell cw_X5_tell rfl hst (Nat.le_of_ble_eq_true rfl) ?_
    refine ex_iload_n ok_X5_tell (mi 0 rfl) rfl ?_
    refine ex_tblk (tgt := 127) ok_X5_tell (mi 1 rfl) (by decide) (by decide) (by decide) (by decide) ?_
    refine ex_aload_n ok_X5_tell (mi 31 rfl) rfl ?_
    refine ex_getRx ok_X5_tell (mi 32 rfl) rfl rfl (fk f.1 33 rfl) (fr f.1 42 rfl) (fk f.1 36 rfl) (by decide) ?_
    refine ex_getIx ok_X5_tell (mi 33 rfl) rfl rfl (fk f.1 36 rfl) (fi f.2.2.1 92 rfl) ?_
    refine ex_iret ok_X5_tell (mi 34 rfl) rfl ?_
    exact ⟨inlI (by decide), rfl⟩
  refine ex_iret ok_X11_leader (mi 10 rfl) rfl ?_
  exact ⟨Or.inl ⟨rfl, inlI (by decide)⟩, kp0⟩
theorem c_leader_2_13 {G : GE} (hst : (ge_l G).stackTraces = false) {x : Nat}  : CC G 4 4 24 my_X11_leader x [.int (nI 2), .int (nI 13)] E3 0 (nI 0) := by
  intro h f
  refine ex_M_of ok_X11_leader cw_X11_leader rfl hst (Nat.le_of_ble_eq_true rfl) ?_
  refine ex_aload_n ok_X11_leader (mi 0 rfl) rfl ?_
  refine ex_iload_n ok_X11_leader (mi 1 rfl) rfl ?_
  refine ex_callVr (As := [_]) (v := some (.ref (x + 837))) (g1 := h) ok_X11_leader (mi 2 rfl) rfl ?c rfl (fk f.1 0 rfl) rfl rfl (by decide) (by decide) (Nat.le_of_ble_eq_true rfl) (by decide) ?_
  case c =>
    refine ex_M_of ok_X11_leaderAt cw_X11_leaderAt rfl hst (Nat.le_of_ble_eq_true rfl) ?_
    refine ex_iload_n ok_X11_leaderAt (mi 0 rfl) rfl ?_
    refine ex_iconst ok_X11_leaderAt (mi 1 rfl) ?_
    refine ex_callSr (As := [_, _]) ok_X11_leaderAt (mi 2 rfl) rfl (m_reqOk hst (pk_in 2 3 (by decide)) (by decide) (by decide)) rfl rfl rfl (by decide) (Nat.le_of_ble_eq_true rfl) (by decide) ?_
    refine ex_aload_n ok_X11_leaderAt (mi 3 rfl) rfl ?_
    refine ex_getRx ok_X11_leaderAt (mi 4 rfl) rfl rfl (fk f.1 0 rfl) (fr f.1 13 rfl) (fk f.1 10 rfl) (by decide) ?_
    refine ex_iload_n ok_X11_leaderAt (mi 5 rfl) rfl ?_
    refine ex_aaldx (n := 1) ok_X11_leaderAt (mi 6 rfl) (by decide) (fk f.1 10 rfl) (fn f.1 10 rfl) (pk_in 2 3 (by decide)) (fo f.2.1 2 rfl) (fk f.1 33 rfl) (by decide) ?_
    refine ex_aret ok_X11_leaderAt (mi 7 rfl) rfl ?_
    exact ⟨rfl, rfl⟩
  refine ex_astore_n ok_X11_leader (mi 3 rfl) ?_
  refine ex_iload_n ok_X11_leader (mi 4 rfl) rfl ?_
  refine ex_bipush ok_X11_leader (mi 5 rfl) ?_
  refine ex_callSr (As := [_, _]) ok_X11_leader (mi 6 rfl) rfl (m_reqOk hst (pk_in 13 14 (by decide)) (by decide) (by decide)) rfl rfl rfl (by decide) (Nat.le_of_ble_eq_true rfl) (by decide) ?_
  refine ex_aload_n ok_X11_leader (mi 7 rfl) rfl ?_
  refine ex_iload_n ok_X11_leader (mi 8 rfl) rfl ?_
  refine ex_callVr (As := [_]) (v := some (.int (nI 0))) (g1 := h) ok_X11_leader (mi 9 rfl) rfl ?c rfl (fk f.1 33 rfl) rfl rfl (by decide) (by decide) (Nat.le_of_ble_eq_true rfl) (by decide) ?_
  case c =>
    refine ex_M_of ok_X5_tell cw_X5_tell rfl hst (Nat.le_of_ble_eq_true rfl) ?_
    refine ex_iload_n ok_X5_tell (mi 0 rfl) rfl ?_
    refine ex_tblk (tgt := 135) ok_X5_tell (mi 1 rfl) (by decide) (by decide) (by decide) (by decide) ?_
    refine ex_aload_n ok_X5_tell (mi 35 rfl) rfl ?_
    refine ex_getRx ok_X5_tell (mi 36 rfl) rfl rfl (fk f.1 33 rfl) (fr f.1 44 rfl) (fk f.1 43 rfl) (by decide) ?_
    refine ex_getIx ok_X5_tell (mi 37 rfl) rfl rfl (fk f.1 43 rfl) (fi f.2.2.1 103 rfl) ?_
    refine ex_iconst ok_X5_tell (mi 38 rfl) ?_
    refine ex_icmp_ne (tgt := 156) ok_X5_tell (mi 39 rfl) rfl (fun _ => ?_) (fun hn => absurd hn (by decide))
    refine ex_aload_n ok_X5_tell (mi 44 rfl) rfl ?_
    refine ex_getIx ok_X5_tell (mi 45 rfl) rfl rfl (fk f.1 33 rfl) (fi f.2.2.1 99 rfl) ?_
    refine ex_iret ok_X5_tell (mi 46 rfl) rfl ?_
    exact ⟨inlI (by decide), rfl⟩
  refine ex_iret ok_X11_leader (mi 10 rfl) rfl ?_
  exact ⟨Or.inl ⟨rfl, inlI (by decide)⟩, kp0⟩
theorem c_slot_2_b1 {G : GE} (hst : (ge_l G).stackTraces = false) {x : Nat} {p1 p2 : Int32} (c1 : ¬ vp_in p1 16) : CC G 3 4 24 my_X11_slot x [.int (nI 2), .int p1, .int p2] E3 1 (nI 0) := by
  intro h f
  refine ex_M_of ok_X11_slot cw_X11_slot rfl hst (Nat.le_of_ble_eq_true rfl) ?_
  refine ex_aload_n ok_X11_slot (mi 0 rfl) rfl ?_
  refine ex_iload_n ok_X11_slot (mi 1 rfl) rfl ?_
  refine ex_callVr (As := [_]) (v := some (.ref (x + 837))) (g1 := h) ok_X11_slot (mi 2 rfl) rfl ?c rfl (fk f.1 0 rfl) rfl rfl (by decide) (by decide) (Nat.le_of_ble_eq_true rfl) (by decide) ?_
  case c =>
    refine ex_M_of ok_X11_leaderAt cw_X11_leaderAt rfl hst (Nat.le_of_ble_eq_true rfl) ?_
    refine ex_iload_n ok_X11_leaderAt (mi 0 rfl) rfl ?_
    refine ex_iconst ok_X11_leaderAt (mi 1 rfl) ?_
    refine ex_callSr (As := [_, _]) ok_X11_leaderAt (mi 2 rfl) rfl (m_reqOk hst (pk_in 2 3 (by decide)) (by decide) (by decide)) rfl rfl rfl (by decide) (Nat.le_of_ble_eq_true rfl) (by decide) ?_
    refine ex_aload_n ok_X11_leaderAt (mi 3 rfl) rfl ?_
    refine ex_getRx ok_X11_leaderAt (mi 4 rfl) rfl rfl (fk f.1 0 rfl) (fr f.1 13 rfl) (fk f.1 10 rfl) (by decide) ?_
    refine ex_iload_n ok_X11_leaderAt (mi 5 rfl) rfl ?_
    refine ex_aaldx (n := 1) ok_X11_leaderAt (mi 6 rfl) (by decide) (fk f.1 10 rfl) (fn f.1 10 rfl) (pk_in 2 3 (by decide)) (fo f.2.1 2 rfl) (fk f.1 33 rfl) (by decide) ?_
    refine ex_aret ok_X11_leaderAt (mi 7 rfl) rfl ?_
    exact ⟨rfl, rfl⟩
  refine ex_astore ok_X11_slot (mi 3 rfl) ?_
  refine ex_iload_n ok_X11_slot (mi 4 rfl) rfl ?_
  refine ex_bipush ok_X11_slot (mi 5 rfl) ?_
  refine ex_callSt (e := 100) (As := [_, _]) ok_X11_slot (mi 6 rfl) rfl (m_reqBad hst c1 (by decide) (by decide)) rfl rfl rfl (by decide) (Nat.le_of_ble_eq_true rfl) (by decide) (fun n hn => ?_)
  exact ⟨Or.inr ⟨by decide, rfl⟩, kpZ kp0 hn⟩
theorem c_slot_2_b2 {G : GE} (hst : (ge_l G).stackTraces = false) {x : Nat} {p1 p2 : Int32} (c1 : vp_in p1 16) (c2 : ¬ vp_in p2 4) : CC G 3 4 24 my_X11_slot x [.int (nI 2), .int p1, .int p2] E3 1 (nI 0) := by
  intro h f
  refine ex_M_of ok_X11_slot cw_X11_slot rfl hst (Nat.le_of_ble_eq_true rfl) ?_
  refine ex_aload_n ok_X11_slot (mi 0 rfl) rfl ?_
  refine ex_iload_n ok_X11_slot (mi 1 rfl) rfl ?_
  refine ex_callVr (As := [_]) (v := some (.ref (x + 837))) (g1 := h) ok_X11_slot (mi 2 rfl) rfl ?c rfl (fk f.1 0 rfl) rfl rfl (by decide) (by decide) (Nat.le_of_ble_eq_true rfl) (by decide) ?_
  case c =>
    refine ex_M_of ok_X11_leaderAt cw_X11_leaderAt rfl hst (Nat.le_of_ble_eq_true rfl) ?_
    refine ex_iload_n ok_X11_leaderAt (mi 0 rfl) rfl ?_
    refine ex_iconst ok_X11_leaderAt (mi 1 rfl) ?_
    refine ex_callSr (As := [_, _]) ok_X11_leaderAt (mi 2 rfl) rfl (m_reqOk hst (pk_in 2 3 (by decide)) (by decide) (by decide)) rfl rfl rfl (by decide) (Nat.le_of_ble_eq_true rfl) (by decide) ?_
    refine ex_aload_n ok_X11_leaderAt (mi 3 rfl) rfl ?_
    refine ex_getRx ok_X11_leaderAt (mi 4 rfl) rfl rfl (fk f.1 0 rfl) (fr f.1 13 rfl) (fk f.1 10 rfl) (by decide) ?_
    refine ex_iload_n ok_X11_leaderAt (mi 5 rfl) rfl ?_
    refine ex_aaldx (n := 1) ok_X11_leaderAt (mi 6 rfl) (by decide) (fk f.1 10 rfl) (fn f.1 10 rfl) (pk_in 2 3 (by decide)) (fo f.2.1 2 rfl) (fk f.1 33 rfl) (by decide) ?_
    refine ex_aret ok_X11_leaderAt (mi 7 rfl) rfl ?_
    exact ⟨rfl, rfl⟩
  refine ex_astore ok_X11_slot (mi 3 rfl) ?_
  refine ex_iload_n ok_X11_slot (mi 4 rfl) rfl ?_
  refine ex_bipush ok_X11_slot (mi 5 rfl) ?_
  refine ex_callSr (As := [_, _]) ok_X11_slot (mi 6 rfl) rfl (m_reqOk hst c1 (by decide) (by decide)) rfl rfl rfl (by decide) (Nat.le_of_ble_eq_true rfl) (by decide) ?_
  refine ex_iload_n ok_X11_slot (mi 7 rfl) rfl ?_
  refine ex_iconst ok_X11_slot (mi 8 rfl) ?_
  refine ex_callSt (e := 100) (As := [_, _]) ok_X11_slot (mi 9 rfl) rfl (m_reqBad hst c2 (by decide) (by decide)) rfl rfl rfl (by decide) (Nat.le_of_ble_eq_true rfl) (by decide) (fun n hn => ?_)
  exact ⟨Or.inr ⟨by decide, rfl⟩, kpZ kp0 hn⟩
theorem c_slot_2_0 {G : GE} (hst : (ge_l G).stackTraces = false) {x : Nat} {j : Nat} (hj : j < 16) : CC G 3 4 24 my_X11_slot x [.int (nI 2), .int (nI j), .int (nI 0)] E3 0 (nI 0) := by
  intro h f
  refine ex_M_of ok_X11_slot cw_X11_slot rfl hst (Nat.le_of_ble_eq_true rfl) ?_
  refine ex_aload_n ok_X11_slot (mi 0 rfl) rfl ?_
  refine ex_iload_n ok_X11_slot (mi 1 rfl) rfl ?_
  refine ex_callVr (As := [_]) (v := some (.ref (x + 837))) (g1 := h) ok_X11_slot (mi 2 rfl) rfl ?c rfl (fk f.1 0 rfl) rfl rfl (by decide) (by decide) (Nat.le_of_ble_eq_true rfl) (by decide) ?_
  case c =>
    refine ex_M_of ok_X11_leaderAt cw_X11_leaderAt rfl hst (Nat.le_of_ble_eq_true rfl) ?_
    refine ex_iload_n ok_X11_leaderAt (mi 0 rfl) rfl ?_
    refine ex_iconst ok_X11_leaderAt (mi 1 rfl) ?_
    refine ex_callSr (As := [_, _]) ok_X11_leaderAt (mi 2 rfl) rfl (m_reqOk hst (pk_in 2 3 (by decide)) (by decide) (by decide)) rfl rfl rfl (by decide) (Nat.le_of_ble_eq_true rfl) (by decide) ?_
    refine ex_aload_n ok_X11_leaderAt (mi 3 rfl) rfl ?_
    refine ex_getRx ok_X11_leaderAt (mi 4 rfl) rfl rfl (fk f.1 0 rfl) (fr f.1 13 rfl) (fk f.1 10 rfl) (by decide) ?_
    refine ex_iload_n ok_X11_leaderAt (mi 5 rfl) rfl ?_
    refine ex_aaldx (n := 1) ok_X11_leaderAt (mi 6 rfl) (by decide) (fk f.1 10 rfl) (fn f.1 10 rfl) (pk_in 2 3 (by decide)) (fo f.2.1 2 rfl) (fk f.1 33 rfl) (by decide) ?_
    refine ex_aret ok_X11_leaderAt (mi 7 rfl) rfl ?_
    exact ⟨rfl, rfl⟩
  refine ex_astore ok_X11_slot (mi 3 rfl) ?_
  refine ex_iload_n ok_X11_slot (mi 4 rfl) rfl ?_
  refine ex_bipush ok_X11_slot (mi 5 rfl) ?_
  refine ex_callSr (As := [_, _]) ok_X11_slot (mi 6 rfl) rfl (m_reqOk hst (vp_in_nI hj (by decide)) (by decide) (by decide)) rfl rfl rfl (by decide) (Nat.le_of_ble_eq_true rfl) (by decide) ?_
  refine ex_iload_n ok_X11_slot (mi 7 rfl) rfl ?_
  refine ex_iconst ok_X11_slot (mi 8 rfl) ?_
  refine ex_callSr (As := [_, _]) ok_X11_slot (mi 9 rfl) rfl (m_reqOk hst (pk_in 0 4 (by decide)) (by decide) (by decide)) rfl rfl rfl (by decide) (Nat.le_of_ble_eq_true rfl) (by decide) ?_
  refine ex_iload_n ok_X11_slot (mi 10 rfl) rfl ?_
  refine ex_if_ne (tgt := 33) ok_X11_slot (mi 11 rfl) rfl (fun hn => absurd (by decide) hn) (fun _ => ?_)
  refine ex_aload ok_X11_slot (mi 12 rfl) rfl ?_
  refine ex_getIx ok_X11_slot (mi 13 rfl) rfl rfl (fk f.1 33 rfl) (fi f.2.2.1 85 rfl) ?_
  refine ex_iconst ok_X11_slot (mi 14 rfl) ?_
  refine ex_icmp_eq (tgt := 33) ok_X11_slot (mi 15 rfl) rfl (fun hn => absurd hn (by decide)) (fun _ => ?_)
  refine ex_iconst ok_X11_slot (mi 16 rfl) ?_
  refine ex_iret ok_X11_slot (mi 17 rfl) rfl ?_
  exact ⟨Or.inl ⟨rfl, inlI (by decide)⟩, kp0⟩
theorem c_slot_2_1 {G : GE} (hst : (ge_l G).stackTraces = false) {x : Nat} {j : Nat} (hj : j < 16) : CC G 3 4 24 my_X11_slot x [.int (nI 2), .int (nI j), .int (nI 1)] E3 0 ((-1)) := by
  intro h f
  refine ex_M_of ok_X11_slot cw_X11_slot rfl hst (Nat.le_of_ble_eq_true rfl) ?_
  refine ex_aload_n ok_X11_slot (mi 0 rfl) rfl ?_
  refine ex_iload_n ok_X11_slot (mi 1 rfl) rfl ?_
  refine ex_callVr (As := [_]) (v := some (.ref (x + 837))) (g1 := h) ok_X11_slot (mi 2 rfl) rfl ?c rfl (fk f.1 0 rfl) rfl rfl (by decide) (by decide) (Nat.le_of_ble_eq_true rfl) (by decide) ?_
  case c =>
    refine ex_M_of ok_X11_leaderAt cw_X11_leaderAt rfl hst (Nat.le_of_ble_eq_true rfl) ?_
    refine ex_iload_n ok_X11_leaderAt (mi 0 rfl) rfl ?_
    refine ex_iconst ok_X11_leaderAt (mi 1 rfl) ?_
    refine ex_callSr (As := [_, _]) ok_X11_leaderAt (mi 2 rfl) rfl (m_reqOk hst (pk_in 2 3 (by decide)) (by decide) (by decide)) rfl rfl rfl (by decide) (Nat.le_of_ble_eq_true rfl) (by decide) ?_
    refine ex_aload_n ok_X11_leaderAt (mi 3 rfl) rfl ?_
    refine ex_getRx ok_X11_leaderAt (mi 4 rfl) rfl rfl (fk f.1 0 rfl) (fr f.1 13 rfl) (fk f.1 10 rfl) (by decide) ?_
    refine ex_iload_n ok_X11_leaderAt (mi 5 rfl) rfl ?_
    refine ex_aaldx (n := 1) ok_X11_leaderAt (mi 6 rfl) (by decide) (fk f.1 10 rfl) (fn f.1 10 rfl) (pk_in 2 3 (by decide)) (fo f.2.1 2 rfl) (fk f.1 33 rfl) (by decide) ?_
    refine ex_aret ok_X11_leaderAt (mi 7 rfl) rfl ?_
    exact ⟨rfl, rfl⟩
  refine ex_astore ok_X11_slot (mi 3 rfl) ?_
  refine ex_iload_n ok_X11_slot (mi 4 rfl) rfl ?_
  refine ex_bipush ok_X11_slot (mi 5 rfl) ?_
  refine ex_callSr (As := [_, _]) ok_X11_slot (mi 6 rfl) rfl (m_reqOk hst (vp_in_nI hj (by decide)) (by decide) (by decide)) rfl rfl rfl (by decide) (Nat.le_of_ble_eq_true rfl) (by decide) ?_
  refine ex_iload_n ok_X11_slot (mi 7 rfl) rfl ?_
  refine ex_iconst ok_X11_slot (mi 8 rfl) ?_
  refine ex_callSr (As := [_, _]) ok_X11_slot (mi 9 rfl) rfl (m_reqOk hst (pk_in 1 4 (by decide)) (by decide) (by decide)) rfl rfl rfl (by decide) (Nat.le_of_ble_eq_true rfl) (by decide) ?_
  refine ex_iload_n ok_X11_slot (mi 10 rfl) rfl ?_
  refine ex_if_ne (tgt := 33) ok_X11_slot (mi 11 rfl) rfl (fun _ => ?_) (fun hn => absurd hn (by decide))
  refine ex_aload ok_X11_slot (mi 18 rfl) rfl ?_
  refine ex_getRx ok_X11_slot (mi 19 rfl) rfl rfl (fk f.1 33 rfl) (fr f.1 43 rfl) (fk f.1 38 rfl) (by decide) ?_
  refine ex_iload_n ok_X11_slot (mi 20 rfl) rfl ?_
  refine ex_iload_n ok_X11_slot (mi 21 rfl) rfl ?_
  refine ex_callVr (As := [_, _]) (v := some (.int (-1))) (g1 := h) ok_X11_slot (mi 22 rfl) rfl ?c rfl (fk f.1 38 rfl) rfl rfl (by decide) (by decide) (Nat.le_of_ble_eq_true rfl) (by decide) ?_
  case c =>
    refine ex_M_of ok_X8_tell cw_X8_tell rfl hst (Nat.le_of_ble_eq_true rfl) ?_
    refine ex_iload_n ok_X8_tell (mi 0 rfl) rfl ?_
    refine ex_callSNr (As := [_]) ok_X8_tell (mi 1 rfl) rfl (m_isSlot1 hst hj) rfl (List.mem_of_getElem? (i := 2) rfl) rfl rfl (by decide) (Nat.le_of_ble_eq_true rfl) (by decide) ?_
    refine ex_if_ne (tgt := 9) ok_X8_tell (mi 2 rfl) rfl (fun _ => ?_) (fun hn => absurd hn (by decide))
    refine ex_iload_n ok_X8_tell (mi 5 rfl) rfl ?_
    refine ex_tblk (tgt := 43) ok_X8_tell (mi 6 rfl) (by decide) (by decide) (by decide) (by decide) ?_
    refine ex_aload_n ok_X8_tell (mi 12 rfl) rfl ?_
    refine ex_getRx ok_X8_tell (mi 13 rfl) rfl rfl (fk f.1 38 rfl) (fr f.1 49 rfl) (fk f.1 40 rfl) (by decide) ?_
    refine ex_iload_n ok_X8_tell (mi 14 rfl) rfl ?_
    refine ex_ialdx ok_X8_tell (mi 15 rfl) (Or.inl (fk f.1 40 rfl)) (fn f.1 40 rfl) (vp_in_nI hj (by decide)) (fa f.2.2.2.1 21 rfl (by rw [nI_clamp (by omega)]; exact hj)) ?_
    refine ex_iret ok_X8_tell (mi 16 rfl) rfl ?_
    exact ⟨inlI (by decide), rfl⟩
  refine ex_iret ok_X11_slot (mi 23 rfl) rfl ?_
  exact ⟨Or.inl ⟨rfl, inlI (by decide)⟩, kp0⟩
theorem c_slot_2_2 {G : GE} (hst : (ge_l G).stackTraces = false) {x : Nat} {j : Nat} (hj : j < 16) : CC G 3 4 24 my_X11_slot x [.int (nI 2), .int (nI j), .int (nI 2)] E3 0 (nI 0) := by
  intro h f
  refine ex_M_of ok_X11_slot cw_X11_slot rfl hst (Nat.le_of_ble_eq_true rfl) ?_
  refine ex_aload_n ok_X11_slot (mi 0 rfl) rfl ?_
  refine ex_iload_n ok_X11_slot (mi 1 rfl) rfl ?_
  refine ex_callVr (As := [_]) (v := some (.ref (x + 837))) (g1 := h) ok_X11_slot (mi 2 rfl) rfl ?c rfl (fk f.1 0 rfl) rfl rfl (by decide) (by decide) (Nat.le_of_ble_eq_true rfl) (by decide) ?_
  case c =>
    refine ex_M_of ok_X11_leaderAt cw_X11_leaderAt rfl hst (Nat.le_of_ble_eq_true rfl) ?_
    refine ex_iload_n ok_X11_leaderAt (mi 0 rfl) rfl ?_
    refine ex_iconst ok_X11_leaderAt (mi 1 rfl) ?_
    refine ex_callSr (As := [_, _]) ok_X11_leaderAt (mi 2 rfl) rfl (m_reqOk hst (pk_in 2 3 (by decide)) (by decide) (by decide)) rfl rfl rfl (by decide) (Nat.le_of_ble_eq_true rfl) (by decide) ?_
    refine ex_aload_n ok_X11_leaderAt (mi 3 rfl) rfl ?_
    refine ex_getRx ok_X11_leaderAt (mi 4 rfl) rfl rfl (fk f.1 0 rfl) (fr f.1 13 rfl) (fk f.1 10 rfl) (by decide) ?_
    refine ex_iload_n ok_X11_leaderAt (mi 5 rfl) rfl ?_
    refine ex_aaldx (n := 1) ok_X11_leaderAt (mi 6 rfl) (by decide) (fk f.1 10 rfl) (fn f.1 10 rfl) (pk_in 2 3 (by decide)) (fo f.2.1 2 rfl) (fk f.1 33 rfl) (by decide) ?_
    refine ex_aret ok_X11_leaderAt (mi 7 rfl) rfl ?_
    exact ⟨rfl, rfl⟩
  refine ex_astore ok_X11_slot (mi 3 rfl) ?_
  refine ex_iload_n ok_X11_slot (mi 4 rfl) rfl ?_
  refine ex_bipush ok_X11_slot (mi 5 rfl) ?_
  refine ex_callSr (As := [_, _]) ok_X11_slot (mi 6 rfl) rfl (m_reqOk hst (vp_in_nI hj (by decide)) (by decide) (by decide)) rfl rfl rfl (by decide) (Nat.le_of_ble_eq_true rfl) (by decide) ?_
  refine ex_iload_n ok_X11_slot (mi 7 rfl) rfl ?_
  refine ex_iconst ok_X11_slot (mi 8 rfl) ?_
  refine ex_callSr (As := [_, _]) ok_X11_slot (mi 9 rfl) rfl (m_reqOk hst (pk_in 2 4 (by decide)) (by decide) (by decide)) rfl rfl rfl (by decide) (Nat.le_of_ble_eq_true rfl) (by decide) ?_
  refine ex_iload_n ok_X11_slot (mi 10 rfl) rfl ?_
  refine ex_if_ne (tgt := 33) ok_X11_slot (mi 11 rfl) rfl (fun _ => ?_) (fun hn => absurd hn (by decide))
  refine ex_aload ok_X11_slot (mi 18 rfl) rfl ?_
  refine ex_getRx ok_X11_slot (mi 19 rfl) rfl rfl (fk f.1 33 rfl) (fr f.1 43 rfl) (fk f.1 38 rfl) (by decide) ?_
  refine ex_iload_n ok_X11_slot (mi 20 rfl) rfl ?_
  refine ex_iload_n ok_X11_slot (mi 21 rfl) rfl ?_
  refine ex_callVr (As := [_, _]) (v := some (.int (nI 0))) (g1 := h) ok_X11_slot (mi 22 rfl) rfl ?c rfl (fk f.1 38 rfl) rfl rfl (by decide) (by decide) (Nat.le_of_ble_eq_true rfl) (by decide) ?_
  case c =>
    refine ex_M_of ok_X8_tell cw_X8_tell rfl hst (Nat.le_of_ble_eq_true rfl) ?_
    refine ex_iload_n ok_X8_tell (mi 0 rfl) rfl ?_
    refine ex_callSNr (As := [_]) ok_X8_tell (mi 1 rfl) rfl (m_isSlot1 hst hj) rfl (List.mem_of_getElem? (i := 2) rfl) rfl rfl (by decide) (Nat.le_of_ble_eq_true rfl) (by decide) ?_
    refine ex_if_ne (tgt := 9) ok_X8_tell (mi 2 rfl) rfl (fun _ => ?_) (fun hn => absurd hn (by decide))
    refine ex_iload_n ok_X8_tell (mi 5 rfl) rfl ?_
    refine ex_tblk (tgt := 50) ok_X8_tell (mi 6 rfl) (by decide) (by decide) (by decide) (by decide) ?_
    refine ex_aload_n ok_X8_tell (mi 17 rfl) rfl ?_
    refine ex_getRx ok_X8_tell (mi 18 rfl) rfl rfl (fk f.1 38 rfl) (fr f.1 50 rfl) (fk f.1 41 rfl) (by decide) ?_
    refine ex_iload_n ok_X8_tell (mi 19 rfl) rfl ?_
    refine ex_ialdx ok_X8_tell (mi 20 rfl) (Or.inl (fk f.1 41 rfl)) (fn f.1 41 rfl) (vp_in_nI hj (by decide)) (fa f.2.2.2.1 22 rfl (by rw [nI_clamp (by omega)]; exact hj)) ?_
    refine ex_iret ok_X8_tell (mi 21 rfl) rfl ?_
    exact ⟨inlI (by decide), rfl⟩
  refine ex_iret ok_X11_slot (mi 23 rfl) rfl ?_
  exact ⟨Or.inl ⟨rfl, inlI (by decide)⟩, kp0⟩
theorem c_slot_2_3 {G : GE} (hst : (ge_l G).stackTraces = false) {x : Nat} {j : Nat} (hj : j < 16) : CC G 3 4 24 my_X11_slot x [.int (nI 2), .int (nI j), .int (nI 3)] E3 0 (nI 0) := by
  intro h f
  refine ex_M_of ok_X11_slot cw_X11_slot rfl hst (Nat.le_of_ble_eq_true rfl) ?_
  refine ex_aload_n ok_X11_slot (mi 0 rfl) rfl ?_
  refine ex_iload_n ok_X11_slot (mi 1 rfl) rfl ?_
  refine ex_callVr (As := [_]) (v := some (.ref (x + 837))) (g1 := h) ok_X11_slot (mi 2 rfl) rfl ?c rfl (fk f.1 0 rfl) rfl rfl (by decide) (by decide) (Nat.le_of_ble_eq_true rfl) (by decide) ?_
  case c =>
    refine ex_M_of ok_X11_leaderAt cw_X11_leaderAt rfl hst (Nat.le_of_ble_eq_true rfl) ?_
    refine ex_iload_n ok_X11_leaderAt (mi 0 rfl) rfl ?_
    refine ex_iconst ok_X11_leaderAt (mi 1 rfl) ?_
    refine ex_callSr (As := [_, _]) ok_X11_leaderAt (mi 2 rfl) rfl (m_reqOk hst (pk_in 2 3 (by decide)) (by decide) (by decide)) rfl rfl rfl (by decide) (Nat.le_of_ble_eq_true rfl) (by decide) ?_
    refine ex_aload_n ok_X11_leaderAt (mi 3 rfl) rfl ?_
    refine ex_getRx ok_X11_leaderAt (mi 4 rfl) rfl rfl (fk f.1 0 rfl) (fr f.1 13 rfl) (fk f.1 10 rfl) (by decide) ?_
    refine ex_iload_n ok_X11_leaderAt (mi 5 rfl) rfl ?_
    refine ex_aaldx (n := 1) ok_X11_leaderAt (mi 6 rfl) (by decide) (fk f.1 10 rfl) (fn f.1 10 rfl) (pk_in 2 3 (by decide)) (fo f.2.1 2 rfl) (fk f.1 33 rfl) (by decide) ?_
    refine ex_aret ok_X11_leaderAt (mi 7 rfl) rfl ?_
    exact ⟨rfl, rfl⟩
  refine ex_astore ok_X11_slot (mi 3 rfl) ?_
  refine ex_iload_n ok_X11_slot (mi 4 rfl) rfl ?_
  refine ex_bipush ok_X11_slot (mi 5 rfl) ?_
  refine ex_callSr (As := [_, _]) ok_X11_slot (mi 6 rfl) rfl (m_reqOk hst (vp_in_nI hj (by decide)) (by decide) (by decide)) rfl rfl rfl (by decide) (Nat.le_of_ble_eq_true rfl) (by decide) ?_
  refine ex_iload_n ok_X11_slot (mi 7 rfl) rfl ?_
  refine ex_iconst ok_X11_slot (mi 8 rfl) ?_
  refine ex_callSr (As := [_, _]) ok_X11_slot (mi 9 rfl) rfl (m_reqOk hst (pk_in 3 4 (by decide)) (by decide) (by decide)) rfl rfl rfl (by decide) (Nat.le_of_ble_eq_true rfl) (by decide) ?_
  refine ex_iload_n ok_X11_slot (mi 10 rfl) rfl ?_
  refine ex_if_ne (tgt := 33) ok_X11_slot (mi 11 rfl) rfl (fun _ => ?_) (fun hn => absurd hn (by decide))
  refine ex_aload ok_X11_slot (mi 18 rfl) rfl ?_
  refine ex_getRx ok_X11_slot (mi 19 rfl) rfl rfl (fk f.1 33 rfl) (fr f.1 43 rfl) (fk f.1 38 rfl) (by decide) ?_
  refine ex_iload_n ok_X11_slot (mi 20 rfl) rfl ?_
  refine ex_iload_n ok_X11_slot (mi 21 rfl) rfl ?_
  refine ex_callVr (As := [_, _]) (v := some (.int (nI 0))) (g1 := h) ok_X11_slot (mi 22 rfl) rfl ?c rfl (fk f.1 38 rfl) rfl rfl (by decide) (by decide) (Nat.le_of_ble_eq_true rfl) (by decide) ?_
  case c =>
    refine ex_M_of ok_X8_tell cw_X8_tell rfl hst (Nat.le_of_ble_eq_true rfl) ?_
    refine ex_iload_n ok_X8_tell (mi 0 rfl) rfl ?_
    refine ex_callSNr (As := [_]) ok_X8_tell (mi 1 rfl) rfl (m_isSlot1 hst hj) rfl (List.mem_of_getElem? (i := 2) rfl) rfl rfl (by decide) (Nat.le_of_ble_eq_true rfl) (by decide) ?_
    refine ex_if_ne (tgt := 9) ok_X8_tell (mi 2 rfl) rfl (fun _ => ?_) (fun hn => absurd hn (by decide))
    refine ex_iload_n ok_X8_tell (mi 5 rfl) rfl ?_
    refine ex_tblk (tgt := 57) ok_X8_tell (mi 6 rfl) (by decide) (by decide) (by decide) (by decide) ?_
    refine ex_aload_n ok_X8_tell (mi 22 rfl) rfl ?_
    refine ex_getRx ok_X8_tell (mi 23 rfl) rfl rfl (fk f.1 38 rfl) (fr f.1 51 rfl) (fk f.1 42 rfl) (by decide) ?_
    refine ex_iload_n ok_X8_tell (mi 24 rfl) rfl ?_
    refine ex_ialdx ok_X8_tell (mi 25 rfl) (Or.inl (fk f.1 42 rfl)) (fn f.1 42 rfl) (vp_in_nI hj (by decide)) (fa f.2.2.2.1 23 rfl (by rw [nI_clamp (by omega)]; exact hj)) ?_
    refine ex_iret ok_X8_tell (mi 26 rfl) rfl ?_
    exact ⟨inlI (by decide), rfl⟩
  refine ex_iret ok_X11_slot (mi 23 rfl) rfl ?_
  exact ⟨Or.inl ⟨rfl, inlI (by decide)⟩, kp0⟩
theorem c_copy_2 {G : GE} (hst : (ge_l G).stackTraces = false) {x : Nat} {j : Nat} (hj : j < 16) : CC G 2 4 24 my_X11_copy x [.int (nI 2), .int (nI j)] E3 0 ((-1)) := by
  intro h f
  refine ex_M_of ok_X11_copy cw_X11_copy rfl hst (Nat.le_of_ble_eq_true rfl) ?_
  refine ex_iload_n ok_X11_copy (mi 0 rfl) rfl ?_
  refine ex_iconst ok_X11_copy (mi 1 rfl) ?_
  refine ex_callSr (As := [_, _]) ok_X11_copy (mi 2 rfl) rfl (m_reqOk hst (pk_in 2 3 (by decide)) (by decide) (by decide)) rfl rfl rfl (by decide) (Nat.le_of_ble_eq_true rfl) (by decide) ?_
  refine ex_iload_n ok_X11_copy (mi 3 rfl) rfl ?_
  refine ex_bipush ok_X11_copy (mi 4 rfl) ?_
  refine ex_callSr (As := [_, _]) ok_X11_copy (mi 5 rfl) rfl (m_reqOk hst (vp_in_nI hj (by decide)) (by decide) (by decide)) rfl rfl rfl (by decide) (Nat.le_of_ble_eq_true rfl) (by decide) ?_
  refine ex_aload_n ok_X11_copy (mi 6 rfl) rfl ?_
  refine ex_getRx ok_X11_copy (mi 7 rfl) rfl rfl (fk f.1 0 rfl) (fr f.1 11 rfl) (fk f.1 7 rfl) (by decide) ?_
  refine ex_getRx ok_X11_copy (mi 8 rfl) rfl rfl (fk f.1 7 rfl) (fr f.1 9 rfl) (fk f.1 8 rfl) (by decide) ?_
  refine ex_iload_n ok_X11_copy (mi 9 rfl) rfl ?_
  refine ex_bipush ok_X11_copy (mi 10 rfl) ?_
  refine ex_imul ok_X11_copy (mi 11 rfl) ?_
  refine ex_top (w := (nI 32)) (by decide) ?_
  refine ex_iload_n ok_X11_copy (mi 12 rfl) rfl ?_
  refine ex_iadd ok_X11_copy (mi 13 rfl) ?_
  refine ex_top (w := (nI (32 + j))) (nI_add 32 j) ?_
  refine ex_ialdx ok_X11_copy (mi 14 rfl) (Or.inl (fk f.1 8 rfl)) (fn f.1 8 rfl) (vp_in_nI (by omega) (by decide)) (fa f.2.2.2.1 2 rfl (by rw [nI_clamp (by omega)]; omega)) ?_
  refine ex_iret ok_X11_copy (mi 15 rfl) rfl ?_
  exact ⟨Or.inl ⟨rfl, inlI (by decide)⟩, kp0⟩
theorem c_keeper_b0 {G : GE} (hst : (ge_l G).stackTraces = false) {x : Nat} {p0 p1 p2 : Int32} (c0 : ¬ vp_in p0 9) : CC G 4 4 24 my_X11_keeper x [.int p0, .int p1] E3 1 (nI 0) := by
  intro h f
  refine ex_M_of ok_X11_keeper cw_X11_keeper rfl hst (Nat.le_of_ble_eq_true rfl) ?_
  refine ex_iload_n ok_X11_keeper (mi 0 rfl) rfl ?_
  refine ex_bipush ok_X11_keeper (mi 1 rfl) ?_
  refine ex_callSt (e := 100) (As := [_, _]) ok_X11_keeper (mi 2 rfl) rfl (m_reqBad hst c0 (by decide) (by decide)) rfl rfl rfl (by decide) (Nat.le_of_ble_eq_true rfl) (by decide) (fun n hn => ?_)
  exact ⟨Or.inr ⟨by decide, rfl⟩, kpZ kp0 hn⟩
theorem c_keeper_b1 {G : GE} (hst : (ge_l G).stackTraces = false) {x : Nat} {p0 p1 p2 : Int32} (c0 : vp_in p0 9) (c1 : ¬ vp_in p1 8) : CC G 4 4 24 my_X11_keeper x [.int p0, .int p1] E3 1 (nI 0) := by
  intro h f
  refine ex_M_of ok_X11_keeper cw_X11_keeper rfl hst (Nat.le_of_ble_eq_true rfl) ?_
  refine ex_iload_n ok_X11_keeper (mi 0 rfl) rfl ?_
  refine ex_bipush ok_X11_keeper (mi 1 rfl) ?_
  refine ex_callSr (As := [_, _]) ok_X11_keeper (mi 2 rfl) rfl (m_reqOk hst c0 (by decide) (by decide)) rfl rfl rfl (by decide) (Nat.le_of_ble_eq_true rfl) (by decide) ?_
  refine ex_iload_n ok_X11_keeper (mi 3 rfl) rfl ?_
  refine ex_bipush ok_X11_keeper (mi 4 rfl) ?_
  refine ex_callSt (e := 100) (As := [_, _]) ok_X11_keeper (mi 5 rfl) rfl (m_reqBad hst c1 (by decide) (by decide)) rfl rfl rfl (by decide) (Nat.le_of_ble_eq_true rfl) (by decide) (fun n hn => ?_)
  exact ⟨Or.inr ⟨by decide, rfl⟩, kpZ kp0 hn⟩
theorem c_voter_b0 {G : GE} (hst : (ge_l G).stackTraces = false) {x : Nat} {p0 p1 p2 : Int32} (c0 : ¬ vp_in p0 12) : CC G 3 4 24 my_X11_voter x [.int p0, .int p1] E3 1 (nI 0) := by
  intro h f
  refine ex_M_of ok_X11_voter cw_X11_voter rfl hst (Nat.le_of_ble_eq_true rfl) ?_
  refine ex_iload_n ok_X11_voter (mi 0 rfl) rfl ?_
  refine ex_bipush ok_X11_voter (mi 1 rfl) ?_
  refine ex_callSt (e := 100) (As := [_, _]) ok_X11_voter (mi 2 rfl) rfl (m_reqBad hst c0 (by decide) (by decide)) rfl rfl rfl (by decide) (Nat.le_of_ble_eq_true rfl) (by decide) (fun n hn => ?_)
  exact ⟨Or.inr ⟨by decide, rfl⟩, kpZ kp0 hn⟩
theorem c_voter_b1 {G : GE} (hst : (ge_l G).stackTraces = false) {x : Nat} {p0 p1 p2 : Int32} (c0 : vp_in p0 12) (c1 : ¬ vp_in p1 3) : CC G 3 4 24 my_X11_voter x [.int p0, .int p1] E3 1 (nI 0) := by
  intro h f
  refine ex_M_of ok_X11_voter cw_X11_voter rfl hst (Nat.le_of_ble_eq_true rfl) ?_
  refine ex_iload_n ok_X11_voter (mi 0 rfl) rfl ?_
  refine ex_bipush ok_X11_voter (mi 1 rfl) ?_
  refine ex_callSr (As := [_, _]) ok_X11_voter (mi 2 rfl) rfl (m_reqOk hst c0 (by decide) (by decide)) rfl rfl rfl (by decide) (Nat.le_of_ble_eq_true rfl) (by decide) ?_
  refine ex_iload_n ok_X11_voter (mi 3 rfl) rfl ?_
  refine ex_iconst ok_X11_voter (mi 4 rfl) ?_
  refine ex_callSt (e := 100) (As := [_, _]) ok_X11_voter (mi 5 rfl) rfl (m_reqBad hst c1 (by decide) (by decide)) rfl rfl rfl (by decide) (Nat.le_of_ble_eq_true rfl) (by decide) (fun n hn => ?_)
  exact ⟨Or.inr ⟨by decide, rfl⟩, kpZ kp0 hn⟩
theorem c_vote_b0 {G : GE} (hst : (ge_l G).stackTraces = false) {x : Nat} {p0 p1 p2 : Int32} (c0 : ¬ vp_in p0 12) : CC G 2 4 24 my_X11_vote x [.int p0, .int p1, .int p2] E3 1 (nI 0) := by
  intro h f
  refine ex_M_of ok_X11_vote cw_X11_vote rfl hst (Nat.le_of_ble_eq_true rfl) ?_
  refine ex_iload_n ok_X11_vote (mi 0 rfl) rfl ?_
  refine ex_bipush ok_X11_vote (mi 1 rfl) ?_
  refine ex_callSt (e := 100) (As := [_, _]) ok_X11_vote (mi 2 rfl) rfl (m_reqBad hst c0 (by decide) (by decide)) rfl rfl rfl (by decide) (Nat.le_of_ble_eq_true rfl) (by decide) (fun n hn => ?_)
  exact ⟨Or.inr ⟨by decide, rfl⟩, kpZ kp0 hn⟩
theorem c_vote_b1 {G : GE} (hst : (ge_l G).stackTraces = false) {x : Nat} {p0 p1 p2 : Int32} (c0 : vp_in p0 12) (c1 : ¬ vp_in p1 16) : CC G 2 4 24 my_X11_vote x [.int p0, .int p1, .int p2] E3 1 (nI 0) := by
  intro h f
  refine ex_M_of ok_X11_vote cw_X11_vote rfl hst (Nat.le_of_ble_eq_true rfl) ?_
  refine ex_iload_n ok_X11_vote (mi 0 rfl) rfl ?_
  refine ex_bipush ok_X11_vote (mi 1 rfl) ?_
  refine ex_callSr (As := [_, _]) ok_X11_vote (mi 2 rfl) rfl (m_reqOk hst c0 (by decide) (by decide)) rfl rfl rfl (by decide) (Nat.le_of_ble_eq_true rfl) (by decide) ?_
  refine ex_iload_n ok_X11_vote (mi 3 rfl) rfl ?_
  refine ex_bipush ok_X11_vote (mi 4 rfl) ?_
  refine ex_callSt (e := 100) (As := [_, _]) ok_X11_vote (mi 5 rfl) rfl (m_reqBad hst c1 (by decide) (by decide)) rfl rfl rfl (by decide) (Nat.le_of_ble_eq_true rfl) (by decide) (fun n hn => ?_)
  exact ⟨Or.inr ⟨by decide, rfl⟩, kpZ kp0 hn⟩
theorem c_copy_b0 {G : GE} (hst : (ge_l G).stackTraces = false) {x : Nat} {p0 p1 p2 : Int32} (c0 : ¬ vp_in p0 3) : CC G 2 4 24 my_X11_copy x [.int p0, .int p1] E3 1 (nI 0) := by
  intro h f
  refine ex_M_of ok_X11_copy cw_X11_copy rfl hst (Nat.le_of_ble_eq_true rfl) ?_
  refine ex_iload_n ok_X11_copy (mi 0 rfl) rfl ?_
  refine ex_iconst ok_X11_copy (mi 1 rfl) ?_
  refine ex_callSt (e := 100) (As := [_, _]) ok_X11_copy (mi 2 rfl) rfl (m_reqBad hst c0 (by decide) (by decide)) rfl rfl rfl (by decide) (Nat.le_of_ble_eq_true rfl) (by decide) (fun n hn => ?_)
  exact ⟨Or.inr ⟨by decide, rfl⟩, kpZ kp0 hn⟩
theorem c_copy_b1 {G : GE} (hst : (ge_l G).stackTraces = false) {x : Nat} {p0 p1 p2 : Int32} (c0 : vp_in p0 3) (c1 : ¬ vp_in p1 16) : CC G 2 4 24 my_X11_copy x [.int p0, .int p1] E3 1 (nI 0) := by
  intro h f
  refine ex_M_of ok_X11_copy cw_X11_copy rfl hst (Nat.le_of_ble_eq_true rfl) ?_
  refine ex_iload_n ok_X11_copy (mi 0 rfl) rfl ?_
  refine ex_iconst ok_X11_copy (mi 1 rfl) ?_
  refine ex_callSr (As := [_, _]) ok_X11_copy (mi 2 rfl) rfl (m_reqOk hst c0 (by decide) (by decide)) rfl rfl rfl (by decide) (Nat.le_of_ble_eq_true rfl) (by decide) ?_
  refine ex_iload_n ok_X11_copy (mi 3 rfl) rfl ?_
  refine ex_bipush ok_X11_copy (mi 4 rfl) ?_
  refine ex_callSt (e := 100) (As := [_, _]) ok_X11_copy (mi 5 rfl) rfl (m_reqBad hst c1 (by decide) (by decide)) rfl rfl rfl (by decide) (Nat.le_of_ble_eq_true rfl) (by decide) (fun n hn => ?_)
  exact ⟨Or.inr ⟨by decide, rfl⟩, kpZ kp0 hn⟩
theorem c_keeper_0_0 {G : GE} (hst : (ge_l G).stackTraces = false) {x : Nat}  : CC G 4 4 24 my_X11_keeper x [.int (nI 0), .int (nI 0)] E3 0 (nI 2) := by
  intro h f
  refine ex_M_of ok_X11_keeper cw_X11_keeper rfl hst (Nat.le_of_ble_eq_true rfl) ?_
  refine ex_iload_n ok_X11_keeper (mi 0 rfl) rfl ?_
  refine ex_bipush ok_X11_keeper (mi 1 rfl) ?_
  refine ex_callSr (As := [_, _]) ok_X11_keeper (mi 2 rfl) rfl (m_reqOk hst (pk_in 0 9 (by decide)) (by decide) (by decide)) rfl rfl rfl (by decide) (Nat.le_of_ble_eq_true rfl) (by decide) ?_
  refine ex_iload_n ok_X11_keeper (mi 3 rfl) rfl ?_
  refine ex_bipush ok_X11_keeper (mi 4 rfl) ?_
  refine ex_callSr (As := [_, _]) ok_X11_keeper (mi 5 rfl) rfl (m_reqOk hst (pk_in 0 8 (by decide)) (by decide) (by decide)) rfl rfl rfl (by decide) (Nat.le_of_ble_eq_true rfl) (by decide) ?_
  refine ex_aload_n ok_X11_keeper (mi 6 rfl) rfl ?_
  refine ex_getRx ok_X11_keeper (mi 7 rfl) rfl rfl (fk f.1 0 rfl) (fr f.1 56 rfl) (fk f.1 44 rfl) (by decide) ?_
  refine ex_iload_n ok_X11_keeper (mi 8 rfl) rfl ?_
  refine ex_aaldx (n := 2) ok_X11_keeper (mi 9 rfl) (by decide) (fk f.1 44 rfl) (fn f.1 44 rfl) (pk_in 0 9 (by decide)) (fo f.2.1 3 rfl) (fk f.1 45 rfl) (by decide) ?_
  refine ex_iload_n ok_X11_keeper (mi 10 rfl) rfl ?_
  refine ex_callVr (As := [_]) (v := some (.int (nI 2))) (g1 := h) ok_X11_keeper (mi 11 rfl) rfl ?c rfl (fk f.1 45 rfl) rfl rfl (by decide) (by decide) (Nat.le_of_ble_eq_true rfl) (by decide) ?_
  case c =>
    refine ex_M_of ok_X3_tell cw_X3_tell rfl hst (Nat.le_of_ble_eq_true rfl) ?_
    refine ex_iload_n ok_X3_tell (mi 0 rfl) rfl ?_
    refine ex_tblk (tgt := 44) ok_X3_tell (mi 1 rfl) (by decide) (by decide) (by decide) (by decide) ?_
    refine ex_aload_n ok_X3_tell (mi 2 rfl) rfl ?_
    refine ex_getIx ok_X3_tell (mi 3 rfl) rfl rfl (fk f.1 45 rfl) (fi f.2.2.1 109 rfl) ?_
    refine ex_iret ok_X3_tell (mi 4 rfl) rfl ?_
    exact ⟨inlI (by decide), rfl⟩
  refine ex_iret ok_X11_keeper (mi 12 rfl) rfl ?_
  exact ⟨Or.inl ⟨rfl, inlI (by decide)⟩, kp0⟩
theorem c_keeper_0_1 {G : GE} (hst : (ge_l G).stackTraces = false) {x : Nat}  : CC G 4 4 24 my_X11_keeper x [.int (nI 0), .int (nI 1)] E3 0 (nI 0) := by
  intro h f
  refine ex_M_of ok_X11_keeper cw_X11_keeper rfl hst (Nat.le_of_ble_eq_true rfl) ?_
  refine ex_iload_n ok_X11_keeper (mi 0 rfl) rfl ?_
  refine ex_bipush ok_X11_keeper (mi 1 rfl) ?_
  refine ex_callSr (As := [_, _]) ok_X11_keeper (mi 2 rfl) rfl (m_reqOk hst (pk_in 0 9 (by decide)) (by decide) (by decide)) rfl rfl rfl (by decide) (Nat.le_of_ble_eq_true rfl) (by decide) ?_
  refine ex_iload_n ok_X11_keeper (mi 3 rfl) rfl ?_
  refine ex_bipush ok_X11_keeper (mi 4 rfl) ?_
  refine ex_callSr (As := [_, _]) ok_X11_keeper (mi 5 rfl) rfl (m_reqOk hst (pk_in 1 8 (by decide)) (by decide) (by decide)) rfl rfl rfl (by decide) (Nat.le_of_ble_eq_true rfl) (by decide) ?_
  refine ex_aload_n ok_X11_keeper (mi 6 rfl) rfl ?_
  refine ex_getRx ok_X11_keeper (mi 7 rfl) rfl rfl (fk f.1 0 rfl) (fr f.1 56 rfl) (fk f.1 44 rfl) (by decide) ?_
  refine ex_iload_n ok_X11_keeper (mi 8 rfl) rfl ?_
  refine ex_aaldx (n := 2) ok_X11_keeper (mi 9 rfl) (by decide) (fk f.1 44 rfl) (fn f.1 44 rfl) (pk_in 0 9 (by decide)) (fo f.2.1 3 rfl) (fk f.1 45 rfl) (by decide) ?_
  refine ex_iload_n ok_X11_keeper (mi 10 rfl) rfl ?_
  refine ex_callVr (As := [_]) (v := some (.int (nI 0))) (g1 := h) ok_X11_keeper (mi 11 rfl) rfl ?c rfl (fk f.1 45 rfl) rfl rfl (by decide) (by decide) (Nat.le_of_ble_eq_true rfl) (by decide) ?_
  case c =>
    refine ex_M_of ok_X3_tell cw_X3_tell rfl hst (Nat.le_of_ble_eq_true rfl) ?_
    refine ex_iload_n ok_X3_tell (mi 0 rfl) rfl ?_
    refine ex_tblk (tgt := 49) ok_X3_tell (mi 1 rfl) (by decide) (by decide) (by decide) (by decide) ?_
    refine ex_aload_n ok_X3_tell (mi 5 rfl) rfl ?_
    refine ex_getIx ok_X3_tell (mi 6 rfl) rfl rfl (fk f.1 45 rfl) (fi f.2.2.1 110 rfl) ?_
    refine ex_iret ok_X3_tell (mi 7 rfl) rfl ?_
    exact ⟨inlI (by decide), rfl⟩
  refine ex_iret ok_X11_keeper (mi 12 rfl) rfl ?_
  exact ⟨Or.inl ⟨rfl, inlI (by decide)⟩, kp0⟩
theorem c_keeper_0_2 {G : GE} (hst : (ge_l G).stackTraces = false) {x : Nat}  : CC G 4 4 24 my_X11_keeper x [.int (nI 0), .int (nI 2)] E3 0 (nI 0) := by
  intro h f
  refine ex_M_of ok_X11_keeper cw_X11_keeper rfl hst (Nat.le_of_ble_eq_true rfl) ?_
  refine ex_iload_n ok_X11_keeper (mi 0 rfl) rfl ?_
  refine ex_bipush ok_X11_keeper (mi 1 rfl) ?_
  refine ex_callSr (As := [_, _]) ok_X11_keeper (mi 2 rfl) rfl (m_reqOk hst (pk_in 0 9 (by decide)) (by decide) (by decide)) rfl rfl rfl (by decide) (Nat.le_of_ble_eq_true rfl) (by decide) ?_
  refine ex_iload_n ok_X11_keeper (mi 3 rfl) rfl ?_
  refine ex_bipush ok_X11_keeper (mi 4 rfl) ?_
  refine ex_callSr (As := [_, _]) ok_X11_keeper (mi 5 rfl) rfl (m_reqOk hst (pk_in 2 8 (by decide)) (by decide) (by decide)) rfl rfl rfl (by decide) (Nat.le_of_ble_eq_true rfl) (by decide) ?_
  refine ex_aload_n ok_X11_keeper (mi 6 rfl) rfl ?_
  refine ex_getRx ok_X11_keeper (mi 7 rfl) rfl rfl (fk f.1 0 rfl) (fr f.1 56 rfl) (fk f.1 44 rfl) (by decide) ?_
  refine ex_iload_n ok_X11_keeper (mi 8 rfl) rfl ?_
  refine ex_aaldx (n := 2) ok_X11_keeper (mi 9 rfl) (by decide) (fk f.1 44 rfl) (fn f.1 44 rfl) (pk_in 0 9 (by decide)) (fo f.2.1 3 rfl) (fk f.1 45 rfl) (by decide) ?_
  refine ex_iload_n ok_X11_keeper (mi 10 rfl) rfl ?_
  refine ex_callVr (As := [_]) (v := some (.int (nI 0))) (g1 := h) ok_X11_keeper (mi 11 rfl) rfl ?c rfl (fk f.1 45 rfl) rfl rfl (by decide) (by decide) (Nat.le_of_ble_eq_true rfl) (by decide) ?_
  case c =>
    refine ex_M_of ok_X3_tell cw_X3_tell rfl hst (Nat.le_of_ble_eq_true rfl) ?_
    refine ex_iload_n ok_X3_tell (mi 0 rfl) rfl ?_
    refine ex_tblk (tgt := 54) ok_X3_tell (mi 1 rfl) (by decide) (by decide) (by decide) (by decide) ?_
    refine ex_aload_n ok_X3_tell (mi 8 rfl) rfl ?_
    refine ex_getIx ok_X3_tell (mi 9 rfl) rfl rfl (fk f.1 45 rfl) (fi f.2.2.1 112 rfl) ?_
    refine ex_iret ok_X3_tell (mi 10 rfl) rfl ?_
    exact ⟨inlI (by decide), rfl⟩
  refine ex_iret ok_X11_keeper (mi 12 rfl) rfl ?_
  exact ⟨Or.inl ⟨rfl, inlI (by decide)⟩, kp0⟩
