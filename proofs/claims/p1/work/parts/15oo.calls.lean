theorem c_count_5 {G : GE} (hst : (ge_l G).stackTraces = false) {x : Nat}  : CC G 2 4 24 my_X11_count x [.int (nI 5)] E3 0 (nI 0) := by
  intro h f
  refine ex_M_of ok_X11_count cw_X11_count rfl hst (Nat.le_of_ble_eq_true rfl) ?_
  refine ex_iload_n ok_X11_count (mi 0 rfl) rfl ?_
  refine ex_bipush ok_X11_count (mi 1 rfl) ?_
  refine ex_callSr (As := [_, _]) ok_X11_count (mi 2 rfl) rfl (m_reqOk hst (pk_in 5 6 (by decide)) (by decide) (by decide)) rfl rfl rfl (by decide) (Nat.le_of_ble_eq_true rfl) (by decide) ?_
  refine ex_iload_n ok_X11_count (mi 3 rfl) rfl ?_
  refine ex_tblk (tgt := 77) ok_X11_count (mi 4 rfl) (by decide) (by decide) (by decide) (by decide) ?_
  refine ex_aload_n ok_X11_count (mi 24 rfl) rfl ?_
  refine ex_getIx ok_X11_count (mi 25 rfl) rfl rfl (fk f.1 0 rfl) (fi f.2.2.1 206 rfl) ?_
  refine ex_iret ok_X11_count (mi 26 rfl) rfl ?_
  exact ⟨Or.inl ⟨rfl, inlI (by decide)⟩, kp0⟩
theorem c_up_b0 {G : GE} (hst : (ge_l G).stackTraces = false) {x : Nat} {p0 p1 p2 : Int32} (c0 : ¬ vp_in p0 4) : CC G 3 4 24 my_X11_up x [.int p0, .int p1, .int p2] E3 1 (nI 0) := by
  intro h f
  refine ex_M_of ok_X11_up cw_X11_up rfl hst (Nat.le_of_ble_eq_true rfl) ?_
  refine ex_iload_n ok_X11_up (mi 0 rfl) rfl ?_
  refine ex_iconst ok_X11_up (mi 1 rfl) ?_
  refine ex_callSt (e := 100) (As := [_, _]) ok_X11_up (mi 2 rfl) rfl (m_reqBad hst c0 (by decide) (by decide)) rfl rfl rfl (by decide) (Nat.le_of_ble_eq_true rfl) (by decide) (fun n hn => ?_)
  exact ⟨Or.inr ⟨by decide, rfl⟩, kpZ kp0 hn⟩
theorem c_up_0_b1 {G : GE} (hst : (ge_l G).stackTraces = false) {x : Nat} {p1 p2 : Int32} (c1 : ¬ vp_in p1 3) : CC G 3 4 24 my_X11_up x [.int (nI 0), .int p1, .int p2] E3 1 (nI 0) := by
  intro h f
  refine ex_M_of ok_X11_up cw_X11_up rfl hst (Nat.le_of_ble_eq_true rfl) ?_
  refine ex_iload_n ok_X11_up (mi 0 rfl) rfl ?_
  refine ex_iconst ok_X11_up (mi 1 rfl) ?_
  refine ex_callSr (As := [_, _]) ok_X11_up (mi 2 rfl) rfl (m_reqOk hst (pk_in 0 4 (by decide)) (by decide) (by decide)) rfl rfl rfl (by decide) (Nat.le_of_ble_eq_true rfl) (by decide) ?_
  refine ex_iload_n ok_X11_up (mi 3 rfl) rfl ?_
  refine ex_iload_n ok_X11_up (mi 4 rfl) rfl ?_
  refine ex_callSr (As := [_]) (v := some (.int (nI 3))) (g1 := h) ok_X11_up (mi 5 rfl) rfl ?c rfl rfl rfl (by decide) (Nat.le_of_ble_eq_true rfl) (by decide) ?_
  case c =>
    refine ex_M_of ok_X11_nodesOf cw_X11_nodesOf rfl hst (Nat.le_of_ble_eq_true rfl) ?_
    refine ex_iload_n ok_X11_nodesOf (mi 0 rfl) rfl ?_
    refine ex_tblk (tgt := 32) ok_X11_nodesOf (mi 1 rfl) (by decide) (by decide) (by decide) (by decide) ?_
    refine ex_iconst ok_X11_nodesOf (mi 2 rfl) ?_
    refine ex_iret ok_X11_nodesOf (mi 3 rfl) rfl ?_
    exact ⟨inlI (by decide), rfl⟩
  refine ex_callSt (e := 100) (As := [_, _]) ok_X11_up (mi 6 rfl) rfl (m_reqBad hst c1 (by decide) (by decide)) rfl rfl rfl (by decide) (Nat.le_of_ble_eq_true rfl) (by decide) (fun n hn => ?_)
  exact ⟨Or.inr ⟨by decide, rfl⟩, kpZ kp0 hn⟩
theorem c_up_0_0 {G : GE} (hst : (ge_l G).stackTraces = false) {x : Nat} {j : Nat} (hj : j < 3) : CC G 3 4 24 my_X11_up x [.int (nI 0), .int (nI j), .int (nI 0)] E3 0 (nI 1) := by
  intro h f
  refine ex_M_of ok_X11_up cw_X11_up rfl hst (Nat.le_of_ble_eq_true rfl) ?_
  refine ex_iload_n ok_X11_up (mi 0 rfl) rfl ?_
  refine ex_iconst ok_X11_up (mi 1 rfl) ?_
  refine ex_callSr (As := [_, _]) ok_X11_up (mi 2 rfl) rfl (m_reqOk hst (pk_in 0 4 (by decide)) (by decide) (by decide)) rfl rfl rfl (by decide) (Nat.le_of_ble_eq_true rfl) (by decide) ?_
  refine ex_iload_n ok_X11_up (mi 3 rfl) rfl ?_
  refine ex_iload_n ok_X11_up (mi 4 rfl) rfl ?_
  refine ex_callSr (As := [_]) (v := some (.int (nI 3))) (g1 := h) ok_X11_up (mi 5 rfl) rfl ?c rfl rfl rfl (by decide) (Nat.le_of_ble_eq_true rfl) (by decide) ?_
  case c =>
    refine ex_M_of ok_X11_nodesOf cw_X11_nodesOf rfl hst (Nat.le_of_ble_eq_true rfl) ?_
    refine ex_iload_n ok_X11_nodesOf (mi 0 rfl) rfl ?_
    refine ex_tblk (tgt := 32) ok_X11_nodesOf (mi 1 rfl) (by decide) (by decide) (by decide) (by decide) ?_
    refine ex_iconst ok_X11_nodesOf (mi 2 rfl) ?_
    refine ex_iret ok_X11_nodesOf (mi 3 rfl) rfl ?_
    exact ⟨inlI (by decide), rfl⟩
  refine ex_callSr (As := [_, _]) ok_X11_up (mi 6 rfl) rfl (m_reqOk hst (vp_in_nI hj (by decide)) (by decide) (by decide)) rfl rfl rfl (by decide) (Nat.le_of_ble_eq_true rfl) (by decide) ?_
  refine ex_aload_n ok_X11_up (mi 7 rfl) rfl ?_
  refine ex_iload_n ok_X11_up (mi 8 rfl) rfl ?_
  refine ex_iload_n ok_X11_up (mi 9 rfl) rfl ?_
  refine ex_callVr (As := [_, _]) (v := some (.int (nI 1))) (g1 := h) ok_X11_up (mi 10 rfl) rfl ?c rfl (fk f.1 0 rfl) rfl rfl (by decide) (by decide) (Nat.le_of_ble_eq_true rfl) (by decide) ?_
  case c =>
    refine ex_M_of ok_X11_isUp cw_X11_isUp rfl hst (Nat.le_of_ble_eq_true rfl) ?_
    refine ex_iload_n ok_X11_isUp (mi 0 rfl) rfl ?_
    refine ex_if_lt (tgt := 38) ok_X11_isUp (mi 1 rfl) rfl (fun hn => absurd hn (by decide)) (fun _ => ?_)
    refine ex_iload_n ok_X11_isUp (mi 2 rfl) rfl ?_
    refine ex_iconst ok_X11_isUp (mi 3 rfl) ?_
    refine ex_icmp_ge (tgt := 38) ok_X11_isUp (mi 4 rfl) rfl (fun hn => absurd hn (by decide)) (fun _ => ?_)
    refine ex_iload_n ok_X11_isUp (mi 5 rfl) rfl ?_
    refine ex_if_lt (tgt := 38) ok_X11_isUp (mi 6 rfl) rfl (fun h10 => False.elim (nI_pos (by omega) h10)) (fun h10 => ?_)
    refine ex_iload_n ok_X11_isUp (mi 7 rfl) rfl ?_
    refine ex_iload_n ok_X11_isUp (mi 8 rfl) rfl ?_
    refine ex_callSr (As := [_]) (v := some (.int (nI 3))) (g1 := h) ok_X11_isUp (mi 9 rfl) rfl ?c rfl rfl rfl (by decide) (Nat.le_of_ble_eq_true rfl) (by decide) ?_
    case c =>
      refine ex_M_of ok_X11_nodesOf cw_X11_nodesOf rfl hst (Nat.le_of_ble_eq_true rfl) ?_
      refine ex_iload_n ok_X11_nodesOf (mi 0 rfl) rfl ?_
      refine ex_tblk (tgt := 32) ok_X11_nodesOf (mi 1 rfl) (by decide) (by decide) (by decide) (by decide) ?_
      refine ex_iconst ok_X11_nodesOf (mi 2 rfl) ?_
      refine ex_iret ok_X11_nodesOf (mi 3 rfl) rfl ?_
      exact ⟨inlI (by decide), rfl⟩
    refine ex_icmp_ge (tgt := 38) ok_X11_isUp (mi 10 rfl) rfl (fun h18 => False.elim (absurd h18 (nI_ge hj (by decide)))) (fun h18 => ?_)
    refine ex_aload_n ok_X11_isUp (mi 11 rfl) rfl ?_
    refine ex_getRx ok_X11_isUp (mi 12 rfl) rfl rfl (fk f.1 0 rfl) (fr f.1 12 rfl) (fk f.1 9 rfl) (by decide) ?_
    refine ex_iload_n ok_X11_isUp (mi 13 rfl) rfl ?_
    refine ex_ialdx ok_X11_isUp (mi 14 rfl) (Or.inl (fk f.1 9 rfl)) (fn f.1 9 rfl) (pk_in 0 4 (by decide)) (fe f.2.2.2.2 0 rfl) ?_
    refine ex_iload_n ok_X11_isUp (mi 15 rfl) rfl ?_
    refine ex_ishr ok_X11_isUp (mi 16 rfl) ?_
    refine ex_iconst ok_X11_isUp (mi 17 rfl) ?_
    refine ex_iand ok_X11_isUp (mi 18 rfl) ?_
    refine ex_top (w := (nI 1)) (upb3 j hj) ?_
    refine ex_if_eq (tgt := 38) ok_X11_isUp (mi 19 rfl) rfl (fun hn => absurd hn (by decide)) (fun _ => ?_)
    refine ex_iconst ok_X11_isUp (mi 20 rfl) ?_
    refine ex_goto (tgt := 39) ok_X11_isUp (mi 21 rfl) rfl ?_
    refine ex_zret ok_X11_isUp (mi 23 rfl) rfl (by decide) ?_
    exact ⟨inlI (by decide), rfl⟩
  refine ex_istore ok_X11_up (mi 11 rfl) ?_
  refine ex_iload_n ok_X11_up (mi 12 rfl) rfl ?_
  refine ex_if_eq (tgt := 40) ok_X11_up (mi 13 rfl) rfl (fun _ => ?_) (fun hn => absurd (by decide) hn)
  refine ex_aload_n ok_X11_up (mi 25 rfl) rfl ?_
  refine ex_getRx ok_X11_up (mi 26 rfl) rfl rfl (fk f.1 0 rfl) (fr f.1 12 rfl) (fk f.1 9 rfl) (by decide) ?_
  refine ex_iload_n ok_X11_up (mi 27 rfl) rfl ?_
  refine ex_dup2 ok_X11_up (mi 28 rfl) rfl rfl ?_
  refine ex_ialdx ok_X11_up (mi 29 rfl) (Or.inl (fk f.1 9 rfl)) (fn f.1 9 rfl) (pk_in 0 4 (by decide)) (fe f.2.2.2.2 0 rfl) ?_
  refine ex_iconst ok_X11_up (mi 30 rfl) ?_
  refine ex_iload_n ok_X11_up (mi 31 rfl) rfl ?_
  refine ex_ishl ok_X11_up (mi 32 rfl) ?_
  refine ex_iconst ok_X11_up (mi 33 rfl) ?_
  refine ex_ixor ok_X11_up (mi 34 rfl) ?_
  refine ex_iand ok_X11_up (mi 35 rfl) ?_
  refine ex_iasta (ws := []) (a := 813) (j := 0) (v := ((nI 7) &&& (((nI 1) <<< ((nI j) &&& 31)) ^^^ (-1)))) ok_X11_up (mi 36 rfl) (fk f.1 9 rfl) (fn f.1 9 rfl) (pk_in 0 4 (by decide)) (by decide) rfl ?_
  refine ex_iload ok_X11_up (mi 37 rfl) rfl ?_
  refine ex_zret ok_X11_up (mi 38 rfl) rfl (by decide) ?_
  exact ⟨Or.inl ⟨rfl, inlI (by decide)⟩, (kp_ap rfl)⟩
theorem c_up_0_1 {G : GE} (hst : (ge_l G).stackTraces = false) {x : Nat} {j : Nat} (hj : j < 3) : CC G 3 4 24 my_X11_up x [.int (nI 0), .int (nI j), .int (nI 1)] E3 0 (nI 1) := by
  intro h f
  refine ex_M_of ok_X11_up cw_X11_up rfl hst (Nat.le_of_ble_eq_true rfl) ?_
  refine ex_iload_n ok_X11_up (mi 0 rfl) rfl ?_
  refine ex_iconst ok_X11_up (mi 1 rfl) ?_
  refine ex_callSr (As := [_, _]) ok_X11_up (mi 2 rfl) rfl (m_reqOk hst (pk_in 0 4 (by decide)) (by decide) (by decide)) rfl rfl rfl (by decide) (Nat.le_of_ble_eq_true rfl) (by decide) ?_
  refine ex_iload_n ok_X11_up (mi 3 rfl) rfl ?_
  refine ex_iload_n ok_X11_up (mi 4 rfl) rfl ?_
  refine ex_callSr (As := [_]) (v := some (.int (nI 3))) (g1 := h) ok_X11_up (mi 5 rfl) rfl ?c rfl rfl rfl (by decide) (Nat.le_of_ble_eq_true rfl) (by decide) ?_
  case c =>
    refine ex_M_of ok_X11_nodesOf cw_X11_nodesOf rfl hst (Nat.le_of_ble_eq_true rfl) ?_
    refine ex_iload_n ok_X11_nodesOf (mi 0 rfl) rfl ?_
    refine ex_tblk (tgt := 32) ok_X11_nodesOf (mi 1 rfl) (by decide) (by decide) (by decide) (by decide) ?_
    refine ex_iconst ok_X11_nodesOf (mi 2 rfl) ?_
    refine ex_iret ok_X11_nodesOf (mi 3 rfl) rfl ?_
    exact ⟨inlI (by decide), rfl⟩
  refine ex_callSr (As := [_, _]) ok_X11_up (mi 6 rfl) rfl (m_reqOk hst (vp_in_nI hj (by decide)) (by decide) (by decide)) rfl rfl rfl (by decide) (Nat.le_of_ble_eq_true rfl) (by decide) ?_
  refine ex_aload_n ok_X11_up (mi 7 rfl) rfl ?_
  refine ex_iload_n ok_X11_up (mi 8 rfl) rfl ?_
  refine ex_iload_n ok_X11_up (mi 9 rfl) rfl ?_
  refine ex_callVr (As := [_, _]) (v := some (.int (nI 1))) (g1 := h) ok_X11_up (mi 10 rfl) rfl ?c rfl (fk f.1 0 rfl) rfl rfl (by decide) (by decide) (Nat.le_of_ble_eq_true rfl) (by decide) ?_
  case c =>
    refine ex_M_of ok_X11_isUp cw_X11_isUp rfl hst (Nat.le_of_ble_eq_true rfl) ?_
    refine ex_iload_n ok_X11_isUp (mi 0 rfl) rfl ?_
    refine ex_if_lt (tgt := 38) ok_X11_isUp (mi 1 rfl) rfl (fun hn => absurd hn (by decide)) (fun _ => ?_)
    refine ex_iload_n ok_X11_isUp (mi 2 rfl) rfl ?_
    refine ex_iconst ok_X11_isUp (mi 3 rfl) ?_
    refine ex_icmp_ge (tgt := 38) ok_X11_isUp (mi 4 rfl) rfl (fun hn => absurd hn (by decide)) (fun _ => ?_)
    refine ex_iload_n ok_X11_isUp (mi 5 rfl) rfl ?_
    refine ex_if_lt (tgt := 38) ok_X11_isUp (mi 6 rfl) rfl (fun h10 => False.elim (nI_pos (by omega) h10)) (fun h10 => ?_)
    refine ex_iload_n ok_X11_isUp (mi 7 rfl) rfl ?_
    refine ex_iload_n ok_X11_isUp (mi 8 rfl) rfl ?_
    refine ex_callSr (As := [_]) (v := some (.int (nI 3))) (g1 := h) ok_X11_isUp (mi 9 rfl) rfl ?c rfl rfl rfl (by decide) (Nat.le_of_ble_eq_true rfl) (by decide) ?_
    case c =>
      refine ex_M_of ok_X11_nodesOf cw_X11_nodesOf rfl hst (Nat.le_of_ble_eq_true rfl) ?_
      refine ex_iload_n ok_X11_nodesOf (mi 0 rfl) rfl ?_
      refine ex_tblk (tgt := 32) ok_X11_nodesOf (mi 1 rfl) (by decide) (by decide) (by decide) (by decide) ?_
      refine ex_iconst ok_X11_nodesOf (mi 2 rfl) ?_
      refine ex_iret ok_X11_nodesOf (mi 3 rfl) rfl ?_
      exact ⟨inlI (by decide), rfl⟩
    refine ex_icmp_ge (tgt := 38) ok_X11_isUp (mi 10 rfl) rfl (fun h18 => False.elim (absurd h18 (nI_ge hj (by decide)))) (fun h18 => ?_)
    refine ex_aload_n ok_X11_isUp (mi 11 rfl) rfl ?_
    refine ex_getRx ok_X11_isUp (mi 12 rfl) rfl rfl (fk f.1 0 rfl) (fr f.1 12 rfl) (fk f.1 9 rfl) (by decide) ?_
    refine ex_iload_n ok_X11_isUp (mi 13 rfl) rfl ?_
    refine ex_ialdx ok_X11_isUp (mi 14 rfl) (Or.inl (fk f.1 9 rfl)) (fn f.1 9 rfl) (pk_in 0 4 (by decide)) (fe f.2.2.2.2 0 rfl) ?_
    refine ex_iload_n ok_X11_isUp (mi 15 rfl) rfl ?_
    refine ex_ishr ok_X11_isUp (mi 16 rfl) ?_
    refine ex_iconst ok_X11_isUp (mi 17 rfl) ?_
    refine ex_iand ok_X11_isUp (mi 18 rfl) ?_
    refine ex_top (w := (nI 1)) (upb3 j hj) ?_
    refine ex_if_eq (tgt := 38) ok_X11_isUp (mi 19 rfl) rfl (fun hn => absurd hn (by decide)) (fun _ => ?_)
    refine ex_iconst ok_X11_isUp (mi 20 rfl) ?_
    refine ex_goto (tgt := 39) ok_X11_isUp (mi 21 rfl) rfl ?_
    refine ex_zret ok_X11_isUp (mi 23 rfl) rfl (by decide) ?_
    exact ⟨inlI (by decide), rfl⟩
  refine ex_istore ok_X11_up (mi 11 rfl) ?_
  refine ex_iload_n ok_X11_up (mi 12 rfl) rfl ?_
  refine ex_if_eq (tgt := 40) ok_X11_up (mi 13 rfl) rfl (fun hn => absurd hn (by decide)) (fun _ => ?_)
  refine ex_aload_n ok_X11_up (mi 14 rfl) rfl ?_
  refine ex_getRx ok_X11_up (mi 15 rfl) rfl rfl (fk f.1 0 rfl) (fr f.1 12 rfl) (fk f.1 9 rfl) (by decide) ?_
  refine ex_iload_n ok_X11_up (mi 16 rfl) rfl ?_
  refine ex_dup2 ok_X11_up (mi 17 rfl) rfl rfl ?_
  refine ex_ialdx ok_X11_up (mi 18 rfl) (Or.inl (fk f.1 9 rfl)) (fn f.1 9 rfl) (pk_in 0 4 (by decide)) (fe f.2.2.2.2 0 rfl) ?_
  refine ex_iconst ok_X11_up (mi 19 rfl) ?_
  refine ex_iload_n ok_X11_up (mi 20 rfl) rfl ?_
  refine ex_ishl ok_X11_up (mi 21 rfl) ?_
  refine ex_ior ok_X11_up (mi 22 rfl) ?_
  refine ex_iasta (ws := []) (a := 813) (j := 0) (v := ((nI 7) ||| ((nI 1) <<< ((nI j) &&& 31)))) ok_X11_up (mi 23 rfl) (fk f.1 9 rfl) (fn f.1 9 rfl) (pk_in 0 4 (by decide)) (by decide) rfl ?_
  refine ex_goto (tgt := 54) ok_X11_up (mi 24 rfl) rfl ?_
  refine ex_iload ok_X11_up (mi 37 rfl) rfl ?_
  refine ex_zret ok_X11_up (mi 38 rfl) rfl (by decide) ?_
  exact ⟨Or.inl ⟨rfl, inlI (by decide)⟩, (kp_ap rfl)⟩
theorem c_up_1_b1 {G : GE} (hst : (ge_l G).stackTraces = false) {x : Nat} {p1 p2 : Int32} (c1 : ¬ vp_in p1 9) : CC G 3 4 24 my_X11_up x [.int (nI 1), .int p1, .int p2] E3 1 (nI 0) := by
  intro h f
  refine ex_M_of ok_X11_up cw_X11_up rfl hst (Nat.le_of_ble_eq_true rfl) ?_
  refine ex_iload_n ok_X11_up (mi 0 rfl) rfl ?_
  refine ex_iconst ok_X11_up (mi 1 rfl) ?_
  refine ex_callSr (As := [_, _]) ok_X11_up (mi 2 rfl) rfl (m_reqOk hst (pk_in 1 4 (by decide)) (by decide) (by decide)) rfl rfl rfl (by decide) (Nat.le_of_ble_eq_true rfl) (by decide) ?_
  refine ex_iload_n ok_X11_up (mi 3 rfl) rfl ?_
  refine ex_iload_n ok_X11_up (mi 4 rfl) rfl ?_
  refine ex_callSr (As := [_]) (v := some (.int (nI 9))) (g1 := h) ok_X11_up (mi 5 rfl) rfl ?c rfl rfl rfl (by decide) (Nat.le_of_ble_eq_true rfl) (by decide) ?_
  case c =>
    refine ex_M_of ok_X11_nodesOf cw_X11_nodesOf rfl hst (Nat.le_of_ble_eq_true rfl) ?_
    refine ex_iload_n ok_X11_nodesOf (mi 0 rfl) rfl ?_
    refine ex_tblk (tgt := 34) ok_X11_nodesOf (mi 1 rfl) (by decide) (by decide) (by decide) (by decide) ?_
    refine ex_bipush ok_X11_nodesOf (mi 4 rfl) ?_
    refine ex_iret ok_X11_nodesOf (mi 5 rfl) rfl ?_
    exact ⟨inlI (by decide), rfl⟩
  refine ex_callSt (e := 100) (As := [_, _]) ok_X11_up (mi 6 rfl) rfl (m_reqBad hst c1 (by decide) (by decide)) rfl rfl rfl (by decide) (Nat.le_of_ble_eq_true rfl) (by decide) (fun n hn => ?_)
  exact ⟨Or.inr ⟨by decide, rfl⟩, kpZ kp0 hn⟩
theorem c_up_1_0 {G : GE} (hst : (ge_l G).stackTraces = false) {x : Nat} {j : Nat} (hj : j < 9) : CC G 3 4 24 my_X11_up x [.int (nI 1), .int (nI j), .int (nI 0)] E3 0 (nI 1) := by
  intro h f
  refine ex_M_of ok_X11_up cw_X11_up rfl hst (Nat.le_of_ble_eq_true rfl) ?_
  refine ex_iload_n ok_X11_up (mi 0 rfl) rfl ?_
  refine ex_iconst ok_X11_up (mi 1 rfl) ?_
  refine ex_callSr (As := [_, _]) ok_X11_up (mi 2 rfl) rfl (m_reqOk hst (pk_in 1 4 (by decide)) (by decide) (by decide)) rfl rfl rfl (by decide) (Nat.le_of_ble_eq_true rfl) (by decide) ?_
  refine ex_iload_n ok_X11_up (mi 3 rfl) rfl ?_
  refine ex_iload_n ok_X11_up (mi 4 rfl) rfl ?_
  refine ex_callSr (As := [_]) (v := some (.int (nI 9))) (g1 := h) ok_X11_up (mi 5 rfl) rfl ?c rfl rfl rfl (by decide) (Nat.le_of_ble_eq_true rfl) (by decide) ?_
  case c =>
    refine ex_M_of ok_X11_nodesOf cw_X11_nodesOf rfl hst (Nat.le_of_ble_eq_true rfl) ?_
    refine ex_iload_n ok_X11_nodesOf (mi 0 rfl) rfl ?_
    refine ex_tblk (tgt := 34) ok_X11_nodesOf (mi 1 rfl) (by decide) (by decide) (by decide) (by decide) ?_
    refine ex_bipush ok_X11_nodesOf (mi 4 rfl) ?_
    refine ex_iret ok_X11_nodesOf (mi 5 rfl) rfl ?_
    exact ⟨inlI (by decide), rfl⟩
  refine ex_callSr (As := [_, _]) ok_X11_up (mi 6 rfl) rfl (m_reqOk hst (vp_in_nI hj (by decide)) (by decide) (by decide)) rfl rfl rfl (by decide) (Nat.le_of_ble_eq_true rfl) (by decide) ?_
  refine ex_aload_n ok_X11_up (mi 7 rfl) rfl ?_
  refine ex_iload_n ok_X11_up (mi 8 rfl) rfl ?_
  refine ex_iload_n ok_X11_up (mi 9 rfl) rfl ?_
  refine ex_callVr (As := [_, _]) (v := some (.int (nI 1))) (g1 := h) ok_X11_up (mi 10 rfl) rfl ?c rfl (fk f.1 0 rfl) rfl rfl (by decide) (by decide) (Nat.le_of_ble_eq_true rfl) (by decide) ?_
  case c =>
    refine ex_M_of ok_X11_isUp cw_X11_isUp rfl hst (Nat.le_of_ble_eq_true rfl) ?_
    refine ex_iload_n ok_X11_isUp (mi 0 rfl) rfl ?_
    refine ex_if_lt (tgt := 38) ok_X11_isUp (mi 1 rfl) rfl (fun hn => absurd hn (by decide)) (fun _ => ?_)
    refine ex_iload_n ok_X11_isUp (mi 2 rfl) rfl ?_
    refine ex_iconst ok_X11_isUp (mi 3 rfl) ?_
    refine ex_icmp_ge (tgt := 38) ok_X11_isUp (mi 4 rfl) rfl (fun hn => absurd hn (by decide)) (fun _ => ?_)
    refine ex_iload_n ok_X11_isUp (mi 5 rfl) rfl ?_
    refine ex_if_lt (tgt := 38) ok_X11_isUp (mi 6 rfl) rfl (fun h10 => False.elim (nI_pos (by omega) h10)) (fun h10 => ?_)
    refine ex_iload_n ok_X11_isUp (mi 7 rfl) rfl ?_
    refine ex_iload_n ok_X11_isUp (mi 8 rfl) rfl ?_
    refine ex_callSr (As := [_]) (v := some (.int (nI 9))) (g1 := h) ok_X11_isUp (mi 9 rfl) rfl ?c rfl rfl rfl (by decide) (Nat.le_of_ble_eq_true rfl) (by decide) ?_
    case c =>
      refine ex_M_of ok_X11_nodesOf cw_X11_nodesOf rfl hst (Nat.le_of_ble_eq_true rfl) ?_
      refine ex_iload_n ok_X11_nodesOf (mi 0 rfl) rfl ?_
      refine ex_tblk (tgt := 34) ok_X11_nodesOf (mi 1 rfl) (by decide) (by decide) (by decide) (by decide) ?_
      refine ex_bipush ok_X11_nodesOf (mi 4 rfl) ?_
      refine ex_iret ok_X11_nodesOf (mi 5 rfl) rfl ?_
      exact ⟨inlI (by decide), rfl⟩
    refine ex_icmp_ge (tgt := 38) ok_X11_isUp (mi 10 rfl) rfl (fun h18 => False.elim (absurd h18 (nI_ge hj (by decide)))) (fun h18 => ?_)
    refine ex_aload_n ok_X11_isUp (mi 11 rfl) rfl ?_
    refine ex_getRx ok_X11_isUp (mi 12 rfl) rfl rfl (fk f.1 0 rfl) (fr f.1 12 rfl) (fk f.1 9 rfl) (by decide) ?_
    refine ex_iload_n ok_X11_isUp (mi 13 rfl) rfl ?_
    refine ex_ialdx ok_X11_isUp (mi 14 rfl) (Or.inl (fk f.1 9 rfl)) (fn f.1 9 rfl) (pk_in 1 4 (by decide)) (fe f.2.2.2.2 1 rfl) ?_
    refine ex_iload_n ok_X11_isUp (mi 15 rfl) rfl ?_
    refine ex_ishr ok_X11_isUp (mi 16 rfl) ?_
    refine ex_iconst ok_X11_isUp (mi 17 rfl) ?_
    refine ex_iand ok_X11_isUp (mi 18 rfl) ?_
    refine ex_top (w := (nI 1)) (upb9 j hj) ?_
    refine ex_if_eq (tgt := 38) ok_X11_isUp (mi 19 rfl) rfl (fun hn => absurd hn (by decide)) (fun _ => ?_)
    refine ex_iconst ok_X11_isUp (mi 20 rfl) ?_
    refine ex_goto (tgt := 39) ok_X11_isUp (mi 21 rfl) rfl ?_
    refine ex_zret ok_X11_isUp (mi 23 rfl) rfl (by decide) ?_
    exact ⟨inlI (by decide), rfl⟩
  refine ex_istore ok_X11_up (mi 11 rfl) ?_
  refine ex_iload_n ok_X11_up (mi 12 rfl) rfl ?_
  refine ex_if_eq (tgt := 40) ok_X11_up (mi 13 rfl) rfl (fun _ => ?_) (fun hn => absurd (by decide) hn)
  refine ex_aload_n ok_X11_up (mi 25 rfl) rfl ?_
  refine ex_getRx ok_X11_up (mi 26 rfl) rfl rfl (fk f.1 0 rfl) (fr f.1 12 rfl) (fk f.1 9 rfl) (by decide) ?_
  refine ex_iload_n ok_X11_up (mi 27 rfl) rfl ?_
  refine ex_dup2 ok_X11_up (mi 28 rfl) rfl rfl ?_
  refine ex_ialdx ok_X11_up (mi 29 rfl) (Or.inl (fk f.1 9 rfl)) (fn f.1 9 rfl) (pk_in 1 4 (by decide)) (fe f.2.2.2.2 1 rfl) ?_
  refine ex_iconst ok_X11_up (mi 30 rfl) ?_
  refine ex_iload_n ok_X11_up (mi 31 rfl) rfl ?_
  refine ex_ishl ok_X11_up (mi 32 rfl) ?_
  refine ex_iconst ok_X11_up (mi 33 rfl) ?_
  refine ex_ixor ok_X11_up (mi 34 rfl) ?_
  refine ex_iand ok_X11_up (mi 35 rfl) ?_
  refine ex_iasta (ws := []) (a := 813) (j := 1) (v := ((nI 511) &&& (((nI 1) <<< ((nI j) &&& 31)) ^^^ (-1)))) ok_X11_up (mi 36 rfl) (fk f.1 9 rfl) (fn f.1 9 rfl) (pk_in 1 4 (by decide)) (by decide) rfl ?_
  refine ex_iload ok_X11_up (mi 37 rfl) rfl ?_
  refine ex_zret ok_X11_up (mi 38 rfl) rfl (by decide) ?_
  exact ⟨Or.inl ⟨rfl, inlI (by decide)⟩, (kp_ap rfl)⟩
theorem c_up_1_1 {G : GE} (hst : (ge_l G).stackTraces = false) {x : Nat} {j : Nat} (hj : j < 9) : CC G 3 4 24 my_X11_up x [.int (nI 1), .int (nI j), .int (nI 1)] E3 0 (nI 1) := by
  intro h f
  refine ex_M_of ok_X11_up cw_X11_up rfl hst (Nat.le_of_ble_eq_true rfl) ?_
  refine ex_iload_n ok_X11_up (mi 0 rfl) rfl ?_
  refine ex_iconst ok_X11_up (mi 1 rfl) ?_
  refine ex_callSr (As := [_, _]) ok_X11_up (mi 2 rfl) rfl (m_reqOk hst (pk_in 1 4 (by decide)) (by decide) (by decide)) rfl rfl rfl (by decide) (Nat.le_of_ble_eq_true rfl) (by decide) ?_
  refine ex_iload_n ok_X11_up (mi 3 rfl) rfl ?_
  refine ex_iload_n ok_X11_up (mi 4 rfl) rfl ?_
  refine ex_callSr (As := [_]) (v := some (.int (nI 9))) (g1 := h) ok_X11_up (mi 5 rfl) rfl ?c rfl rfl rfl (by decide) (Nat.le_of_ble_eq_true rfl) (by decide) ?_
  case c =>
    refine ex_M_of ok_X11_nodesOf cw_X11_nodesOf rfl hst (Nat.le_of_ble_eq_true rfl) ?_
    refine ex_iload_n ok_X11_nodesOf (mi 0 rfl) rfl ?_
    refine ex_tblk (tgt := 34) ok_X11_nodesOf (mi 1 rfl) (by decide) (by decide) (by decide) (by decide) ?_
    refine ex_bipush ok_X11_nodesOf (mi 4 rfl) ?_
    refine ex_iret ok_X11_nodesOf (mi 5 rfl) rfl ?_
    exact ⟨inlI (by decide), rfl⟩
  refine ex_callSr (As := [_, _]) ok_X11_up (mi 6 rfl) rfl (m_reqOk hst (vp_in_nI hj (by decide)) (by decide) (by decide)) rfl rfl rfl (by decide) (Nat.le_of_ble_eq_true rfl) (by decide) ?_
  refine ex_aload_n ok_X11_up (mi 7 rfl) rfl ?_
  refine ex_iload_n ok_X11_up (mi 8 rfl) rfl ?_
  refine ex_iload_n ok_X11_up (mi 9 rfl) rfl ?_
  refine ex_callVr (As := [_, _]) (v := some (.int (nI 1))) (g1 := h) ok_X11_up (mi 10 rfl) rfl ?c rfl (fk f.1 0 rfl) rfl rfl (by decide) (by decide) (Nat.le_of_ble_eq_true rfl) (by decide) ?_
  case c =>
    refine ex_M_of ok_X11_isUp cw_X11_isUp rfl hst (Nat.le_of_ble_eq_true rfl) ?_
    refine ex_iload_n ok_X11_isUp (mi 0 rfl) rfl ?_
    refine ex_if_lt (tgt := 38) ok_X11_isUp (mi 1 rfl) rfl (fun hn => absurd hn (by decide)) (fun _ => ?_)
    refine ex_iload_n ok_X11_isUp (mi 2 rfl) rfl ?_
    refine ex_iconst ok_X11_isUp (mi 3 rfl) ?_
    refine ex_icmp_ge (tgt := 38) ok_X11_isUp (mi 4 rfl) rfl (fun hn => absurd hn (by decide)) (fun _ => ?_)
    refine ex_iload_n ok_X11_isUp (mi 5 rfl) rfl ?_
    refine ex_if_lt (tgt := 38) ok_X11_isUp (mi 6 rfl) rfl (fun h10 => False.elim (nI_pos (by omega) h10)) (fun h10 => ?_)
    refine ex_iload_n ok_X11_isUp (mi 7 rfl) rfl ?_
    refine ex_iload_n ok_X11_isUp (mi 8 rfl) rfl ?_
    refine ex_callSr (As := [_]) (v := some (.int (nI 9))) (g1 := h) ok_X11_isUp (mi 9 rfl) rfl ?c rfl rfl rfl (by decide) (Nat.le_of_ble_eq_true rfl) (by decide) ?_
    case c =>
      refine ex_M_of ok_X11_nodesOf cw_X11_nodesOf rfl hst (Nat.le_of_ble_eq_true rfl) ?_
      refine ex_iload_n ok_X11_nodesOf (mi 0 rfl) rfl ?_
      refine ex_tblk (tgt := 34) ok_X11_nodesOf (mi 1 rfl) (by decide) (by decide) (by decide) (by decide) ?_
      refine ex_bipush ok_X11_nodesOf (mi 4 rfl) ?_
      refine ex_iret ok_X11_nodesOf (mi 5 rfl) rfl ?_
      exact ⟨inlI (by decide), rfl⟩
    refine ex_icmp_ge (tgt := 38) ok_X11_isUp (mi 10 rfl) rfl (fun h18 => False.elim (absurd h18 (nI_ge hj (by decide)))) (fun h18 => ?_)
    refine ex_aload_n ok_X11_isUp (mi 11 rfl) rfl ?_
    refine ex_getRx ok_X11_isUp (mi 12 rfl) rfl rfl (fk f.1 0 rfl) (fr f.1 12 rfl) (fk f.1 9 rfl) (by decide) ?_
    refine ex_iload_n ok_X11_isUp (mi 13 rfl) rfl ?_
    refine ex_ialdx ok_X11_isUp (mi 14 rfl) (Or.inl (fk f.1 9 rfl)) (fn f.1 9 rfl) (pk_in 1 4 (by decide)) (fe f.2.2.2.2 1 rfl) ?_
    refine ex_iload_n ok_X11_isUp (mi 15 rfl) rfl ?_
    refine ex_ishr ok_X11_isUp (mi 16 rfl) ?_
    refine ex_iconst ok_X11_isUp (mi 17 rfl) ?_
    refine ex_iand ok_X11_isUp (mi 18 rfl) ?_
    refine ex_top (w := (nI 1)) (upb9 j hj) ?_
    refine ex_if_eq (tgt := 38) ok_X11_isUp (mi 19 rfl) rfl (fun hn => absurd hn (by decide)) (fun _ => ?_)
    refine ex_iconst ok_X11_isUp (mi 20 rfl) ?_
    refine ex_goto (tgt := 39) ok_X11_isUp (mi 21 rfl) rfl ?_
    refine ex_zret ok_X11_isUp (mi 23 rfl) rfl (by decide) ?_
    exact ⟨inlI (by decide), rfl⟩
  refine ex_istore ok_X11_up (mi 11 rfl) ?_
  refine ex_iload_n ok_X11_up (mi 12 rfl) rfl ?_
  refine ex_if_eq (tgt := 40) ok_X11_up (mi 13 rfl) rfl (fun hn => absurd hn (by decide)) (fun _ => ?_)
  refine ex_aload_n ok_X11_up (mi 14 rfl) rfl ?_
  refine ex_getRx ok_X11_up (mi 15 rfl) rfl rfl (fk f.1 0 rfl) (fr f.1 12 rfl) (fk f.1 9 rfl) (by decide) ?_
  refine ex_iload_n ok_X11_up (mi 16 rfl) rfl ?_
  refine ex_dup2 ok_X11_up (mi 17 rfl) rfl rfl ?_
  refine ex_ialdx ok_X11_up (mi 18 rfl) (Or.inl (fk f.1 9 rfl)) (fn f.1 9 rfl) (pk_in 1 4 (by decide)) (fe f.2.2.2.2 1 rfl) ?_
  refine ex_iconst ok_X11_up (mi 19 rfl) ?_
  refine ex_iload_n ok_X11_up (mi 20 rfl) rfl ?_
  refine ex_ishl ok_X11_up (mi 21 rfl) ?_
  refine ex_ior ok_X11_up (mi 22 rfl) ?_
  refine ex_iasta (ws := []) (a := 813) (j := 1) (v := ((nI 511) ||| ((nI 1) <<< ((nI j) &&& 31)))) ok_X11_up (mi 23 rfl) (fk f.1 9 rfl) (fn f.1 9 rfl) (pk_in 1 4 (by decide)) (by decide) rfl ?_
  refine ex_goto (tgt := 54) ok_X11_up (mi 24 rfl) rfl ?_
  refine ex_iload ok_X11_up (mi 37 rfl) rfl ?_
  refine ex_zret ok_X11_up (mi 38 rfl) rfl (by decide) ?_
  exact ⟨Or.inl ⟨rfl, inlI (by decide)⟩, (kp_ap rfl)⟩
theorem c_up_2_b1 {G : GE} (hst : (ge_l G).stackTraces = false) {x : Nat} {p1 p2 : Int32} (c1 : ¬ vp_in p1 12) : CC G 3 4 24 my_X11_up x [.int (nI 2), .int p1, .int p2] E3 1 (nI 0) := by
  intro h f
  refine ex_M_of ok_X11_up cw_X11_up rfl hst (Nat.le_of_ble_eq_true rfl) ?_
  refine ex_iload_n ok_X11_up (mi 0 rfl) rfl ?_
  refine ex_iconst ok_X11_up (mi 1 rfl) ?_
  refine ex_callSr (As := [_, _]) ok_X11_up (mi 2 rfl) rfl (m_reqOk hst (pk_in 2 4 (by decide)) (by decide) (by decide)) rfl rfl rfl (by decide) (Nat.le_of_ble_eq_true rfl) (by decide) ?_
  refine ex_iload_n ok_X11_up (mi 3 rfl) rfl ?_
  refine ex_iload_n ok_X11_up (mi 4 rfl) rfl ?_
  refine ex_callSr (As := [_]) (v := some (.int (nI 12))) (g1 := h) ok_X11_up (mi 5 rfl) rfl ?c rfl rfl rfl (by decide) (Nat.le_of_ble_eq_true rfl) (by decide) ?_
  case c =>
    refine ex_M_of ok_X11_nodesOf cw_X11_nodesOf rfl hst (Nat.le_of_ble_eq_true rfl) ?_
    refine ex_iload_n ok_X11_nodesOf (mi 0 rfl) rfl ?_
    refine ex_tblk (tgt := 37) ok_X11_nodesOf (mi 1 rfl) (by decide) (by decide) (by decide) (by decide) ?_
    refine ex_bipush ok_X11_nodesOf (mi 6 rfl) ?_
    refine ex_iret ok_X11_nodesOf (mi 7 rfl) rfl ?_
    exact ⟨inlI (by decide), rfl⟩
  refine ex_callSt (e := 100) (As := [_, _]) ok_X11_up (mi 6 rfl) rfl (m_reqBad hst c1 (by decide) (by decide)) rfl rfl rfl (by decide) (Nat.le_of_ble_eq_true rfl) (by decide) (fun n hn => ?_)
  exact ⟨Or.inr ⟨by decide, rfl⟩, kpZ kp0 hn⟩
theorem c_up_2_0 {G : GE} (hst : (ge_l G).stackTraces = false) {x : Nat} {j : Nat} (hj : j < 12) : CC G 3 4 24 my_X11_up x [.int (nI 2), .int (nI j), .int (nI 0)] E3 0 (nI 1) := by
  intro h f
  refine ex_M_of ok_X11_up cw_X11_up rfl hst (Nat.le_of_ble_eq_true rfl) ?_
  refine ex_iload_n ok_X11_up (mi 0 rfl) rfl ?_
  refine ex_iconst ok_X11_up (mi 1 rfl) ?_
  refine ex_callSr (As := [_, _]) ok_X11_up (mi 2 rfl) rfl (m_reqOk hst (pk_in 2 4 (by decide)) (by decide) (by decide)) rfl rfl rfl (by decide) (Nat.le_of_ble_eq_true rfl) (by decide) ?_
  refine ex_iload_n ok_X11_up (mi 3 rfl) rfl ?_
  refine ex_iload_n ok_X11_up (mi 4 rfl) rfl ?_
  refine ex_callSr (As := [_]) (v := some (.int (nI 12))) (g1 := h) ok_X11_up (mi 5 rfl) rfl ?c rfl rfl rfl (by decide) (Nat.le_of_ble_eq_true rfl) (by decide) ?_
  case c =>
    refine ex_M_of ok_X11_nodesOf cw_X11_nodesOf rfl hst (Nat.le_of_ble_eq_true rfl) ?_
    refine ex_iload_n ok_X11_nodesOf (mi 0 rfl) rfl ?_
    refine ex_tblk (tgt := 37) ok_X11_nodesOf (mi 1 rfl) (by decide) (by decide) (by decide) (by decide) ?_
    refine ex_bipush ok_X11_nodesOf (mi 6 rfl) ?_
    refine ex_iret ok_X11_nodesOf (mi 7 rfl) rfl ?_
    exact ⟨inlI (by decide), rfl⟩
  refine ex_callSr (As := [_, _]) ok_X11_up (mi 6 rfl) rfl (m_reqOk hst (vp_in_nI hj (by decide)) (by decide) (by decide)) rfl rfl rfl (by decide) (Nat.le_of_ble_eq_true rfl) (by decide) ?_
  refine ex_aload_n ok_X11_up (mi 7 rfl) rfl ?_
  refine ex_iload_n ok_X11_up (mi 8 rfl) rfl ?_
  refine ex_iload_n ok_X11_up (mi 9 rfl) rfl ?_
  refine ex_callVr (As := [_, _]) (v := some (.int (nI 1))) (g1 := h) ok_X11_up (mi 10 rfl) rfl ?c rfl (fk f.1 0 rfl) rfl rfl (by decide) (by decide) (Nat.le_of_ble_eq_true rfl) (by decide) ?_
  case c =>
    refine ex_M_of ok_X11_isUp cw_X11_isUp rfl hst (Nat.le_of_ble_eq_true rfl) ?_
    refine ex_iload_n ok_X11_isUp (mi 0 rfl) rfl ?_
    refine ex_if_lt (tgt := 38) ok_X11_isUp (mi 1 rfl) rfl (fun hn => absurd hn (by decide)) (fun _ => ?_)
    refine ex_iload_n ok_X11_isUp (mi 2 rfl) rfl ?_
    refine ex_iconst ok_X11_isUp (mi 3 rfl) ?_
    refine ex_icmp_ge (tgt := 38) ok_X11_isUp (mi 4 rfl) rfl (fun hn => absurd hn (by decide)) (fun _ => ?_)
    refine ex_iload_n ok_X11_isUp (mi 5 rfl) rfl ?_
    refine ex_if_lt (tgt := 38) ok_X11_isUp (mi 6 rfl) rfl (fun h10 => False.elim (nI_pos (by omega) h10)) (fun h10 => ?_)
    refine ex_iload_n ok_X11_isUp (mi 7 rfl) rfl ?_
    refine ex_iload_n ok_X11_isUp (mi 8 rfl) rfl ?_
    refine ex_callSr (As := [_]) (v := some (.int (nI 12))) (g1 := h) ok_X11_isUp (mi 9 rfl) rfl ?c rfl rfl rfl (by decide) (Nat.le_of_ble_eq_true rfl) (by decide) ?_
    case c =>
      refine ex_M_of ok_X11_nodesOf cw_X11_nodesOf rfl hst (Nat.le_of_ble_eq_true rfl) ?_
      refine ex_iload_n ok_X11_nodesOf (mi 0 rfl) rfl ?_
      refine ex_tblk (tgt := 37) ok_X11_nodesOf (mi 1 rfl) (by decide) (by decide) (by decide) (by decide) ?_
      refine ex_bipush ok_X11_nodesOf (mi 6 rfl) ?_
      refine ex_iret ok_X11_nodesOf (mi 7 rfl) rfl ?_
      exact ⟨inlI (by decide), rfl⟩
    refine ex_icmp_ge (tgt := 38) ok_X11_isUp (mi 10 rfl) rfl (fun h18 => False.elim (absurd h18 (nI_ge hj (by decide)))) (fun h18 => ?_)
    refine ex_aload_n ok_X11_isUp (mi 11 rfl) rfl ?_
    refine ex_getRx ok_X11_isUp (mi 12 rfl) rfl rfl (fk f.1 0 rfl) (fr f.1 12 rfl) (fk f.1 9 rfl) (by decide) ?_
    refine ex_iload_n ok_X11_isUp (mi 13 rfl) rfl ?_
    refine ex_ialdx ok_X11_isUp (mi 14 rfl) (Or.inl (fk f.1 9 rfl)) (fn f.1 9 rfl) (pk_in 2 4 (by decide)) (fe f.2.2.2.2 2 rfl) ?_
    refine ex_iload_n ok_X11_isUp (mi 15 rfl) rfl ?_
    refine ex_ishr ok_X11_isUp (mi 16 rfl) ?_
    refine ex_iconst ok_X11_isUp (mi 17 rfl) ?_
    refine ex_iand ok_X11_isUp (mi 18 rfl) ?_
    refine ex_top (w := (nI 1)) (upb12 j hj) ?_
    refine ex_if_eq (tgt := 38) ok_X11_isUp (mi 19 rfl) rfl (fun hn => absurd hn (by decide)) (fun _ => ?_)
    refine ex_iconst ok_X11_isUp (mi 20 rfl) ?_
    refine ex_goto (tgt := 39) ok_X11_isUp (mi 21 rfl) rfl ?_
    refine ex_zret ok_X11_isUp (mi 23 rfl) rfl (by decide) ?_
    exact ⟨inlI (by decide), rfl⟩
  refine ex_istore ok_X11_up (mi 11 rfl) ?_
  refine ex_iload_n ok_X11_up (mi 12 rfl) rfl ?_
  refine ex_if_eq (tgt := 40) ok_X11_up (mi 13 rfl) rfl (fun _ => ?_) (fun hn => absurd (by decide) hn)
  refine ex_aload_n ok_X11_up (mi 25 rfl) rfl ?_
  refine ex_getRx ok_X11_up (mi 26 rfl) rfl rfl (fk f.1 0 rfl) (fr f.1 12 rfl) (fk f.1 9 rfl) (by decide) ?_
  refine ex_iload_n ok_X11_up (mi 27 rfl) rfl ?_
  refine ex_dup2 ok_X11_up (mi 28 rfl) rfl rfl ?_
  refine ex_ialdx ok_X11_up (mi 29 rfl) (Or.inl (fk f.1 9 rfl)) (fn f.1 9 rfl) (pk_in 2 4 (by decide)) (fe f.2.2.2.2 2 rfl) ?_
  refine ex_iconst ok_X11_up (mi 30 rfl) ?_
  refine ex_iload_n ok_X11_up (mi 31 rfl) rfl ?_
  refine ex_ishl ok_X11_up (mi 32 rfl) ?_
  refine ex_iconst ok_X11_up (mi 33 rfl) ?_
  refine ex_ixor ok_X11_up (mi 34 rfl) ?_
  refine ex_iand ok_X11_up (mi 35 rfl) ?_
  refine ex_iasta (ws := []) (a := 813) (j := 2) (v := ((nI 4095) &&& (((nI 1) <<< ((nI j) &&& 31)) ^^^ (-1)))) ok_X11_up (mi 36 rfl) (fk f.1 9 rfl) (fn f.1 9 rfl) (pk_in 2 4 (by decide)) (by decide) rfl ?_
  refine ex_iload ok_X11_up (mi 37 rfl) rfl ?_
  refine ex_zret ok_X11_up (mi 38 rfl) rfl (by decide) ?_
  exact ⟨Or.inl ⟨rfl, inlI (by decide)⟩, (kp_ap rfl)⟩
theorem c_up_2_1 {G : GE} (hst : (ge_l G).stackTraces = false) {x : Nat} {j : Nat} (hj : j < 12) : CC G 3 4 24 my_X11_up x [.int (nI 2), .int (nI j), .int (nI 1)] E3 0 (nI 1) := by
  intro h f
  refine ex_M_of ok_X11_up cw_X11_up rfl hst (Nat.le_of_ble_eq_true rfl) ?_
  refine ex_iload_n ok_X11_up (mi 0 rfl) rfl ?_
  refine ex_iconst ok_X11_up (mi 1 rfl) ?_
  refine ex_callSr (As := [_, _]) ok_X11_up (mi 2 rfl) rfl (m_reqOk hst (pk_in 2 4 (by decide)) (by decide) (by decide)) rfl rfl rfl (by decide) (Nat.le_of_ble_eq_true rfl) (by decide) ?_
  refine ex_iload_n ok_X11_up (mi 3 rfl) rfl ?_
  refine ex_iload_n ok_X11_up (mi 4 rfl) rfl ?_
  refine ex_callSr (As := [_]) (v := some (.int (nI 12))) (g1 := h) ok_X11_up (mi 5 rfl) rfl ?c rfl rfl rfl (by decide) (Nat.le_of_ble_eq_true rfl) (by decide) ?_
  case c =>
    refine ex_M_of ok_X11_nodesOf cw_X11_nodesOf rfl hst (Nat.le_of_ble_eq_true rfl) ?_
    refine ex_iload_n ok_X11_nodesOf (mi 0 rfl) rfl ?_
    refine ex_tblk (tgt := 37) ok_X11_nodesOf (mi 1 rfl) (by decide) (by decide) (by decide) (by decide) ?_
    refine ex_bipush ok_X11_nodesOf (mi 6 rfl) ?_
    refine ex_iret ok_X11_nodesOf (mi 7 rfl) rfl ?_
    exact ⟨inlI (by decide), rfl⟩
  refine ex_callSr (As := [_, _]) ok_X11_up (mi 6 rfl) rfl (m_reqOk hst (vp_in_nI hj (by decide)) (by decide) (by decide)) rfl rfl rfl (by decide) (Nat.le_of_ble_eq_true rfl) (by decide) ?_
  refine ex_aload_n ok_X11_up (mi 7 rfl) rfl ?_
  refine ex_iload_n ok_X11_up (mi 8 rfl) rfl ?_
  refine ex_iload_n ok_X11_up (mi 9 rfl) rfl ?_
  refine ex_callVr (As := [_, _]) (v := some (.int (nI 1))) (g1 := h) ok_X11_up (mi 10 rfl) rfl ?c rfl (fk f.1 0 rfl) rfl rfl (by decide) (by decide) (Nat.le_of_ble_eq_true rfl) (by decide) ?_
  case c =>
    refine ex_M_of ok_X11_isUp cw_X11_isUp rfl hst (Nat.le_of_ble_eq_true rfl) ?_
    refine ex_iload_n ok_X11_isUp (mi 0 rfl) rfl ?_
    refine ex_if_lt (tgt := 38) ok_X11_isUp (mi 1 rfl) rfl (fun hn => absurd hn (by decide)) (fun _ => ?_)
    refine ex_iload_n ok_X11_isUp (mi 2 rfl) rfl ?_
    refine ex_iconst ok_X11_isUp (mi 3 rfl) ?_
    refine ex_icmp_ge (tgt := 38) ok_X11_isUp (mi 4 rfl) rfl (fun hn => absurd hn (by decide)) (fun _ => ?_)
    refine ex_iload_n ok_X11_isUp (mi 5 rfl) rfl ?_
    refine ex_if_lt (tgt := 38) ok_X11_isUp (mi 6 rfl) rfl (fun h10 => False.elim (nI_pos (by omega) h10)) (fun h10 => ?_)
    refine ex_iload_n ok_X11_isUp (mi 7 rfl) rfl ?_
    refine ex_iload_n ok_X11_isUp (mi 8 rfl) rfl ?_
    refine ex_callSr (As := [_]) (v := some (.int (nI 12))) (g1 := h) ok_X11_isUp (mi 9 rfl) rfl ?c rfl rfl rfl (by decide) (Nat.le_of_ble_eq_true rfl) (by decide) ?_
    case c =>
      refine ex_M_of ok_X11_nodesOf cw_X11_nodesOf rfl hst (Nat.le_of_ble_eq_true rfl) ?_
      refine ex_iload_n ok_X11_nodesOf (mi 0 rfl) rfl ?_
      refine ex_tblk (tgt := 37) ok_X11_nodesOf (mi 1 rfl) (by decide) (by decide) (by decide) (by decide) ?_
      refine ex_bipush ok_X11_nodesOf (mi 6 rfl) ?_
      refine ex_iret ok_X11_nodesOf (mi 7 rfl) rfl ?_
      exact ⟨inlI (by decide), rfl⟩
    refine ex_icmp_ge (tgt := 38) ok_X11_isUp (mi 10 rfl) rfl (fun h18 => False.elim (absurd h18 (nI_ge hj (by decide)))) (fun h18 => ?_)
    refine ex_aload_n ok_X11_isUp (mi 11 rfl) rfl ?_
    refine ex_getRx ok_X11_isUp (mi 12 rfl) rfl rfl (fk f.1 0 rfl) (fr f.1 12 rfl) (fk f.1 9 rfl) (by decide) ?_
    refine ex_iload_n ok_X11_isUp (mi 13 rfl) rfl ?_
    refine ex_ialdx ok_X11_isUp (mi 14 rfl) (Or.inl (fk f.1 9 rfl)) (fn f.1 9 rfl) (pk_in 2 4 (by decide)) (fe f.2.2.2.2 2 rfl) ?_
    refine ex_iload_n ok_X11_isUp (mi 15 rfl) rfl ?_
    refine ex_ishr ok_X11_isUp (mi 16 rfl) ?_
    refine ex_iconst ok_X11_isUp (mi 17 rfl) ?_
    refine ex_iand ok_X11_isUp (mi 18 rfl) ?_
    refine ex_top (w := (nI 1)) (upb12 j hj) ?_
    refine ex_if_eq (tgt := 38) ok_X11_isUp (mi 19 rfl) rfl (fun hn => absurd hn (by decide)) (fun _ => ?_)
    refine ex_iconst ok_X11_isUp (mi 20 rfl) ?_
    refine ex_goto (tgt := 39) ok_X11_isUp (mi 21 rfl) rfl ?_
    refine ex_zret ok_X11_isUp (mi 23 rfl) rfl (by decide) ?_
    exact ⟨inlI (by decide), rfl⟩
  refine ex_istore ok_X11_up (mi 11 rfl) ?_
  refine ex_iload_n ok_X11_up (mi 12 rfl) rfl ?_
  refine ex_if_eq (tgt := 40) ok_X11_up (mi 13 rfl) rfl (fun hn => absurd hn (by decide)) (fun _ => ?_)
  refine ex_aload_n ok_X11_up (mi 14 rfl) rfl ?_
  refine ex_getRx ok_X11_up (mi 15 rfl) rfl rfl (fk f.1 0 rfl) (fr f.1 12 rfl) (fk f.1 9 rfl) (by decide) ?_
  refine ex_iload_n ok_X11_up (mi 16 rfl) rfl ?_
  refine ex_dup2 ok_X11_up (mi 17 rfl) rfl rfl ?_
  refine ex_ialdx ok_X11_up (mi 18 rfl) (Or.inl (fk f.1 9 rfl)) (fn f.1 9 rfl) (pk_in 2 4 (by decide)) (fe f.2.2.2.2 2 rfl) ?_
  refine ex_iconst ok_X11_up (mi 19 rfl) ?_
  refine ex_iload_n ok_X11_up (mi 20 rfl) rfl ?_
  refine ex_ishl ok_X11_up (mi 21 rfl) ?_
  refine ex_ior ok_X11_up (mi 22 rfl) ?_
  refine ex_iasta (ws := []) (a := 813) (j := 2) (v := ((nI 4095) ||| ((nI 1) <<< ((nI j) &&& 31)))) ok_X11_up (mi 23 rfl) (fk f.1 9 rfl) (fn f.1 9 rfl) (pk_in 2 4 (by decide)) (by decide) rfl ?_
  refine ex_goto (tgt := 54) ok_X11_up (mi 24 rfl) rfl ?_
  refine ex_iload ok_X11_up (mi 37 rfl) rfl ?_
  refine ex_zret ok_X11_up (mi 38 rfl) rfl (by decide) ?_
  exact ⟨Or.inl ⟨rfl, inlI (by decide)⟩, (kp_ap rfl)⟩
theorem c_up_3_b1 {G : GE} (hst : (ge_l G).stackTraces = false) {x : Nat} {p1 p2 : Int32} (c1 : ¬ vp_in p1 3) : CC G 3 4 24 my_X11_up x [.int (nI 3), .int p1, .int p2] E3 1 (nI 0) := by
  intro h f
  refine ex_M_of ok_X11_up cw_X11_up rfl hst (Nat.le_of_ble_eq_true rfl) ?_
  refine ex_iload_n ok_X11_up (mi 0 rfl) rfl ?_
  refine ex_iconst ok_X11_up (mi 1 rfl) ?_
  refine ex_callSr (As := [_, _]) ok_X11_up (mi 2 rfl) rfl (m_reqOk hst (pk_in 3 4 (by decide)) (by decide) (by decide)) rfl rfl rfl (by decide) (Nat.le_of_ble_eq_true rfl) (by decide) ?_
  refine ex_iload_n ok_X11_up (mi 3 rfl) rfl ?_
  refine ex_iload_n ok_X11_up (mi 4 rfl) rfl ?_
  refine ex_callSr (As := [_]) (v := some (.int (nI 3))) (g1 := h) ok_X11_up (mi 5 rfl) rfl ?c rfl rfl rfl (by decide) (Nat.le_of_ble_eq_true rfl) (by decide) ?_
  case c =>
    refine ex_M_of ok_X11_nodesOf cw_X11_nodesOf rfl hst (Nat.le_of_ble_eq_true rfl) ?_
    refine ex_iload_n ok_X11_nodesOf (mi 0 rfl) rfl ?_
    refine ex_tblk (tgt := 40) ok_X11_nodesOf (mi 1 rfl) (by decide) (by decide) (by decide) (by decide) ?_
    refine ex_iconst ok_X11_nodesOf (mi 8 rfl) ?_
    refine ex_iret ok_X11_nodesOf (mi 9 rfl) rfl ?_
    exact ⟨inlI (by decide), rfl⟩
  refine ex_callSt (e := 100) (As := [_, _]) ok_X11_up (mi 6 rfl) rfl (m_reqBad hst c1 (by decide) (by decide)) rfl rfl rfl (by decide) (Nat.le_of_ble_eq_true rfl) (by decide) (fun n hn => ?_)
  exact ⟨Or.inr ⟨by decide, rfl⟩, kpZ kp0 hn⟩
theorem c_up_3_0 {G : GE} (hst : (ge_l G).stackTraces = false) {x : Nat} {j : Nat} (hj : j < 3) : CC G 3 4 24 my_X11_up x [.int (nI 3), .int (nI j), .int (nI 0)] E3 0 (nI 1) := by
  intro h f
  refine ex_M_of ok_X11_up cw_X11_up rfl hst (Nat.le_of_ble_eq_true rfl) ?_
  refine ex_iload_n ok_X11_up (mi 0 rfl) rfl ?_
  refine ex_iconst ok_X11_up (mi 1 rfl) ?_
  refine ex_callSr (As := [_, _]) ok_X11_up (mi 2 rfl) rfl (m_reqOk hst (pk_in 3 4 (by decide)) (by decide) (by decide)) rfl rfl rfl (by decide) (Nat.le_of_ble_eq_true rfl) (by decide) ?_
  refine ex_iload_n ok_X11_up (mi 3 rfl) rfl ?_
  refine ex_iload_n ok_X11_up (mi 4 rfl) rfl ?_
  refine ex_callSr (As := [_]) (v := some (.int (nI 3))) (g1 := h) ok_X11_up (mi 5 rfl) rfl ?c rfl rfl rfl (by decide) (Nat.le_of_ble_eq_true rfl) (by decide) ?_
  case c =>
    refine ex_M_of ok_X11_nodesOf cw_X11_nodesOf rfl hst (Nat.le_of_ble_eq_true rfl) ?_
    refine ex_iload_n ok_X11_nodesOf (mi 0 rfl) rfl ?_
    refine ex_tblk (tgt := 40) ok_X11_nodesOf (mi 1 rfl) (by decide) (by decide) (by decide) (by decide) ?_
    refine ex_iconst ok_X11_nodesOf (mi 8 rfl) ?_
    refine ex_iret ok_X11_nodesOf (mi 9 rfl) rfl ?_
    exact ⟨inlI (by decide), rfl⟩
  refine ex_callSr (As := [_, _]) ok_X11_up (mi 6 rfl) rfl (m_reqOk hst (vp_in_nI hj (by decide)) (by decide) (by decide)) rfl rfl rfl (by decide) (Nat.le_of_ble_eq_true rfl) (by decide) ?_
  refine ex_aload_n ok_X11_up (mi 7 rfl) rfl ?_
  refine ex_iload_n ok_X11_up (mi 8 rfl) rfl ?_
  refine ex_iload_n ok_X11_up (mi 9 rfl) rfl ?_
  refine ex_callVr (As := [_, _]) (v := some (.int (nI 1))) (g1 := h) ok_X11_up (mi 10 rfl) rfl ?c rfl (fk f.1 0 rfl) rfl rfl (by decide) (by decide) (Nat.le_of_ble_eq_true rfl) (by decide) ?_
  case c =>
    refine ex_M_of ok_X11_isUp cw_X11_isUp rfl hst (Nat.le_of_ble_eq_true rfl) ?_
    refine ex_iload_n ok_X11_isUp (mi 0 rfl) rfl ?_
    refine ex_if_lt (tgt := 38) ok_X11_isUp (mi 1 rfl) rfl (fun hn => absurd hn (by decide)) (fun _ => ?_)
    refine ex_iload_n ok_X11_isUp (mi 2 rfl) rfl ?_
    refine ex_iconst ok_X11_isUp (mi 3 rfl) ?_
    refine ex_icmp_ge (tgt := 38) ok_X11_isUp (mi 4 rfl) rfl (fun hn => absurd hn (by decide)) (fun _ => ?_)
    refine ex_iload_n ok_X11_isUp (mi 5 rfl) rfl ?_
    refine ex_if_lt (tgt := 38) ok_X11_isUp (mi 6 rfl) rfl (fun h10 => False.elim (nI_pos (by omega) h10)) (fun h10 => ?_)
    refine ex_iload_n ok_X11_isUp (mi 7 rfl) rfl ?_
    refine ex_iload_n ok_X11_isUp (mi 8 rfl) rfl ?_
    refine ex_callSr (As := [_]) (v := some (.int (nI 3))) (g1 := h) ok_X11_isUp (mi 9 rfl) rfl ?c rfl rfl rfl (by decide) (Nat.le_of_ble_eq_true rfl) (by decide) ?_
    case c =>
      refine ex_M_of ok_X11_nodesOf cw_X11_nodesOf rfl hst (Nat.le_of_ble_eq_true rfl) ?_
      refine ex_iload_n ok_X11_nodesOf (mi 0 rfl) rfl ?_
      refine ex_tblk (tgt := 40) ok_X11_nodesOf (mi 1 rfl) (by decide) (by decide) (by decide) (by decide) ?_
      refine ex_iconst ok_X11_nodesOf (mi 8 rfl) ?_
      refine ex_iret ok_X11_nodesOf (mi 9 rfl) rfl ?_
      exact ⟨inlI (by decide), rfl⟩
    refine ex_icmp_ge (tgt := 38) ok_X11_isUp (mi 10 rfl) rfl (fun h18 => False.elim (absurd h18 (nI_ge hj (by decide)))) (fun h18 => ?_)
    refine ex_aload_n ok_X11_isUp (mi 11 rfl) rfl ?_
    refine ex_getRx ok_X11_isUp (mi 12 rfl) rfl rfl (fk f.1 0 rfl) (fr f.1 12 rfl) (fk f.1 9 rfl) (by decide) ?_
    refine ex_iload_n ok_X11_isUp (mi 13 rfl) rfl ?_
    refine ex_ialdx ok_X11_isUp (mi 14 rfl) (Or.inl (fk f.1 9 rfl)) (fn f.1 9 rfl) (pk_in 3 4 (by decide)) (fe f.2.2.2.2 3 rfl) ?_
    refine ex_iload_n ok_X11_isUp (mi 15 rfl) rfl ?_
    refine ex_ishr ok_X11_isUp (mi 16 rfl) ?_
    refine ex_iconst ok_X11_isUp (mi 17 rfl) ?_
    refine ex_iand ok_X11_isUp (mi 18 rfl) ?_
    refine ex_top (w := (nI 1)) (upb3 j hj) ?_
    refine ex_if_eq (tgt := 38) ok_X11_isUp (mi 19 rfl) rfl (fun hn => absurd hn (by decide)) (fun _ => ?_)
    refine ex_iconst ok_X11_isUp (mi 20 rfl) ?_
    refine ex_goto (tgt := 39) ok_X11_isUp (mi 21 rfl) rfl ?_
    refine ex_zret ok_X11_isUp (mi 23 rfl) rfl (by decide) ?_
    exact ⟨inlI (by decide), rfl⟩
  refine ex_istore ok_X11_up (mi 11 rfl) ?_
  refine ex_iload_n ok_X11_up (mi 12 rfl) rfl ?_
  refine ex_if_eq (tgt := 40) ok_X11_up (mi 13 rfl) rfl (fun _ => ?_) (fun hn => absurd (by decide) hn)
  refine ex_aload_n ok_X11_up (mi 25 rfl) rfl ?_
  refine ex_getRx ok_X11_up (mi 26 rfl) rfl rfl (fk f.1 0 rfl) (fr f.1 12 rfl) (fk f.1 9 rfl) (by decide) ?_
  refine ex_iload_n ok_X11_up (mi 27 rfl) rfl ?_
  refine ex_dup2 ok_X11_up (mi 28 rfl) rfl rfl ?_
  refine ex_ialdx ok_X11_up (mi 29 rfl) (Or.inl (fk f.1 9 rfl)) (fn f.1 9 rfl) (pk_in 3 4 (by decide)) (fe f.2.2.2.2 3 rfl) ?_
  refine ex_iconst ok_X11_up (mi 30 rfl) ?_
  refine ex_iload_n ok_X11_up (mi 31 rfl) rfl ?_
  refine ex_ishl ok_X11_up (mi 32 rfl) ?_
  refine ex_iconst ok_X11_up (mi 33 rfl) ?_
  refine ex_ixor ok_X11_up (mi 34 rfl) ?_
  refine ex_iand ok_X11_up (mi 35 rfl) ?_
  refine ex_iasta (ws := []) (a := 813) (j := 3) (v := ((nI 7) &&& (((nI 1) <<< ((nI j) &&& 31)) ^^^ (-1)))) ok_X11_up (mi 36 rfl) (fk f.1 9 rfl) (fn f.1 9 rfl) (pk_in 3 4 (by decide)) (by decide) rfl ?_
  refine ex_iload ok_X11_up (mi 37 rfl) rfl ?_
  refine ex_zret ok_X11_up (mi 38 rfl) rfl (by decide) ?_
  exact ⟨Or.inl ⟨rfl, inlI (by decide)⟩, (kp_ap rfl)⟩
theorem c_up_3_1 {G : GE} (hst : (ge_l G).stackTraces = false) {x : Nat} {j : Nat} (hj : j < 3) : CC G 3 4 24 my_X11_up x [.int (nI 3), .int (nI j), .int (nI 1)] E3 0 (nI 1) := by
  intro h f
  refine ex_M_of ok_X11_up cw_X11_up rfl hst (Nat.le_of_ble_eq_true rfl) ?_
  refine ex_iload_n ok_X11_up (mi 0 rfl) rfl ?_
  refine ex_iconst ok_X11_up (mi 1 rfl) ?_
  refine ex_callSr (As := [_, _]) ok_X11_up (mi 2 rfl) rfl (m_reqOk hst (pk_in 3 4 (by decide)) (by decide) (by decide)) rfl rfl rfl (by decide) (Nat.le_of_ble_eq_true rfl) (by decide) ?_
  refine ex_iload_n ok_X11_up (mi 3 rfl) rfl ?_
  refine ex_iload_n ok_X11_up (mi 4 rfl) rfl ?_
  refine ex_callSr (As := [_]) (v := some (.int (nI 3))) (g1 := h) ok_X11_up (mi 5 rfl) rfl ?c rfl rfl rfl (by decide) (Nat.le_of_ble_eq_true rfl) (by decide) ?_
  case c =>
    refine ex_M_of ok_X11_nodesOf cw_X11_nodesOf rfl hst (Nat.le_of_ble_eq_true rfl) ?_
    refine ex_iload_n ok_X11_nodesOf (mi 0 rfl) rfl ?_
    refine ex_tblk (tgt := 40) ok_X11_nodesOf (mi 1 rfl) (by decide) (by decide) (by decide) (by decide) ?_
    refine ex_iconst ok_X11_nodesOf (mi 8 rfl) ?_
    refine ex_iret ok_X11_nodesOf (mi 9 rfl) rfl ?_
    exact ⟨inlI (by decide), rfl⟩
  refine ex_callSr (As := [_, _]) ok_X11_up (mi 6 rfl) rfl (m_reqOk hst (vp_in_nI hj (by decide)) (by decide) (by decide)) rfl rfl rfl (by decide) (Nat.le_of_ble_eq_true rfl) (by decide) ?_
  refine ex_aload_n ok_X11_up (mi 7 rfl) rfl ?_
  refine ex_iload_n ok_X11_up (mi 8 rfl) rfl ?_
  refine ex_iload_n ok_X11_up (mi 9 rfl) rfl ?_
  refine ex_callVr (As := [_, _]) (v := some (.int (nI 1))) (g1 := h) ok_X11_up (mi 10 rfl) rfl ?c rfl (fk f.1 0 rfl) rfl rfl (by decide) (by decide) (Nat.le_of_ble_eq_true rfl) (by decide) ?_
  case c =>
    refine ex_M_of ok_X11_isUp cw_X11_isUp rfl hst (Nat.le_of_ble_eq_true rfl) ?_
    refine ex_iload_n ok_X11_isUp (mi 0 rfl) rfl ?_
    refine ex_if_lt (tgt := 38) ok_X11_isUp (mi 1 rfl) rfl (fun hn => absurd hn (by decide)) (fun _ => ?_)
    refine ex_iload_n ok_X11_isUp (mi 2 rfl) rfl ?_
    refine ex_iconst ok_X11_isUp (mi 3 rfl) ?_
    refine ex_icmp_ge (tgt := 38) ok_X11_isUp (mi 4 rfl) rfl (fun hn => absurd hn (by decide)) (fun _ => ?_)
    refine ex_iload_n ok_X11_isUp (mi 5 rfl) rfl ?_
    refine ex_if_lt (tgt := 38) ok_X11_isUp (mi 6 rfl) rfl (fun h10 => False.elim (nI_pos (by omega) h10)) (fun h10 => ?_)
    refine ex_iload_n ok_X11_isUp (mi 7 rfl) rfl ?_
    refine ex_iload_n ok_X11_isUp (mi 8 rfl) rfl ?_
    refine ex_callSr (As := [_]) (v := some (.int (nI 3))) (g1 := h) ok_X11_isUp (mi 9 rfl) rfl ?c rfl rfl rfl (by decide) (Nat.le_of_ble_eq_true rfl) (by decide) ?_
    case c =>
      refine ex_M_of ok_X11_nodesOf cw_X11_nodesOf rfl hst (Nat.le_of_ble_eq_true rfl) ?_
      refine ex_iload_n ok_X11_nodesOf (mi 0 rfl) rfl ?_
      refine ex_tblk (tgt := 40) ok_X11_nodesOf (mi 1 rfl) (by decide) (by decide) (by decide) (by decide) ?_
      refine ex_iconst ok_X11_nodesOf (mi 8 rfl) ?_
      refine ex_iret ok_X11_nodesOf (mi 9 rfl) rfl ?_
      exact ⟨inlI (by decide), rfl⟩
    refine ex_icmp_ge (tgt := 38) ok_X11_isUp (mi 10 rfl) rfl (fun h18 => False.elim (absurd h18 (nI_ge hj (by decide)))) (fun h18 => ?_)
    refine ex_aload_n ok_X11_isUp (mi 11 rfl) rfl ?_
    refine ex_getRx ok_X11_isUp (mi 12 rfl) rfl rfl (fk f.1 0 rfl) (fr f.1 12 rfl) (fk f.1 9 rfl) (by decide) ?_
    refine ex_iload_n ok_X11_isUp (mi 13 rfl) rfl ?_
    refine ex_ialdx ok_X11_isUp (mi 14 rfl) (Or.inl (fk f.1 9 rfl)) (fn f.1 9 rfl) (pk_in 3 4 (by decide)) (fe f.2.2.2.2 3 rfl) ?_
    refine ex_iload_n ok_X11_isUp (mi 15 rfl) rfl ?_
    refine ex_ishr ok_X11_isUp (mi 16 rfl) ?_
    refine ex_iconst ok_X11_isUp (mi 17 rfl) ?_
    refine ex_iand ok_X11_isUp (mi 18 rfl) ?_
    refine ex_top (w := (nI 1)) (upb3 j hj) ?_
    refine ex_if_eq (tgt := 38) ok_X11_isUp (mi 19 rfl) rfl (fun hn => absurd hn (by decide)) (fun _ => ?_)
    refine ex_iconst ok_X11_isUp (mi 20 rfl) ?_
    refine ex_goto (tgt := 39) ok_X11_isUp (mi 21 rfl) rfl ?_
    refine ex_zret ok_X11_isUp (mi 23 rfl) rfl (by decide) ?_
    exact ⟨inlI (by decide), rfl⟩
  refine ex_istore ok_X11_up (mi 11 rfl) ?_
  refine ex_iload_n ok_X11_up (mi 12 rfl) rfl ?_
  refine ex_if_eq (tgt := 40) ok_X11_up (mi 13 rfl) rfl (fun hn => absurd hn (by decide)) (fun _ => ?_)
  refine ex_aload_n ok_X11_up (mi 14 rfl) rfl ?_
  refine ex_getRx ok_X11_up (mi 15 rfl) rfl rfl (fk f.1 0 rfl) (fr f.1 12 rfl) (fk f.1 9 rfl) (by decide) ?_
  refine ex_iload_n ok_X11_up (mi 16 rfl) rfl ?_
  refine ex_dup2 ok_X11_up (mi 17 rfl) rfl rfl ?_
  refine ex_ialdx ok_X11_up (mi 18 rfl) (Or.inl (fk f.1 9 rfl)) (fn f.1 9 rfl) (pk_in 3 4 (by decide)) (fe f.2.2.2.2 3 rfl) ?_
  refine ex_iconst ok_X11_up (mi 19 rfl) ?_
  refine ex_iload_n ok_X11_up (mi 20 rfl) rfl ?_
  refine ex_ishl ok_X11_up (mi 21 rfl) ?_
  refine ex_ior ok_X11_up (mi 22 rfl) ?_
  refine ex_iasta (ws := []) (a := 813) (j := 3) (v := ((nI 7) ||| ((nI 1) <<< ((nI j) &&& 31)))) ok_X11_up (mi 23 rfl) (fk f.1 9 rfl) (fn f.1 9 rfl) (pk_in 3 4 (by decide)) (by decide) rfl ?_
  refine ex_goto (tgt := 54) ok_X11_up (mi 24 rfl) rfl ?_
  refine ex_iload ok_X11_up (mi 37 rfl) rfl ?_
  refine ex_zret ok_X11_up (mi 38 rfl) rfl (by decide) ?_
  exact ⟨Or.inl ⟨rfl, inlI (by decide)⟩, (kp_ap rfl)⟩
