theorem c_reform_1_g {G : GE} (hst : (ge_l G).stackTraces = false) {x : Nat} {p1 p2 : Int32} (c1 : okR (nI 1) p1) (c2 : ¬ okS p2) : CC G 6 4 24 my_X11_reform x [.int (nI 1), .int p1, .int p2] E3 2 (nI 0) := by
  intro h f
  refine ex_M_of ok_X11_reform cw_X11_reform rfl hst (Nat.le_of_ble_eq_true rfl) ?_
  refine ex_aload_n ok_X11_reform (mi 0 rfl) rfl ?_
  refine ex_iload_n ok_X11_reform (mi 1 rfl) rfl ?_
  refine ex_callVr (As := [_]) (v := some (.ref (x + 826))) (g1 := h) ok_X11_reform (mi 2 rfl) rfl ?c rfl (fk f.1 0 rfl) rfl rfl (by decide) (by decide) (Nat.le_of_ble_eq_true rfl) (by decide) ?_
  case c =>
    refine ex_M_of ok_X11_leaderAt cw_X11_leaderAt rfl hst (Nat.le_of_ble_eq_true rfl) ?_
    refine ex_iload_n ok_X11_leaderAt (mi 0 rfl) rfl ?_
    refine ex_iconst ok_X11_leaderAt (mi 1 rfl) ?_
    refine ex_callSr (As := [_, _]) ok_X11_leaderAt (mi 2 rfl) rfl (m_reqOk hst (pk_in 1 3 (by decide)) (by decide) (by decide)) rfl rfl rfl (by decide) (Nat.le_of_ble_eq_true rfl) (by decide) ?_
    refine ex_aload_n ok_X11_leaderAt (mi 3 rfl) rfl ?_
    refine ex_getRx ok_X11_leaderAt (mi 4 rfl) rfl rfl (fk f.1 0 rfl) (fr f.1 13 rfl) (fk f.1 10 rfl) (by decide) ?_
    refine ex_iload_n ok_X11_leaderAt (mi 5 rfl) rfl ?_
    refine ex_aaldx (n := 1) ok_X11_leaderAt (mi 6 rfl) (by decide) (fk f.1 10 rfl) (fn f.1 10 rfl) (pk_in 1 3 (by decide)) (fo f.2.1 1 rfl) (fk f.1 22 rfl) (by decide) ?_
    refine ex_aret ok_X11_leaderAt (mi 7 rfl) rfl ?_
    exact ⟨rfl, rfl⟩
  refine ex_astore ok_X11_reform (mi 3 rfl) ?_
  refine ex_iload_n ok_X11_reform (mi 4 rfl) rfl ?_
  refine ex_iload_n ok_X11_reform (mi 5 rfl) rfl ?_
  refine ex_callSr (As := [_, _]) ok_X11_reform (mi 6 rfl) rfl (m_isRoundOf1 hst c1) rfl rfl rfl (by decide) (Nat.le_of_ble_eq_true rfl) (by decide) ?_
  refine ex_if_eq (tgt := 34) ok_X11_reform (mi 7 rfl) rfl (fun hn => absurd hn (by decide)) (fun _ => ?_)
  refine ex_iload_n ok_X11_reform (mi 8 rfl) rfl ?_
  refine ex_aload ok_X11_reform (mi 9 rfl) rfl ?_
  refine ex_getRx ok_X11_reform (mi 10 rfl) rfl rfl (fk f.1 22 rfl) (fr f.1 28 rfl) (fk f.1 25 rfl) (by decide) ?_
  refine ex_getIx ok_X11_reform (mi 11 rfl) rfl rfl (fk f.1 25 rfl) (fi f.2.2.1 67 rfl) ?_
  refine ex_icmp_le (tgt := 34) ok_X11_reform (mi 12 rfl) rfl (fun h24 => False.elim (absurd (Int32.le_trans c1.1 h24) (by decide))) (fun h24 => ?_)
  refine ex_iload_n ok_X11_reform (mi 13 rfl) rfl ?_
  refine ex_callSr (As := [_]) ok_X11_reform (mi 14 rfl) rfl (m_isSet0 hst c2) rfl rfl rfl (by decide) (Nat.le_of_ble_eq_true rfl) (by decide) ?_
  refine ex_if_ne (tgt := 44) ok_X11_reform (mi 15 rfl) rfl (fun hn => absurd (by decide) hn) (fun _ => ?_)
  refine ex_throw (e := 101) ok_X11_reform (mi 16 rfl) (mi 17 rfl) (mi 18 rfl) (mi 19 rfl) (mi 20 rfl) (by decide) tx_85_89 (List.mem_of_getElem? (i := 4) rfl) rfl (by decide) (by decide) (Nat.le_of_ble_eq_true rfl) (fun n hn => ?_)
  exact ⟨Or.inr ⟨by decide, rfl⟩, kpZ kp0 hn⟩
theorem c_reform_1_k {G : GE} (hst : (ge_l G).stackTraces = false) {x : Nat} {p1 p2 : Int32} (c1 : okR (nI 1) p1) (c2 : okS p2) : CC G 6 4 24 my_X11_reform x [.int (nI 1), .int p1, .int p2] E3 0 (nI 3) := by
  intro h f
  refine ex_M_of ok_X11_reform cw_X11_reform rfl hst (Nat.le_of_ble_eq_true rfl) ?_
  refine ex_aload_n ok_X11_reform (mi 0 rfl) rfl ?_
  refine ex_iload_n ok_X11_reform (mi 1 rfl) rfl ?_
  refine ex_callVr (As := [_]) (v := some (.ref (x + 826))) (g1 := h) ok_X11_reform (mi 2 rfl) rfl ?c rfl (fk f.1 0 rfl) rfl rfl (by decide) (by decide) (Nat.le_of_ble_eq_true rfl) (by decide) ?_
  case c =>
    refine ex_M_of ok_X11_leaderAt cw_X11_leaderAt rfl hst (Nat.le_of_ble_eq_true rfl) ?_
    refine ex_iload_n ok_X11_leaderAt (mi 0 rfl) rfl ?_
    refine ex_iconst ok_X11_leaderAt (mi 1 rfl) ?_
    refine ex_callSr (As := [_, _]) ok_X11_leaderAt (mi 2 rfl) rfl (m_reqOk hst (pk_in 1 3 (by decide)) (by decide) (by decide)) rfl rfl rfl (by decide) (Nat.le_of_ble_eq_true rfl) (by decide) ?_
    refine ex_aload_n ok_X11_leaderAt (mi 3 rfl) rfl ?_
    refine ex_getRx ok_X11_leaderAt (mi 4 rfl) rfl rfl (fk f.1 0 rfl) (fr f.1 13 rfl) (fk f.1 10 rfl) (by decide) ?_
    refine ex_iload_n ok_X11_leaderAt (mi 5 rfl) rfl ?_
    refine ex_aaldx (n := 1) ok_X11_leaderAt (mi 6 rfl) (by decide) (fk f.1 10 rfl) (fn f.1 10 rfl) (pk_in 1 3 (by decide)) (fo f.2.1 1 rfl) (fk f.1 22 rfl) (by decide) ?_
    refine ex_aret ok_X11_leaderAt (mi 7 rfl) rfl ?_
    exact ⟨rfl, rfl⟩
  refine ex_astore ok_X11_reform (mi 3 rfl) ?_
  refine ex_iload_n ok_X11_reform (mi 4 rfl) rfl ?_
  refine ex_iload_n ok_X11_reform (mi 5 rfl) rfl ?_
  refine ex_callSr (As := [_, _]) ok_X11_reform (mi 6 rfl) rfl (m_isRoundOf1 hst c1) rfl rfl rfl (by decide) (Nat.le_of_ble_eq_true rfl) (by decide) ?_
  refine ex_if_eq (tgt := 34) ok_X11_reform (mi 7 rfl) rfl (fun hn => absurd hn (by decide)) (fun _ => ?_)
  refine ex_iload_n ok_X11_reform (mi 8 rfl) rfl ?_
  refine ex_aload ok_X11_reform (mi 9 rfl) rfl ?_
  refine ex_getRx ok_X11_reform (mi 10 rfl) rfl rfl (fk f.1 22 rfl) (fr f.1 28 rfl) (fk f.1 25 rfl) (by decide) ?_
  refine ex_getIx ok_X11_reform (mi 11 rfl) rfl rfl (fk f.1 25 rfl) (fi f.2.2.1 67 rfl) ?_
  refine ex_icmp_le (tgt := 34) ok_X11_reform (mi 12 rfl) rfl (fun h24 => False.elim (absurd (Int32.le_trans c1.1 h24) (by decide))) (fun h24 => ?_)
  refine ex_iload_n ok_X11_reform (mi 13 rfl) rfl ?_
  refine ex_callSr (As := [_]) ok_X11_reform (mi 14 rfl) rfl (m_isSet1 hst c2) rfl rfl rfl (by decide) (Nat.le_of_ble_eq_true rfl) (by decide) ?_
  refine ex_if_ne (tgt := 44) ok_X11_reform (mi 15 rfl) rfl (fun _ => ?_) (fun hn => absurd hn (by decide))
  refine ex_aload_n ok_X11_reform (mi 21 rfl) rfl ?_
  refine ex_iload_n ok_X11_reform (mi 22 rfl) rfl ?_
  refine ex_callVr (As := [_]) (v := none) (g1 := h) ok_X11_reform (mi 23 rfl) rfl ?c rfl (fk f.1 0 rfl) rfl rfl (by decide) (by decide) (Nat.le_of_ble_eq_true rfl) (by decide) ?_
  case c =>
    refine ex_M_of ok_X11_requireUp cw_X11_requireUp rfl hst (Nat.le_of_ble_eq_true rfl) ?_
    refine ex_aload_n ok_X11_requireUp (mi 0 rfl) rfl ?_
    refine ex_iconst ok_X11_requireUp (mi 1 rfl) ?_
    refine ex_iload_n ok_X11_requireUp (mi 2 rfl) rfl ?_
    refine ex_callVr (As := [_, _]) (v := some (.int (nI 1))) (g1 := h) ok_X11_requireUp (mi 3 rfl) rfl ?c rfl (fk f.1 0 rfl) rfl rfl (by decide) (by decide) (Nat.le_of_ble_eq_true rfl) (by decide) ?_
    case c =>
      refine ex_M_of ok_X11_isUp cw_X11_isUp rfl hst (Nat.le_of_ble_eq_true rfl) ?_
      refine ex_iload_n ok_X11_isUp (mi 0 rfl) rfl ?_
      refine ex_if_lt (tgt := 38) ok_X11_isUp (mi 1 rfl) rfl (fun hn => absurd hn (by decide)) (fun _ => ?_)
      refine ex_iload_n ok_X11_isUp (mi 2 rfl) rfl ?_
      refine ex_iconst ok_X11_isUp (mi 3 rfl) ?_
      refine ex_icmp_ge (tgt := 38) ok_X11_isUp (mi 4 rfl) rfl (fun hn => absurd hn (by decide)) (fun _ => ?_)
      refine ex_iload_n ok_X11_isUp (mi 5 rfl) rfl ?_
      refine ex_if_lt (tgt := 38) ok_X11_isUp (mi 6 rfl) rfl (fun hn => absurd hn (by decide)) (fun _ => ?_)
      refine ex_iload_n ok_X11_isUp (mi 7 rfl) rfl ?_
      refine ex_iload_n ok_X11_isUp (mi 8 rfl) rfl ?_
      refine ex_callSr (As := [_]) (v := some (.int (nI 3))) (g1 := h) ok_X11_isUp (mi 9 rfl) rfl ?c rfl rfl rfl (by decide) (Nat.le_of_ble_eq_true rfl) (by decide) ?_
      case c =>
        refine ex_M_of ok_X11_nodesOf cw_X11_nodesOf rfl hst (Nat.le_of_ble_eq_true rfl) ?_
        refine ex_iload_n ok_X11_nodesOf (mi 0 rfl) rfl ?_
        refine ex_tblk (tgt := 32) ok_X11_nodesOf (mi 1 rfl) (by decide) (by decide) (by decide) (by decide) ?_
        refine ex_iconst ok_X11_nodesOf (mi 2 rfl) ?_
        refine ex_iret ok_X11_nodesOf (mi 3 rfl) rfl ?_
        exact ⟨inlI (by decide), rfl⟩
      refine ex_icmp_ge (tgt := 38) ok_X11_isUp (mi 10 rfl) rfl (fun hn => absurd hn (by decide)) (fun _ => ?_)
      refine ex_aload_n ok_X11_isUp (mi 11 rfl) rfl ?_
      refine ex_getRx ok_X11_isUp (mi 12 rfl) rfl rfl (fk f.1 0 rfl) (fr f.1 12 rfl) (fk f.1 9 rfl) (by decide) ?_
      refine ex_iload_n ok_X11_isUp (mi 13 rfl) rfl ?_
      refine ex_ialdx ok_X11_isUp (mi 14 rfl) (Or.inl (fk f.1 9 rfl)) (fn f.1 9 rfl) (pk_in 0 4 (by decide)) (fe f.2.2.2.2 0 rfl) ?_
      refine ex_iload_n ok_X11_isUp (mi 15 rfl) rfl ?_
      refine ex_ishr ok_X11_isUp (mi 16 rfl) ?_
      refine ex_top (w := (nI 3)) (by decide) ?_
      refine ex_iconst ok_X11_isUp (mi 17 rfl) ?_
      refine ex_iand ok_X11_isUp (mi 18 rfl) ?_
      refine ex_top (w := (nI 1)) (by decide) ?_
      refine ex_if_eq (tgt := 38) ok_X11_isUp (mi 19 rfl) rfl (fun hn => absurd hn (by decide)) (fun _ => ?_)
      refine ex_iconst ok_X11_isUp (mi 20 rfl) ?_
      refine ex_goto (tgt := 39) ok_X11_isUp (mi 21 rfl) rfl ?_
      refine ex_zret ok_X11_isUp (mi 23 rfl) rfl (by decide) ?_
      exact ⟨inlI (by decide), rfl⟩
    refine ex_if_ne (tgt := 20) ok_X11_requireUp (mi 4 rfl) rfl (fun _ => ?_) (fun hn => absurd hn (by decide))
    refine ex_vret ok_X11_requireUp (mi 10 rfl) rfl ?_
    exact ⟨rfl, rfl⟩
  refine ex_aload ok_X11_reform (mi 24 rfl) rfl ?_
  refine ex_getRx ok_X11_reform (mi 25 rfl) rfl rfl (fk f.1 22 rfl) (fr f.1 28 rfl) (fk f.1 25 rfl) (by decide) ?_
  refine ex_iload_n ok_X11_reform (mi 26 rfl) rfl ?_
  refine ex_iload_n ok_X11_reform (mi 27 rfl) rfl ?_
  refine ex_callVr (As := [_, _]) (v := none) (g1 := (ap x [(0, 7, 607, 0, (nI 0)), (0, 7, 606, 0, (nI 0)), (0, 7, 605, 0, (nI 0)), (0, 7, 604, 0, p1), (0, 7, 603, 0, (nI 0)), (0, 7, 602, 0, (nI 2)), (0, 7, 601, 0, (nI 1)), (0, 7, 600, 0, (nI 16)), (0, 1, 4, 0, (nI 3)), (0, 1, 6, 0, (nI 3)), (0, 5, 607, 0, (nI 0)), (0, 5, 606, 0, (nI 0)), (0, 5, 605, 0, (nI 0)), (0, 5, 604, 0, p1), (0, 5, 603, 0, (nI 0)), (0, 5, 602, 0, (nI 1)), (0, 5, 601, 0, (nI 1)), (0, 5, 600, 0, (nI 16)), (0, 1, 4, 0, (nI 2)), (0, 1, 6, 0, (nI 2)), (0, 3, 607, 0, (nI 0)), (0, 3, 606, 0, (nI 0)), (0, 3, 605, 0, (nI 0)), (0, 3, 604, 0, p1), (0, 3, 603, 0, (nI 0)), (0, 3, 602, 0, (nI 0)), (0, 3, 601, 0, (nI 1)), (0, 3, 600, 0, (nI 16)), (0, 1, 4, 0, (nI 1)), (0, 1, 6, 0, (nI 1)), (0, 829, 406, 0, p2), (0, 829, 405, 0, p1), (0, 829, 404, 0, (nI 1)), (0, 829, 411, 0, (nI 0)), (0, 829, 410, 0, ((-1))), (2, 830, 0, 10, (nI 0)), (0, 829, 408, 0, (nI 0)), (0, 829, 407, 0, (nI 0))] h)) ok_X11_reform (mi 28 rfl) rfl ?c rfl (fk f.1 25 rfl) rfl rfl (by decide) (by decide) (Nat.le_of_ble_eq_true rfl) (by decide) ?_
  case c =>
    refine ex_M_of ok_X4_startReform cw_X4_startReform rfl hst (Nat.le_of_ble_eq_true rfl) ?_
    refine ex_aload_n ok_X4_startReform (mi 0 rfl) rfl ?_
    refine ex_callVr (As := []) (v := none) (g1 := (ap x [(0, 829, 411, 0, (nI 0)), (0, 829, 410, 0, ((-1))), (2, 830, 0, 10, (nI 0)), (0, 829, 408, 0, (nI 0)), (0, 829, 407, 0, (nI 0))] h)) ok_X4_startReform (mi 1 rfl) rfl (mA_X4_forget (ws := []) hst (sh_sub 829 f.1 (by decide +kernel) (by decide +kernel))) rfl (fk f.1 25 rfl) rfl rfl (by decide) (by decide) (Nat.le_of_ble_eq_true rfl) (by decide) ?_
    refine ex_aload_n ok_X4_startReform (mi 2 rfl) rfl ?_
    refine ex_iconst ok_X4_startReform (mi 3 rfl) ?_
    refine ex_putIa (a := 829) (v := (nI 1)) ok_X4_startReform (mi 4 rfl) rfl rfl (fk f.1 25 rfl) (by decide) ?_
    refine ex_aload_n ok_X4_startReform (mi 5 rfl) rfl ?_
    refine ex_iload_n ok_X4_startReform (mi 6 rfl) rfl ?_
    refine ex_putIa (a := 829) (v := p1) ok_X4_startReform (mi 7 rfl) rfl rfl (fk f.1 25 rfl) rfl ?_
    refine ex_aload_n ok_X4_startReform (mi 8 rfl) rfl ?_
    refine ex_iload_n ok_X4_startReform (mi 9 rfl) rfl ?_
    refine ex_putIa (a := 829) (v := p2) ok_X4_startReform (mi 10 rfl) rfl rfl (fk f.1 25 rfl) rfl ?_
    refine ex_aload_n ok_X4_startReform (mi 11 rfl) rfl ?_
    refine ex_callVr (As := []) (v := none) (g1 := (ap x [(0, 7, 607, 0, (nI 0)), (0, 7, 606, 0, (nI 0)), (0, 7, 605, 0, (nI 0)), (0, 7, 604, 0, p1), (0, 7, 603, 0, (nI 0)), (0, 7, 602, 0, (nI 2)), (0, 7, 601, 0, (nI 1)), (0, 7, 600, 0, (nI 16)), (0, 1, 4, 0, (nI 3)), (0, 1, 6, 0, (nI 3)), (0, 5, 607, 0, (nI 0)), (0, 5, 606, 0, (nI 0)), (0, 5, 605, 0, (nI 0)), (0, 5, 604, 0, p1), (0, 5, 603, 0, (nI 0)), (0, 5, 602, 0, (nI 1)), (0, 5, 601, 0, (nI 1)), (0, 5, 600, 0, (nI 16)), (0, 1, 4, 0, (nI 2)), (0, 1, 6, 0, (nI 2)), (0, 3, 607, 0, (nI 0)), (0, 3, 606, 0, (nI 0)), (0, 3, 605, 0, (nI 0)), (0, 3, 604, 0, p1), (0, 3, 603, 0, (nI 0)), (0, 3, 602, 0, (nI 0)), (0, 3, 601, 0, (nI 1)), (0, 3, 600, 0, (nI 16)), (0, 1, 4, 0, (nI 1)), (0, 1, 6, 0, (nI 1)), (0, 829, 406, 0, p2), (0, 829, 405, 0, p1), (0, 829, 404, 0, (nI 1)), (0, 829, 411, 0, (nI 0)), (0, 829, 410, 0, ((-1))), (2, 830, 0, 10, (nI 0)), (0, 829, 408, 0, (nI 0)), (0, 829, 407, 0, (nI 0))] h)) ok_X4_startReform (mi 12 rfl) rfl ?c rfl (kq apq (fk f.1 25 rfl)) rfl rfl (by decide) (by decide) (Nat.le_of_ble_eq_true rfl) (by decide) ?_
    case c =>
      refine ex_M_of ok_X4_sendStep cw_X4_sendStep rfl hst (Nat.le_of_ble_eq_true rfl) ?_
      refine ex_aload_n ok_X4_sendStep (mi 0 rfl) rfl ?_
      refine ex_getIx ok_X4_sendStep (mi 1 rfl) rfl rfl (kq apq (fk f.1 25 rfl)) (apI (a := 829) rfl) ?_
      refine ex_iconst ok_X4_sendStep (mi 2 rfl) ?_
      refine ex_icmp_ne (tgt := 44) ok_X4_sendStep (mi 3 rfl) rfl (fun hn => absurd (by decide) hn) (fun _ => ?_)
      refine ex_aload_n ok_X4_sendStep (mi 4 rfl) rfl ?_
      refine ex_getRx ok_X4_sendStep (mi 5 rfl) rfl rfl (kq apq (fk f.1 25 rfl)) (rq apq (fr f.1 40 rfl)) (kq apq (fk f.1 1 rfl)) (by decide) ?_
      refine ex_bipush ok_X4_sendStep (mi 6 rfl) ?_
      refine ex_aload_n ok_X4_sendStep (mi 7 rfl) rfl ?_
      refine ex_getIx ok_X4_sendStep (mi 8 rfl) rfl rfl (kq apq (fk f.1 25 rfl)) (apI0 (a := 829) rfl (fi f.2.2.1 4 rfl)) ?_
      refine ex_aload_n ok_X4_sendStep (mi 9 rfl) rfl ?_
      refine ex_getIx ok_X4_sendStep (mi 10 rfl) rfl rfl (kq apq (fk f.1 25 rfl)) (apI0 (a := 829) rfl (fi f.2.2.1 65 rfl)) ?_
      refine ex_aload_n ok_X4_sendStep (mi 11 rfl) rfl ?_
      refine ex_getIx ok_X4_sendStep (mi 12 rfl) rfl rfl (kq apq (fk f.1 25 rfl)) (apI (a := 829) rfl) ?_
      refine ex_iconst ok_X4_sendStep (mi 13 rfl) ?_
      refine ex_ixor ok_X4_sendStep (mi 14 rfl) ?_
      refine ex_top (w := (-1)) (by decide) ?_
      refine ex_iand ok_X4_sendStep (mi 15 rfl) ?_
      refine ex_top (w := (nI 7)) (by decide) ?_
      refine ex_aload_n ok_X4_sendStep (mi 16 rfl) rfl ?_
      refine ex_getIx ok_X4_sendStep (mi 17 rfl) rfl rfl (kq apq (fk f.1 25 rfl)) (apI0 (a := 829) rfl (fi f.2.2.1 64 rfl)) ?_
      refine ex_aload_n ok_X4_sendStep (mi 18 rfl) rfl ?_
      refine ex_getIx ok_X4_sendStep (mi 19 rfl) rfl rfl (kq apq (fk f.1 25 rfl)) (apI (a := 829) rfl) ?_
      refine ex_iconst ok_X4_sendStep (mi 20 rfl) ?_
      refine ex_callVr (As := [_, _, _, _, _, _]) (v := none) (g1 := (ap x [(0, 7, 607, 0, (nI 0)), (0, 7, 606, 0, (nI 0)), (0, 7, 605, 0, (nI 0)), (0, 7, 604, 0, p1), (0, 7, 603, 0, (nI 0)), (0, 7, 602, 0, (nI 2)), (0, 7, 601, 0, (nI 1)), (0, 7, 600, 0, (nI 16)), (0, 1, 4, 0, (nI 3)), (0, 1, 6, 0, (nI 3)), (0, 5, 607, 0, (nI 0)), (0, 5, 606, 0, (nI 0)), (0, 5, 605, 0, (nI 0)), (0, 5, 604, 0, p1), (0, 5, 603, 0, (nI 0)), (0, 5, 602, 0, (nI 1)), (0, 5, 601, 0, (nI 1)), (0, 5, 600, 0, (nI 16)), (0, 1, 4, 0, (nI 2)), (0, 1, 6, 0, (nI 2)), (0, 3, 607, 0, (nI 0)), (0, 3, 606, 0, (nI 0)), (0, 3, 605, 0, (nI 0)), (0, 3, 604, 0, p1), (0, 3, 603, 0, (nI 0)), (0, 3, 602, 0, (nI 0)), (0, 3, 601, 0, (nI 1)), (0, 3, 600, 0, (nI 16)), (0, 1, 4, 0, (nI 1)), (0, 1, 6, 0, (nI 1)), (0, 829, 406, 0, p2), (0, 829, 405, 0, p1), (0, 829, 404, 0, (nI 1)), (0, 829, 411, 0, (nI 0)), (0, 829, 410, 0, ((-1))), (2, 830, 0, 10, (nI 0)), (0, 829, 408, 0, (nI 0)), (0, 829, 407, 0, (nI 0))] h)) ok_X4_sendStep (mi 21 rfl) rfl ?c rfl (kq apq (fk f.1 1 rfl)) rfl rfl (by decide) (by decide) (Nat.le_of_ble_eq_true rfl) (by decide) ?_
      case c =>
        refine ex_M_of ok_X0_sendEach cw_X0_sendEach rfl hst (Nat.le_of_ble_eq_true rfl) ?_
        refine ex_iconst ok_X0_sendEach (mi 0 rfl) ?_
        refine ex_istore ok_X0_sendEach (mi 1 rfl) ?_
        refine ex_iload ok_X0_sendEach (mi 2 rfl) rfl ?_
        refine ex_bipush ok_X0_sendEach (mi 3 rfl) ?_
        refine ex_icmp_ge (tgt := 40) ok_X0_sendEach (mi 4 rfl) rfl (fun hn => absurd hn (by decide)) (fun _ => ?_)
        refine ex_iload_n ok_X0_sendEach (mi 5 rfl) rfl ?_
        refine ex_iload ok_X0_sendEach (mi 6 rfl) rfl ?_
        refine ex_ishr ok_X0_sendEach (mi 7 rfl) ?_
        refine ex_top (w := (nI 7)) (by decide) ?_
        refine ex_iconst ok_X0_sendEach (mi 8 rfl) ?_
        refine ex_iand ok_X0_sendEach (mi 9 rfl) ?_
        refine ex_top (w := (nI 1)) (by decide) ?_
        refine ex_if_eq (tgt := 34) ok_X0_sendEach (mi 10 rfl) rfl (fun hn => absurd hn (by decide)) (fun _ => ?_)
        refine ex_aload_n ok_X0_sendEach (mi 11 rfl) rfl ?_
        refine ex_iload_n ok_X0_sendEach (mi 12 rfl) rfl ?_
        refine ex_iload_n ok_X0_sendEach (mi 13 rfl) rfl ?_
        refine ex_iload ok_X0_sendEach (mi 14 rfl) rfl ?_
        refine ex_iload ok_X0_sendEach (mi 15 rfl) rfl ?_
        refine ex_iload ok_X0_sendEach (mi 16 rfl) rfl ?_
        refine ex_iload ok_X0_sendEach (mi 17 rfl) rfl ?_
        refine ex_callVr (As := [_, _, _, _, _, _]) (v := some (.ref (x + 3))) (g1 := (ap x [(0, 3, 607, 0, (nI 0)), (0, 3, 606, 0, (nI 0)), (0, 3, 605, 0, (nI 0)), (0, 3, 604, 0, p1), (0, 3, 603, 0, (nI 0)), (0, 3, 602, 0, (nI 0)), (0, 3, 601, 0, (nI 1)), (0, 3, 600, 0, (nI 16)), (0, 1, 4, 0, (nI 1)), (0, 1, 6, 0, (nI 1)), (0, 829, 406, 0, p2), (0, 829, 405, 0, p1), (0, 829, 404, 0, (nI 1)), (0, 829, 411, 0, (nI 0)), (0, 829, 410, 0, ((-1))), (2, 830, 0, 10, (nI 0)), (0, 829, 408, 0, (nI 0)), (0, 829, 407, 0, (nI 0))] h)) ok_X0_sendEach (mi 18 rfl) rfl ?c rfl (kq apq (fk f.1 1 rfl)) rfl rfl (by decide) (by decide) (Nat.le_of_ble_eq_true rfl) (by decide) ?_
        case c =>
          refine ex_M_of ok_X0_send cw_X0_send rfl hst (Nat.le_of_ble_eq_true rfl) ?_
          refine ex_aload_n ok_X0_send (mi 0 rfl) rfl ?_
          refine ex_getRx ok_X0_send (mi 1 rfl) rfl rfl (kq apq (fk f.1 1 rfl)) (rq apq (fr f.1 2 rfl)) (kq apq (fk f.1 91 rfl)) (by decide) ?_
          refine ex_astore ok_X0_send (mi 2 rfl) ?_
          refine ex_aload_n ok_X0_send (mi 3 rfl) rfl ?_
          refine ex_dup ok_X0_send (mi 4 rfl) rfl ?_
          refine ex_getIx ok_X0_send (mi 5 rfl) rfl rfl (kq apq (fk f.1 1 rfl)) (apI0 (a := 1) rfl (fi f.2.2.1 33 rfl)) ?_
          refine ex_iconst ok_X0_send (mi 6 rfl) ?_
          refine ex_iadd ok_X0_send (mi 7 rfl) ?_
          refine ex_top (w := (nI 1)) (by decide) ?_
          refine ex_putIa (a := 1) (v := (nI 1)) ok_X0_send (mi 8 rfl) rfl rfl (fk f.1 1 rfl) (by decide) ?_
          refine ex_aload_n ok_X0_send (mi 9 rfl) rfl ?_
          refine ex_getIx ok_X0_send (mi 10 rfl) rfl rfl (kq apq (fk f.1 1 rfl)) (apI0 (a := 1) rfl (fi f.2.2.1 31 rfl)) ?_
          refine ex_sipush ok_X0_send (mi 11 rfl) ?_
          refine ex_icmp_ge (tgt := 59) ok_X0_send (mi 12 rfl) rfl (fun hn => absurd hn (by decide)) (fun _ => ?_)
          refine ex_aload_n ok_X0_send (mi 13 rfl) rfl ?_
          refine ex_getRx ok_X0_send (mi 14 rfl) rfl rfl (kq apq (fk f.1 1 rfl)) (rq apq (fr f.1 0 rfl)) (kq apq (fk f.1 2 rfl)) (by decide) ?_
          refine ex_aload_n ok_X0_send (mi 15 rfl) rfl ?_
          refine ex_getIx ok_X0_send (mi 16 rfl) rfl rfl (kq apq (fk f.1 1 rfl)) (apI0 (a := 1) rfl (fi f.2.2.1 30 rfl)) ?_
          refine ex_aload_n ok_X0_send (mi 17 rfl) rfl ?_
          refine ex_getIx ok_X0_send (mi 18 rfl) rfl rfl (kq apq (fk f.1 1 rfl)) (apI0 (a := 1) rfl (fi f.2.2.1 31 rfl)) ?_
          refine ex_iadd ok_X0_send (mi 19 rfl) ?_
          refine ex_top (w := (nI 0)) (by decide) ?_
          refine ex_sipush ok_X0_send (mi 20 rfl) ?_
          refine ex_irem ok_X0_send (mi 21 rfl) (by decide) ?_
          refine ex_top (w := (nI 0)) (by decide) ?_
          refine ex_aaldx (n := 0) ok_X0_send (mi 22 rfl) (by decide) (kq apq (fk f.1 2 rfl)) (nq apq (fn f.1 2 rfl)) (pk_in 0 400 (by decide)) (oq apq (fo f.2.1 24 rfl)) (kq apq (fk f.1 88 rfl)) (by decide) ?_
          refine ex_astore ok_X0_send (mi 23 rfl) ?_
          refine ex_aload_n ok_X0_send (mi 24 rfl) rfl ?_
          refine ex_dup ok_X0_send (mi 25 rfl) rfl ?_
          refine ex_getIx ok_X0_send (mi 26 rfl) rfl rfl (kq apq (fk f.1 1 rfl)) (apI0 (a := 1) rfl (fi f.2.2.1 31 rfl)) ?_
          refine ex_iconst ok_X0_send (mi 27 rfl) ?_
          refine ex_iadd ok_X0_send (mi 28 rfl) ?_
          refine ex_top (w := (nI 1)) (by decide) ?_
          refine ex_putIa (a := 1) (v := (nI 1)) ok_X0_send (mi 29 rfl) rfl rfl (fk f.1 1 rfl) (by decide) ?_
          refine ex_goto (tgt := 69) ok_X0_send (mi 30 rfl) rfl ?_
          refine ex_aload ok_X0_send (mi 37 rfl) rfl ?_
          refine ex_iload_n ok_X0_send (mi 38 rfl) rfl ?_
          refine ex_putIa (a := 3) (v := (nI 16)) ok_X0_send (mi 39 rfl) rfl rfl (fk f.1 88 rfl) (by decide) ?_
          refine ex_aload ok_X0_send (mi 40 rfl) rfl ?_
          refine ex_iload_n ok_X0_send (mi 41 rfl) rfl ?_
          refine ex_putIa (a := 3) (v := (nI 1)) ok_X0_send (mi 42 rfl) rfl rfl (fk f.1 88 rfl) (by decide) ?_
          refine ex_aload ok_X0_send (mi 43 rfl) rfl ?_
          refine ex_iload_n ok_X0_send (mi 44 rfl) rfl ?_
          refine ex_putIa (a := 3) (v := (nI 0)) ok_X0_send (mi 45 rfl) rfl rfl (fk f.1 88 rfl) (by decide) ?_
          refine ex_aload ok_X0_send (mi 46 rfl) rfl ?_
          refine ex_iload ok_X0_send (mi 47 rfl) rfl ?_
          refine ex_putIa (a := 3) (v := (nI 0)) ok_X0_send (mi 48 rfl) rfl rfl (fk f.1 88 rfl) (by decide) ?_
          refine ex_aload ok_X0_send (mi 49 rfl) rfl ?_
          refine ex_iload ok_X0_send (mi 50 rfl) rfl ?_
          refine ex_putIa (a := 3) (v := p1) ok_X0_send (mi 51 rfl) rfl rfl (fk f.1 88 rfl) rfl ?_
          refine ex_aload ok_X0_send (mi 52 rfl) rfl ?_
          refine ex_iload ok_X0_send (mi 53 rfl) rfl ?_
          refine ex_putIa (a := 3) (v := (nI 0)) ok_X0_send (mi 54 rfl) rfl rfl (fk f.1 88 rfl) (by decide) ?_
          refine ex_aload ok_X0_send (mi 55 rfl) rfl ?_
          refine ex_iconst ok_X0_send (mi 56 rfl) ?_
          refine ex_putIa (a := 3) (v := (nI 0)) ok_X0_send (mi 57 rfl) rfl rfl (fk f.1 88 rfl) (by decide) ?_
          refine ex_aload ok_X0_send (mi 58 rfl) rfl ?_
          refine ex_iconst ok_X0_send (mi 59 rfl) ?_
          refine ex_putIa (a := 3) (v := (nI 0)) ok_X0_send (mi 60 rfl) rfl rfl (fk f.1 88 rfl) (by decide) ?_
          refine ex_aload ok_X0_send (mi 61 rfl) rfl ?_
          refine ex_aret ok_X0_send (mi 62 rfl) rfl ?_
          exact ⟨rfl, rfl⟩
        refine ex_pop ok_X0_sendEach (mi 19 rfl) rfl ?_
        refine ex_iincx (w := (nI 1)) ok_X0_sendEach (mi 20 rfl) rfl (by decide) ?_
        refine ex_goto (tgt := 3) ok_X0_sendEach (mi 21 rfl) rfl ?_
        refine ex_ls (ls' := [(0, .ref (x + 1)), (1, .int (nI 16)), (2, .int (nI 1)), (3, .int (nI 7)), (4, .int (nI 0)), (5, .int p1), (6, .int (nI 0)), (7, .int (nI 1))]) ⟨rfl, rfl, rfl, rfl, rfl, rfl, rfl, rfl, trivial⟩ ?_
        refine ex_iload ok_X0_sendEach (mi 2 rfl) rfl ?_
        refine ex_bipush ok_X0_sendEach (mi 3 rfl) ?_
        refine ex_icmp_ge (tgt := 40) ok_X0_sendEach (mi 4 rfl) rfl (fun hn => absurd hn (by decide)) (fun _ => ?_)
        refine ex_iload_n ok_X0_sendEach (mi 5 rfl) rfl ?_
        refine ex_iload ok_X0_sendEach (mi 6 rfl) rfl ?_
        refine ex_ishr ok_X0_sendEach (mi 7 rfl) ?_
        refine ex_top (w := (nI 3)) (by decide) ?_
        refine ex_iconst ok_X0_sendEach (mi 8 rfl) ?_
        refine ex_iand ok_X0_sendEach (mi 9 rfl) ?_
        refine ex_top (w := (nI 1)) (by decide) ?_
        refine ex_if_eq (tgt := 34) ok_X0_sendEach (mi 10 rfl) rfl (fun hn => absurd hn (by decide)) (fun _ => ?_)
        refine ex_aload_n ok_X0_sendEach (mi 11 rfl) rfl ?_
        refine ex_iload_n ok_X0_sendEach (mi 12 rfl) rfl ?_
        refine ex_iload_n ok_X0_sendEach (mi 13 rfl) rfl ?_
        refine ex_iload ok_X0_sendEach (mi 14 rfl) rfl ?_
        refine ex_iload ok_X0_sendEach (mi 15 rfl) rfl ?_
        refine ex_iload ok_X0_sendEach (mi 16 rfl) rfl ?_
        refine ex_iload ok_X0_sendEach (mi 17 rfl) rfl ?_
        refine ex_callVr (As := [_, _, _, _, _, _]) (v := some (.ref (x + 5))) (g1 := (ap x [(0, 5, 607, 0, (nI 0)), (0, 5, 606, 0, (nI 0)), (0, 5, 605, 0, (nI 0)), (0, 5, 604, 0, p1), (0, 5, 603, 0, (nI 0)), (0, 5, 602, 0, (nI 1)), (0, 5, 601, 0, (nI 1)), (0, 5, 600, 0, (nI 16)), (0, 1, 4, 0, (nI 2)), (0, 1, 6, 0, (nI 2)), (0, 3, 607, 0, (nI 0)), (0, 3, 606, 0, (nI 0)), (0, 3, 605, 0, (nI 0)), (0, 3, 604, 0, p1), (0, 3, 603, 0, (nI 0)), (0, 3, 602, 0, (nI 0)), (0, 3, 601, 0, (nI 1)), (0, 3, 600, 0, (nI 16)), (0, 1, 4, 0, (nI 1)), (0, 1, 6, 0, (nI 1)), (0, 829, 406, 0, p2), (0, 829, 405, 0, p1), (0, 829, 404, 0, (nI 1)), (0, 829, 411, 0, (nI 0)), (0, 829, 410, 0, ((-1))), (2, 830, 0, 10, (nI 0)), (0, 829, 408, 0, (nI 0)), (0, 829, 407, 0, (nI 0))] h)) ok_X0_sendEach (mi 18 rfl) rfl ?c rfl (kq apq (fk f.1 1 rfl)) rfl rfl (by decide) (by decide) (Nat.le_of_ble_eq_true rfl) (by decide) ?_
        case c =>
          refine ex_M_of ok_X0_send cw_X0_send rfl hst (Nat.le_of_ble_eq_true rfl) ?_
          refine ex_aload_n ok_X0_send (mi 0 rfl) rfl ?_
          refine ex_getRx ok_X0_send (mi 1 rfl) rfl rfl (kq apq (fk f.1 1 rfl)) (rq apq (fr f.1 2 rfl)) (kq apq (fk f.1 91 rfl)) (by decide) ?_
          refine ex_astore ok_X0_send (mi 2 rfl) ?_
          refine ex_aload_n ok_X0_send (mi 3 rfl) rfl ?_
          refine ex_dup ok_X0_send (mi 4 rfl) rfl ?_
          refine ex_getIx ok_X0_send (mi 5 rfl) rfl rfl (kq apq (fk f.1 1 rfl)) (apI (a := 1) rfl) ?_
          refine ex_iconst ok_X0_send (mi 6 rfl) ?_
          refine ex_iadd ok_X0_send (mi 7 rfl) ?_
          refine ex_top (w := (nI 2)) (by decide) ?_
          refine ex_putIa (a := 1) (v := (nI 2)) ok_X0_send (mi 8 rfl) rfl rfl (fk f.1 1 rfl) (by decide) ?_
          refine ex_aload_n ok_X0_send (mi 9 rfl) rfl ?_
          refine ex_getIx ok_X0_send (mi 10 rfl) rfl rfl (kq apq (fk f.1 1 rfl)) (apI (a := 1) rfl) ?_
          refine ex_sipush ok_X0_send (mi 11 rfl) ?_
          refine ex_icmp_ge (tgt := 59) ok_X0_send (mi 12 rfl) rfl (fun hn => absurd hn (by decide)) (fun _ => ?_)
          refine ex_aload_n ok_X0_send (mi 13 rfl) rfl ?_
          refine ex_getRx ok_X0_send (mi 14 rfl) rfl rfl (kq apq (fk f.1 1 rfl)) (rq apq (fr f.1 0 rfl)) (kq apq (fk f.1 2 rfl)) (by decide) ?_
          refine ex_aload_n ok_X0_send (mi 15 rfl) rfl ?_
          refine ex_getIx ok_X0_send (mi 16 rfl) rfl rfl (kq apq (fk f.1 1 rfl)) (apI0 (a := 1) rfl (fi f.2.2.1 30 rfl)) ?_
          refine ex_aload_n ok_X0_send (mi 17 rfl) rfl ?_
          refine ex_getIx ok_X0_send (mi 18 rfl) rfl rfl (kq apq (fk f.1 1 rfl)) (apI (a := 1) rfl) ?_
          refine ex_iadd ok_X0_send (mi 19 rfl) ?_
          refine ex_top (w := (nI 1)) (by decide) ?_
          refine ex_sipush ok_X0_send (mi 20 rfl) ?_
          refine ex_irem ok_X0_send (mi 21 rfl) (by decide) ?_
          refine ex_top (w := (nI 1)) (by decide) ?_
          refine ex_aaldx (n := 0) ok_X0_send (mi 22 rfl) (by decide) (kq apq (fk f.1 2 rfl)) (nq apq (fn f.1 2 rfl)) (pk_in 1 400 (by decide)) (oq apq (fo f.2.1 25 rfl)) (kq apq (fk f.1 89 rfl)) (by decide) ?_
          refine ex_astore ok_X0_send (mi 23 rfl) ?_
          refine ex_aload_n ok_X0_send (mi 24 rfl) rfl ?_
          refine ex_dup ok_X0_send (mi 25 rfl) rfl ?_
          refine ex_getIx ok_X0_send (mi 26 rfl) rfl rfl (kq apq (fk f.1 1 rfl)) (apI (a := 1) rfl) ?_
          refine ex_iconst ok_X0_send (mi 27 rfl) ?_
          refine ex_iadd ok_X0_send (mi 28 rfl) ?_
          refine ex_top (w := (nI 2)) (by decide) ?_
          refine ex_putIa (a := 1) (v := (nI 2)) ok_X0_send (mi 29 rfl) rfl rfl (fk f.1 1 rfl) (by decide) ?_
          refine ex_goto (tgt := 69) ok_X0_send (mi 30 rfl) rfl ?_
          refine ex_aload ok_X0_send (mi 37 rfl) rfl ?_
          refine ex_iload_n ok_X0_send (mi 38 rfl) rfl ?_
          refine ex_putIa (a := 5) (v := (nI 16)) ok_X0_send (mi 39 rfl) rfl rfl (fk f.1 89 rfl) (by decide) ?_
          refine ex_aload ok_X0_send (mi 40 rfl) rfl ?_
          refine ex_iload_n ok_X0_send (mi 41 rfl) rfl ?_
          refine ex_putIa (a := 5) (v := (nI 1)) ok_X0_send (mi 42 rfl) rfl rfl (fk f.1 89 rfl) (by decide) ?_
          refine ex_aload ok_X0_send (mi 43 rfl) rfl ?_
          refine ex_iload_n ok_X0_send (mi 44 rfl) rfl ?_
          refine ex_putIa (a := 5) (v := (nI 1)) ok_X0_send (mi 45 rfl) rfl rfl (fk f.1 89 rfl) (by decide) ?_
          refine ex_aload ok_X0_send (mi 46 rfl) rfl ?_
          refine ex_iload ok_X0_send (mi 47 rfl) rfl ?_
          refine ex_putIa (a := 5) (v := (nI 0)) ok_X0_send (mi 48 rfl) rfl rfl (fk f.1 89 rfl) (by decide) ?_
          refine ex_aload ok_X0_send (mi 49 rfl) rfl ?_
          refine ex_iload ok_X0_send (mi 50 rfl) rfl ?_
          refine ex_putIa (a := 5) (v := p1) ok_X0_send (mi 51 rfl) rfl rfl (fk f.1 89 rfl) rfl ?_
          refine ex_aload ok_X0_send (mi 52 rfl) rfl ?_
          refine ex_iload ok_X0_send (mi 53 rfl) rfl ?_
          refine ex_putIa (a := 5) (v := (nI 0)) ok_X0_send (mi 54 rfl) rfl rfl (fk f.1 89 rfl) (by decide) ?_
          refine ex_aload ok_X0_send (mi 55 rfl) rfl ?_
          refine ex_iconst ok_X0_send (mi 56 rfl) ?_
          refine ex_putIa (a := 5) (v := (nI 0)) ok_X0_send (mi 57 rfl) rfl rfl (fk f.1 89 rfl) (by decide) ?_
          refine ex_aload ok_X0_send (mi 58 rfl) rfl ?_
          refine ex_iconst ok_X0_send (mi 59 rfl) ?_
          refine ex_putIa (a := 5) (v := (nI 0)) ok_X0_send (mi 60 rfl) rfl rfl (fk f.1 89 rfl) (by decide) ?_
          refine ex_aload ok_X0_send (mi 61 rfl) rfl ?_
          refine ex_aret ok_X0_send (mi 62 rfl) rfl ?_
          exact ⟨rfl, rfl⟩
        refine ex_pop ok_X0_sendEach (mi 19 rfl) rfl ?_
        refine ex_iincx (w := (nI 2)) ok_X0_sendEach (mi 20 rfl) rfl (by decide) ?_
        refine ex_goto (tgt := 3) ok_X0_sendEach (mi 21 rfl) rfl ?_
        refine ex_ls (ls' := [(0, .ref (x + 1)), (1, .int (nI 16)), (2, .int (nI 1)), (3, .int (nI 7)), (4, .int (nI 0)), (5, .int p1), (6, .int (nI 0)), (7, .int (nI 2))]) ⟨rfl, rfl, rfl, rfl, rfl, rfl, rfl, rfl, trivial⟩ ?_
        refine ex_iload ok_X0_sendEach (mi 2 rfl) rfl ?_
        refine ex_bipush ok_X0_sendEach (mi 3 rfl) ?_
        refine ex_icmp_ge (tgt := 40) ok_X0_sendEach (mi 4 rfl) rfl (fun hn => absurd hn (by decide)) (fun _ => ?_)
        refine ex_iload_n ok_X0_sendEach (mi 5 rfl) rfl ?_
        refine ex_iload ok_X0_sendEach (mi 6 rfl) rfl ?_
        refine ex_ishr ok_X0_sendEach (mi 7 rfl) ?_
        refine ex_top (w := (nI 1)) (by decide) ?_
        refine ex_iconst ok_X0_sendEach (mi 8 rfl) ?_
        refine ex_iand ok_X0_sendEach (mi 9 rfl) ?_
        refine ex_top (w := (nI 1)) (by decide) ?_
        refine ex_if_eq (tgt := 34) ok_X0_sendEach (mi 10 rfl) rfl (fun hn => absurd hn (by decide)) (fun _ => ?_)
        refine ex_aload_n ok_X0_sendEach (mi 11 rfl) rfl ?_
        refine ex_iload_n ok_X0_sendEach (mi 12 rfl) rfl ?_
        refine ex_iload_n ok_X0_sendEach (mi 13 rfl) rfl ?_
        refine ex_iload ok_X0_sendEach (mi 14 rfl) rfl ?_
        refine ex_iload ok_X0_sendEach (mi 15 rfl) rfl ?_
        refine ex_iload ok_X0_sendEach (mi 16 rfl) rfl ?_
        refine ex_iload ok_X0_sendEach (mi 17 rfl) rfl ?_
        refine ex_callVr (As := [_, _, _, _, _, _]) (v := some (.ref (x + 7))) (g1 := (ap x [(0, 7, 607, 0, (nI 0)), (0, 7, 606, 0, (nI 0)), (0, 7, 605, 0, (nI 0)), (0, 7, 604, 0, p1), (0, 7, 603, 0, (nI 0)), (0, 7, 602, 0, (nI 2)), (0, 7, 601, 0, (nI 1)), (0, 7, 600, 0, (nI 16)), (0, 1, 4, 0, (nI 3)), (0, 1, 6, 0, (nI 3)), (0, 5, 607, 0, (nI 0)), (0, 5, 606, 0, (nI 0)), (0, 5, 605, 0, (nI 0)), (0, 5, 604, 0, p1), (0, 5, 603, 0, (nI 0)), (0, 5, 602, 0, (nI 1)), (0, 5, 601, 0, (nI 1)), (0, 5, 600, 0, (nI 16)), (0, 1, 4, 0, (nI 2)), (0, 1, 6, 0, (nI 2)), (0, 3, 607, 0, (nI 0)), (0, 3, 606, 0, (nI 0)), (0, 3, 605, 0, (nI 0)), (0, 3, 604, 0, p1), (0, 3, 603, 0, (nI 0)), (0, 3, 602, 0, (nI 0)), (0, 3, 601, 0, (nI 1)), (0, 3, 600, 0, (nI 16)), (0, 1, 4, 0, (nI 1)), (0, 1, 6, 0, (nI 1)), (0, 829, 406, 0, p2), (0, 829, 405, 0, p1), (0, 829, 404, 0, (nI 1)), (0, 829, 411, 0, (nI 0)), (0, 829, 410, 0, ((-1))), (2, 830, 0, 10, (nI 0)), (0, 829, 408, 0, (nI 0)), (0, 829, 407, 0, (nI 0))] h)) ok_X0_sendEach (mi 18 rfl) rfl ?c rfl (kq apq (fk f.1 1 rfl)) rfl rfl (by decide) (by decide) (Nat.le_of_ble_eq_true rfl) (by decide) ?_
        case c =>
          refine ex_M_of ok_X0_send cw_X0_send rfl hst (Nat.le_of_ble_eq_true rfl) ?_
          refine ex_aload_n ok_X0_send (mi 0 rfl) rfl ?_
          refine ex_getRx ok_X0_send (mi 1 rfl) rfl rfl (kq apq (fk f.1 1 rfl)) (rq apq (fr f.1 2 rfl)) (kq apq (fk f.1 91 rfl)) (by decide) ?_
          refine ex_astore ok_X0_send (mi 2 rfl) ?_
          refine ex_aload_n ok_X0_send (mi 3 rfl) rfl ?_
          refine ex_dup ok_X0_send (mi 4 rfl) rfl ?_
          refine ex_getIx ok_X0_send (mi 5 rfl) rfl rfl (kq apq (fk f.1 1 rfl)) (apI (a := 1) rfl) ?_
          refine ex_iconst ok_X0_send (mi 6 rfl) ?_
          refine ex_iadd ok_X0_send (mi 7 rfl) ?_
          refine ex_top (w := (nI 3)) (by decide) ?_
          refine ex_putIa (a := 1) (v := (nI 3)) ok_X0_send (mi 8 rfl) rfl rfl (fk f.1 1 rfl) (by decide) ?_
          refine ex_aload_n ok_X0_send (mi 9 rfl) rfl ?_
          refine ex_getIx ok_X0_send (mi 10 rfl) rfl rfl (kq apq (fk f.1 1 rfl)) (apI (a := 1) rfl) ?_
          refine ex_sipush ok_X0_send (mi 11 rfl) ?_
          refine ex_icmp_ge (tgt := 59) ok_X0_send (mi 12 rfl) rfl (fun hn => absurd hn (by decide)) (fun _ => ?_)
          refine ex_aload_n ok_X0_send (mi 13 rfl) rfl ?_
          refine ex_getRx ok_X0_send (mi 14 rfl) rfl rfl (kq apq (fk f.1 1 rfl)) (rq apq (fr f.1 0 rfl)) (kq apq (fk f.1 2 rfl)) (by decide) ?_
          refine ex_aload_n ok_X0_send (mi 15 rfl) rfl ?_
          refine ex_getIx ok_X0_send (mi 16 rfl) rfl rfl (kq apq (fk f.1 1 rfl)) (apI0 (a := 1) rfl (fi f.2.2.1 30 rfl)) ?_
          refine ex_aload_n ok_X0_send (mi 17 rfl) rfl ?_
          refine ex_getIx ok_X0_send (mi 18 rfl) rfl rfl (kq apq (fk f.1 1 rfl)) (apI (a := 1) rfl) ?_
          refine ex_iadd ok_X0_send (mi 19 rfl) ?_
          refine ex_top (w := (nI 2)) (by decide) ?_
          refine ex_sipush ok_X0_send (mi 20 rfl) ?_
          refine ex_irem ok_X0_send (mi 21 rfl) (by decide) ?_
          refine ex_top (w := (nI 2)) (by decide) ?_
          refine ex_aaldx (n := 0) ok_X0_send (mi 22 rfl) (by decide) (kq apq (fk f.1 2 rfl)) (nq apq (fn f.1 2 rfl)) (pk_in 2 400 (by decide)) (oq apq (fo f.2.1 26 rfl)) (kq apq (fk f.1 90 rfl)) (by decide) ?_
          refine ex_astore ok_X0_send (mi 23 rfl) ?_
          refine ex_aload_n ok_X0_send (mi 24 rfl) rfl ?_
          refine ex_dup ok_X0_send (mi 25 rfl) rfl ?_
          refine ex_getIx ok_X0_send (mi 26 rfl) rfl rfl (kq apq (fk f.1 1 rfl)) (apI (a := 1) rfl) ?_
          refine ex_iconst ok_X0_send (mi 27 rfl) ?_
          refine ex_iadd ok_X0_send (mi 28 rfl) ?_
          refine ex_top (w := (nI 3)) (by decide) ?_
          refine ex_putIa (a := 1) (v := (nI 3)) ok_X0_send (mi 29 rfl) rfl rfl (fk f.1 1 rfl) (by decide) ?_
          refine ex_goto (tgt := 69) ok_X0_send (mi 30 rfl) rfl ?_
          refine ex_aload ok_X0_send (mi 37 rfl) rfl ?_
          refine ex_iload_n ok_X0_send (mi 38 rfl) rfl ?_
          refine ex_putIa (a := 7) (v := (nI 16)) ok_X0_send (mi 39 rfl) rfl rfl (fk f.1 90 rfl) (by decide) ?_
          refine ex_aload ok_X0_send (mi 40 rfl) rfl ?_
          refine ex_iload_n ok_X0_send (mi 41 rfl) rfl ?_
          refine ex_putIa (a := 7) (v := (nI 1)) ok_X0_send (mi 42 rfl) rfl rfl (fk f.1 90 rfl) (by decide) ?_
          refine ex_aload ok_X0_send (mi 43 rfl) rfl ?_
          refine ex_iload_n ok_X0_send (mi 44 rfl) rfl ?_
          refine ex_putIa (a := 7) (v := (nI 2)) ok_X0_send (mi 45 rfl) rfl rfl (fk f.1 90 rfl) (by decide) ?_
          refine ex_aload ok_X0_send (mi 46 rfl) rfl ?_
          refine ex_iload ok_X0_send (mi 47 rfl) rfl ?_
          refine ex_putIa (a := 7) (v := (nI 0)) ok_X0_send (mi 48 rfl) rfl rfl (fk f.1 90 rfl) (by decide) ?_
          refine ex_aload ok_X0_send (mi 49 rfl) rfl ?_
          refine ex_iload ok_X0_send (mi 50 rfl) rfl ?_
          refine ex_putIa (a := 7) (v := p1) ok_X0_send (mi 51 rfl) rfl rfl (fk f.1 90 rfl) rfl ?_
          refine ex_aload ok_X0_send (mi 52 rfl) rfl ?_
          refine ex_iload ok_X0_send (mi 53 rfl) rfl ?_
          refine ex_putIa (a := 7) (v := (nI 0)) ok_X0_send (mi 54 rfl) rfl rfl (fk f.1 90 rfl) (by decide) ?_
          refine ex_aload ok_X0_send (mi 55 rfl) rfl ?_
          refine ex_iconst ok_X0_send (mi 56 rfl) ?_
          refine ex_putIa (a := 7) (v := (nI 0)) ok_X0_send (mi 57 rfl) rfl rfl (fk f.1 90 rfl) (by decide) ?_
          refine ex_aload ok_X0_send (mi 58 rfl) rfl ?_
          refine ex_iconst ok_X0_send (mi 59 rfl) ?_
          refine ex_putIa (a := 7) (v := (nI 0)) ok_X0_send (mi 60 rfl) rfl rfl (fk f.1 90 rfl) (by decide) ?_
          refine ex_aload ok_X0_send (mi 61 rfl) rfl ?_
          refine ex_aret ok_X0_send (mi 62 rfl) rfl ?_
          exact ⟨rfl, rfl⟩
        refine ex_pop ok_X0_sendEach (mi 19 rfl) rfl ?_
        refine ex_iincx (w := (nI 3)) ok_X0_sendEach (mi 20 rfl) rfl (by decide) ?_
        refine ex_goto (tgt := 3) ok_X0_sendEach (mi 21 rfl) rfl ?_
        refine ex_ls (ls' := [(0, .ref (x + 1)), (1, .int (nI 16)), (2, .int (nI 1)), (3, .int (nI 7)), (4, .int (nI 0)), (5, .int p1), (6, .int (nI 0)), (7, .int (nI 3))]) ⟨rfl, rfl, rfl, rfl, rfl, rfl, rfl, rfl, trivial⟩ ?_
        refine ex_iload ok_X0_sendEach (mi 2 rfl) rfl ?_
        refine ex_bipush ok_X0_sendEach (mi 3 rfl) ?_
        refine ex_icmp_ge (tgt := 40) ok_X0_sendEach (mi 4 rfl) rfl (fun hn => absurd hn (by decide)) (fun _ => ?_)
        refine ex_iload_n ok_X0_sendEach (mi 5 rfl) rfl ?_
        refine ex_iload ok_X0_sendEach (mi 6 rfl) rfl ?_
        refine ex_ishr ok_X0_sendEach (mi 7 rfl) ?_
        refine ex_top (w := (nI 0)) (by decide) ?_
        refine ex_iconst ok_X0_sendEach (mi 8 rfl) ?_
        refine ex_iand ok_X0_sendEach (mi 9 rfl) ?_
        refine ex_top (w := (nI 0)) (by decide) ?_
        refine ex_if_eq (tgt := 34) ok_X0_sendEach (mi 10 rfl) rfl (fun _ => ?_) (fun hn => absurd (by decide) hn)
        refine ex_iincx (w := (nI 4)) ok_X0_sendEach (mi 20 rfl) rfl (by decide) ?_
        refine ex_goto (tgt := 3) ok_X0_sendEach (mi 21 rfl) rfl ?_
        refine ex_ls (ls' := [(0, .ref (x + 1)), (1, .int (nI 16)), (2, .int (nI 1)), (3, .int (nI 7)), (4, .int (nI 0)), (5, .int p1), (6, .int (nI 0)), (7, .int (nI 4))]) ⟨rfl, rfl, rfl, rfl, rfl, rfl, rfl, rfl, trivial⟩ ?_
        refine ex_iload ok_X0_sendEach (mi 2 rfl) rfl ?_
        refine ex_bipush ok_X0_sendEach (mi 3 rfl) ?_
        refine ex_icmp_ge (tgt := 40) ok_X0_sendEach (mi 4 rfl) rfl (fun hn => absurd hn (by decide)) (fun _ => ?_)
        refine ex_iload_n ok_X0_sendEach (mi 5 rfl) rfl ?_
        refine ex_iload ok_X0_sendEach (mi 6 rfl) rfl ?_
        refine ex_ishr ok_X0_sendEach (mi 7 rfl) ?_
        refine ex_top (w := (nI 0)) (by decide) ?_
        refine ex_iconst ok_X0_sendEach (mi 8 rfl) ?_
        refine ex_iand ok_X0_sendEach (mi 9 rfl) ?_
        refine ex_top (w := (nI 0)) (by decide) ?_
        refine ex_if_eq (tgt := 34) ok_X0_sendEach (mi 10 rfl) rfl (fun _ => ?_) (fun hn => absurd (by decide) hn)
        refine ex_iincx (w := (nI 5)) ok_X0_sendEach (mi 20 rfl) rfl (by decide) ?_
        refine ex_goto (tgt := 3) ok_X0_sendEach (mi 21 rfl) rfl ?_
        refine ex_ls (ls' := [(0, .ref (x + 1)), (1, .int (nI 16)), (2, .int (nI 1)), (3, .int (nI 7)), (4, .int (nI 0)), (5, .int p1), (6, .int (nI 0)), (7, .int (nI 5))]) ⟨rfl, rfl, rfl, rfl, rfl, rfl, rfl, rfl, trivial⟩ ?_
        refine ex_iload ok_X0_sendEach (mi 2 rfl) rfl ?_
        refine ex_bipush ok_X0_sendEach (mi 3 rfl) ?_
        refine ex_icmp_ge (tgt := 40) ok_X0_sendEach (mi 4 rfl) rfl (fun hn => absurd hn (by decide)) (fun _ => ?_)
        refine ex_iload_n ok_X0_sendEach (mi 5 rfl) rfl ?_
        refine ex_iload ok_X0_sendEach (mi 6 rfl) rfl ?_
        refine ex_ishr ok_X0_sendEach (mi 7 rfl) ?_
        refine ex_top (w := (nI 0)) (by decide) ?_
        refine ex_iconst ok_X0_sendEach (mi 8 rfl) ?_
        refine ex_iand ok_X0_sendEach (mi 9 rfl) ?_
        refine ex_top (w := (nI 0)) (by decide) ?_
        refine ex_if_eq (tgt := 34) ok_X0_sendEach (mi 10 rfl) rfl (fun _ => ?_) (fun hn => absurd (by decide) hn)
        refine ex_iincx (w := (nI 6)) ok_X0_sendEach (mi 20 rfl) rfl (by decide) ?_
        refine ex_goto (tgt := 3) ok_X0_sendEach (mi 21 rfl) rfl ?_
        refine ex_ls (ls' := [(0, .ref (x + 1)), (1, .int (nI 16)), (2, .int (nI 1)), (3, .int (nI 7)), (4, .int (nI 0)), (5, .int p1), (6, .int (nI 0)), (7, .int (nI 6))]) ⟨rfl, rfl, rfl, rfl, rfl, rfl, rfl, rfl, trivial⟩ ?_
        refine ex_iload ok_X0_sendEach (mi 2 rfl) rfl ?_
        refine ex_bipush ok_X0_sendEach (mi 3 rfl) ?_
        refine ex_icmp_ge (tgt := 40) ok_X0_sendEach (mi 4 rfl) rfl (fun hn => absurd hn (by decide)) (fun _ => ?_)
        refine ex_iload_n ok_X0_sendEach (mi 5 rfl) rfl ?_
        refine ex_iload ok_X0_sendEach (mi 6 rfl) rfl ?_
        refine ex_ishr ok_X0_sendEach (mi 7 rfl) ?_
        refine ex_top (w := (nI 0)) (by decide) ?_
        refine ex_iconst ok_X0_sendEach (mi 8 rfl) ?_
        refine ex_iand ok_X0_sendEach (mi 9 rfl) ?_
        refine ex_top (w := (nI 0)) (by decide) ?_
        refine ex_if_eq (tgt := 34) ok_X0_sendEach (mi 10 rfl) rfl (fun _ => ?_) (fun hn => absurd (by decide) hn)
        refine ex_iincx (w := (nI 7)) ok_X0_sendEach (mi 20 rfl) rfl (by decide) ?_
        refine ex_goto (tgt := 3) ok_X0_sendEach (mi 21 rfl) rfl ?_
        refine ex_ls (ls' := [(0, .ref (x + 1)), (1, .int (nI 16)), (2, .int (nI 1)), (3, .int (nI 7)), (4, .int (nI 0)), (5, .int p1), (6, .int (nI 0)), (7, .int (nI 7))]) ⟨rfl, rfl, rfl, rfl, rfl, rfl, rfl, rfl, trivial⟩ ?_
        refine ex_iload ok_X0_sendEach (mi 2 rfl) rfl ?_
        refine ex_bipush ok_X0_sendEach (mi 3 rfl) ?_
        refine ex_icmp_ge (tgt := 40) ok_X0_sendEach (mi 4 rfl) rfl (fun hn => absurd hn (by decide)) (fun _ => ?_)
        refine ex_iload_n ok_X0_sendEach (mi 5 rfl) rfl ?_
        refine ex_iload ok_X0_sendEach (mi 6 rfl) rfl ?_
        refine ex_ishr ok_X0_sendEach (mi 7 rfl) ?_
        refine ex_top (w := (nI 0)) (by decide) ?_
        refine ex_iconst ok_X0_sendEach (mi 8 rfl) ?_
        refine ex_iand ok_X0_sendEach (mi 9 rfl) ?_
        refine ex_top (w := (nI 0)) (by decide) ?_
        refine ex_if_eq (tgt := 34) ok_X0_sendEach (mi 10 rfl) rfl (fun _ => ?_) (fun hn => absurd (by decide) hn)
        refine ex_iincx (w := (nI 8)) ok_X0_sendEach (mi 20 rfl) rfl (by decide) ?_
        refine ex_goto (tgt := 3) ok_X0_sendEach (mi 21 rfl) rfl ?_
        refine ex_ls (ls' := [(0, .ref (x + 1)), (1, .int (nI 16)), (2, .int (nI 1)), (3, .int (nI 7)), (4, .int (nI 0)), (5, .int p1), (6, .int (nI 0)), (7, .int (nI 8))]) ⟨rfl, rfl, rfl, rfl, rfl, rfl, rfl, rfl, trivial⟩ ?_
        refine ex_iload ok_X0_sendEach (mi 2 rfl) rfl ?_
        refine ex_bipush ok_X0_sendEach (mi 3 rfl) ?_
        refine ex_icmp_ge (tgt := 40) ok_X0_sendEach (mi 4 rfl) rfl (fun hn => absurd hn (by decide)) (fun _ => ?_)
        refine ex_iload_n ok_X0_sendEach (mi 5 rfl) rfl ?_
        refine ex_iload ok_X0_sendEach (mi 6 rfl) rfl ?_
        refine ex_ishr ok_X0_sendEach (mi 7 rfl) ?_
        refine ex_top (w := (nI 0)) (by decide) ?_
        refine ex_iconst ok_X0_sendEach (mi 8 rfl) ?_
        refine ex_iand ok_X0_sendEach (mi 9 rfl) ?_
        refine ex_top (w := (nI 0)) (by decide) ?_
        refine ex_if_eq (tgt := 34) ok_X0_sendEach (mi 10 rfl) rfl (fun _ => ?_) (fun hn => absurd (by decide) hn)
        refine ex_iincx (w := (nI 9)) ok_X0_sendEach (mi 20 rfl) rfl (by decide) ?_
        refine ex_goto (tgt := 3) ok_X0_sendEach (mi 21 rfl) rfl ?_
        refine ex_ls (ls' := [(0, .ref (x + 1)), (1, .int (nI 16)), (2, .int (nI 1)), (3, .int (nI 7)), (4, .int (nI 0)), (5, .int p1), (6, .int (nI 0)), (7, .int (nI 9))]) ⟨rfl, rfl, rfl, rfl, rfl, rfl, rfl, rfl, trivial⟩ ?_
        refine ex_iload ok_X0_sendEach (mi 2 rfl) rfl ?_
        refine ex_bipush ok_X0_sendEach (mi 3 rfl) ?_
        refine ex_icmp_ge (tgt := 40) ok_X0_sendEach (mi 4 rfl) rfl (fun hn => absurd hn (by decide)) (fun _ => ?_)
        refine ex_iload_n ok_X0_sendEach (mi 5 rfl) rfl ?_
        refine ex_iload ok_X0_sendEach (mi 6 rfl) rfl ?_
        refine ex_ishr ok_X0_sendEach (mi 7 rfl) ?_
        refine ex_top (w := (nI 0)) (by decide) ?_
        refine ex_iconst ok_X0_sendEach (mi 8 rfl) ?_
        refine ex_iand ok_X0_sendEach (mi 9 rfl) ?_
        refine ex_top (w := (nI 0)) (by decide) ?_
        refine ex_if_eq (tgt := 34) ok_X0_sendEach (mi 10 rfl) rfl (fun _ => ?_) (fun hn => absurd (by decide) hn)
        refine ex_iincx (w := (nI 10)) ok_X0_sendEach (mi 20 rfl) rfl (by decide) ?_
        refine ex_goto (tgt := 3) ok_X0_sendEach (mi 21 rfl) rfl ?_
        refine ex_ls (ls' := [(0, .ref (x + 1)), (1, .int (nI 16)), (2, .int (nI 1)), (3, .int (nI 7)), (4, .int (nI 0)), (5, .int p1), (6, .int (nI 0)), (7, .int (nI 10))]) ⟨rfl, rfl, rfl, rfl, rfl, rfl, rfl, rfl, trivial⟩ ?_
        refine ex_iload ok_X0_sendEach (mi 2 rfl) rfl ?_
        refine ex_bipush ok_X0_sendEach (mi 3 rfl) ?_
        refine ex_icmp_ge (tgt := 40) ok_X0_sendEach (mi 4 rfl) rfl (fun hn => absurd hn (by decide)) (fun _ => ?_)
        refine ex_iload_n ok_X0_sendEach (mi 5 rfl) rfl ?_
        refine ex_iload ok_X0_sendEach (mi 6 rfl) rfl ?_
        refine ex_ishr ok_X0_sendEach (mi 7 rfl) ?_
        refine ex_top (w := (nI 0)) (by decide) ?_
        refine ex_iconst ok_X0_sendEach (mi 8 rfl) ?_
        refine ex_iand ok_X0_sendEach (mi 9 rfl) ?_
        refine ex_top (w := (nI 0)) (by decide) ?_
        refine ex_if_eq (tgt := 34) ok_X0_sendEach (mi 10 rfl) rfl (fun _ => ?_) (fun hn => absurd (by decide) hn)
        refine ex_iincx (w := (nI 11)) ok_X0_sendEach (mi 20 rfl) rfl (by decide) ?_
        refine ex_goto (tgt := 3) ok_X0_sendEach (mi 21 rfl) rfl ?_
        refine ex_ls (ls' := [(0, .ref (x + 1)), (1, .int (nI 16)), (2, .int (nI 1)), (3, .int (nI 7)), (4, .int (nI 0)), (5, .int p1), (6, .int (nI 0)), (7, .int (nI 11))]) ⟨rfl, rfl, rfl, rfl, rfl, rfl, rfl, rfl, trivial⟩ ?_
        refine ex_iload ok_X0_sendEach (mi 2 rfl) rfl ?_
        refine ex_bipush ok_X0_sendEach (mi 3 rfl) ?_
        refine ex_icmp_ge (tgt := 40) ok_X0_sendEach (mi 4 rfl) rfl (fun hn => absurd hn (by decide)) (fun _ => ?_)
        refine ex_iload_n ok_X0_sendEach (mi 5 rfl) rfl ?_
        refine ex_iload ok_X0_sendEach (mi 6 rfl) rfl ?_
        refine ex_ishr ok_X0_sendEach (mi 7 rfl) ?_
        refine ex_top (w := (nI 0)) (by decide) ?_
        refine ex_iconst ok_X0_sendEach (mi 8 rfl) ?_
        refine ex_iand ok_X0_sendEach (mi 9 rfl) ?_
        refine ex_top (w := (nI 0)) (by decide) ?_
        refine ex_if_eq (tgt := 34) ok_X0_sendEach (mi 10 rfl) rfl (fun _ => ?_) (fun hn => absurd (by decide) hn)
        refine ex_iincx (w := (nI 12)) ok_X0_sendEach (mi 20 rfl) rfl (by decide) ?_
        refine ex_goto (tgt := 3) ok_X0_sendEach (mi 21 rfl) rfl ?_
        refine ex_ls (ls' := [(0, .ref (x + 1)), (1, .int (nI 16)), (2, .int (nI 1)), (3, .int (nI 7)), (4, .int (nI 0)), (5, .int p1), (6, .int (nI 0)), (7, .int (nI 12))]) ⟨rfl, rfl, rfl, rfl, rfl, rfl, rfl, rfl, trivial⟩ ?_
        refine ex_iload ok_X0_sendEach (mi 2 rfl) rfl ?_
        refine ex_bipush ok_X0_sendEach (mi 3 rfl) ?_
        refine ex_icmp_ge (tgt := 40) ok_X0_sendEach (mi 4 rfl) rfl (fun _ => ?_) (fun hn => absurd (by decide) hn)
        refine ex_vret ok_X0_sendEach (mi 22 rfl) rfl ?_
        exact ⟨rfl, rfl⟩
      refine ex_goto (tgt := 114) ok_X4_sendStep (mi 22 rfl) rfl ?_
      refine ex_vret ok_X4_sendStep (mi 60 rfl) rfl ?_
      exact ⟨rfl, rfl⟩
    refine ex_vret ok_X4_startReform (mi 13 rfl) rfl ?_
    exact ⟨rfl, rfl⟩
  refine ex_aload_n ok_X11_reform (mi 29 rfl) rfl ?_
  refine ex_getRx ok_X11_reform (mi 30 rfl) rfl rfl (kq apq (fk f.1 0 rfl)) (rq apq (fr f.1 3 rfl)) (kq apq (fk f.1 1 rfl)) (by decide) ?_
  refine ex_getIx ok_X11_reform (mi 31 rfl) rfl rfl (kq apq (fk f.1 1 rfl)) (apI (a := 1) rfl) ?_
  refine ex_iret ok_X11_reform (mi 32 rfl) rfl ?_
  exact ⟨Or.inl ⟨rfl, inlI (by decide)⟩, (kp_ap rfl)⟩
theorem c_leader_1_b1 {G : GE} (hst : (ge_l G).stackTraces = false) {x : Nat} {p1 : Int32} (c1 : ¬ vp_in p1 14) : CC G 4 4 24 my_X11_leader x [.int (nI 1), .int p1] E3 1 (nI 0) := by
  intro h f
  refine ex_M_of ok_X11_leader cw_X11_leader rfl hst (Nat.le_of_ble_eq_true rfl) ?_
  refine ex_aload_n ok_X11_leader (mi 0 rfl) rfl ?_
  refine ex_iload_n ok_X11_leader (mi 1 rfl) rfl ?_
  refine ex_callVr (As := [_]) (v := some (.ref (x + 826))) (g1 := h) ok_X11_leader (mi 2 rfl) rfl ?c rfl (fk f.1 0 rfl) rfl rfl (by decide) (by decide) (Nat.le_of_ble_eq_true rfl) (by decide) ?_
  case c =>
    refine ex_M_of ok_X11_leaderAt cw_X11_leaderAt rfl hst (Nat.le_of_ble_eq_true rfl) ?_
    refine ex_iload_n ok_X11_leaderAt (mi 0 rfl) rfl ?_
    refine ex_iconst ok_X11_leaderAt (mi 1 rfl) ?_
    refine ex_callSr (As := [_, _]) ok_X11_leaderAt (mi 2 rfl) rfl (m_reqOk hst (pk_in 1 3 (by decide)) (by decide) (by decide)) rfl rfl rfl (by decide) (Nat.le_of_ble_eq_true rfl) (by decide) ?_
    refine ex_aload_n ok_X11_leaderAt (mi 3 rfl) rfl ?_
    refine ex_getRx ok_X11_leaderAt (mi 4 rfl) rfl rfl (fk f.1 0 rfl) (fr f.1 13 rfl) (fk f.1 10 rfl) (by decide) ?_
    refine ex_iload_n ok_X11_leaderAt (mi 5 rfl) rfl ?_
    refine ex_aaldx (n := 1) ok_X11_leaderAt (mi 6 rfl) (by decide) (fk f.1 10 rfl) (fn f.1 10 rfl) (pk_in 1 3 (by decide)) (fo f.2.1 1 rfl) (fk f.1 22 rfl) (by decide) ?_
    refine ex_aret ok_X11_leaderAt (mi 7 rfl) rfl ?_
    exact ⟨rfl, rfl⟩
  refine ex_astore_n ok_X11_leader (mi 3 rfl) ?_
  refine ex_iload_n ok_X11_leader (mi 4 rfl) rfl ?_
  refine ex_bipush ok_X11_leader (mi 5 rfl) ?_
  refine ex_callSt (e := 100) (As := [_, _]) ok_X11_leader (mi 6 rfl) rfl (m_reqBad hst c1 (by decide) (by decide)) rfl rfl rfl (by decide) (Nat.le_of_ble_eq_true rfl) (by decide) (fun n hn => ?_)
  exact ⟨Or.inr ⟨by decide, rfl⟩, kpZ kp0 hn⟩
theorem c_leader_1_0 {G : GE} (hst : (ge_l G).stackTraces = false) {x : Nat}  : CC G 4 4 24 my_X11_leader x [.int (nI 1), .int (nI 0)] E3 0 (nI 0) := by
  intro h f
  refine ex_M_of ok_X11_leader cw_X11_leader rfl hst (Nat.le_of_ble_eq_true rfl) ?_
  refine ex_aload_n ok_X11_leader (mi 0 rfl) rfl ?_
  refine ex_iload_n ok_X11_leader (mi 1 rfl) rfl ?_
  refine ex_callVr (As := [_]) (v := some (.ref (x + 826))) (g1 := h) ok_X11_leader (mi 2 rfl) rfl ?c rfl (fk f.1 0 rfl) rfl rfl (by decide) (by decide) (Nat.le_of_ble_eq_true rfl) (by decide) ?_
  case c =>
    refine ex_M_of ok_X11_leaderAt cw_X11_leaderAt rfl hst (Nat.le_of_ble_eq_true rfl) ?_
    refine ex_iload_n ok_X11_leaderAt (mi 0 rfl) rfl ?_
    refine ex_iconst ok_X11_leaderAt (mi 1 rfl) ?_
    refine ex_callSr (As := [_, _]) ok_X11_leaderAt (mi 2 rfl) rfl (m_reqOk hst (pk_in 1 3 (by decide)) (by decide) (by decide)) rfl rfl rfl (by decide) (Nat.le_of_ble_eq_true rfl) (by decide) ?_
    refine ex_aload_n ok_X11_leaderAt (mi 3 rfl) rfl ?_
    refine ex_getRx ok_X11_leaderAt (mi 4 rfl) rfl rfl (fk f.1 0 rfl) (fr f.1 13 rfl) (fk f.1 10 rfl) (by decide) ?_
    refine ex_iload_n ok_X11_leaderAt (mi 5 rfl) rfl ?_
    refine ex_aaldx (n := 1) ok_X11_leaderAt (mi 6 rfl) (by decide) (fk f.1 10 rfl) (fn f.1 10 rfl) (pk_in 1 3 (by decide)) (fo f.2.1 1 rfl) (fk f.1 22 rfl) (by decide) ?_
    refine ex_aret ok_X11_leaderAt (mi 7 rfl) rfl ?_
    exact ⟨rfl, rfl⟩
  refine ex_astore_n ok_X11_leader (mi 3 rfl) ?_
  refine ex_iload_n ok_X11_leader (mi 4 rfl) rfl ?_
  refine ex_bipush ok_X11_leader (mi 5 rfl) ?_
  refine ex_callSr (As := [_, _]) ok_X11_leader (mi 6 rfl) rfl (m_reqOk hst (pk_in 0 14 (by decide)) (by decide) (by decide)) rfl rfl rfl (by decide) (Nat.le_of_ble_eq_true rfl) (by decide) ?_
  refine ex_aload_n ok_X11_leader (mi 7 rfl) rfl ?_
  refine ex_iload_n ok_X11_leader (mi 8 rfl) rfl ?_
  refine ex_callVr (As := [_]) (v := some (.int (nI 0))) (g1 := h) ok_X11_leader (mi 9 rfl) rfl ?c rfl (fk f.1 22 rfl) rfl rfl (by decide) (by decide) (Nat.le_of_ble_eq_true rfl) (by decide) ?_
  case c =>
    refine ex_M_of ok_X5_tell cw_X5_tell rfl hst (Nat.le_of_ble_eq_true rfl) ?_
    refine ex_iload_n ok_X5_tell (mi 0 rfl) rfl ?_
    refine ex_tblk (tgt := 72) ok_X5_tell (mi 1 rfl) (by decide) (by decide) (by decide) (by decide) ?_
    refine ex_aload_n ok_X5_tell (mi 2 rfl) rfl ?_
    refine ex_getIx ok_X5_tell (mi 3 rfl) rfl rfl (fk f.1 22 rfl) (fi f.2.2.1 61 rfl) ?_
    refine ex_iret ok_X5_tell (mi 4 rfl) rfl ?_
    exact ⟨inlI (by decide), rfl⟩
  refine ex_iret ok_X11_leader (mi 10 rfl) rfl ?_
  exact ⟨Or.inl ⟨rfl, inlI (by decide)⟩, kp0⟩
theorem c_leader_1_1 {G : GE} (hst : (ge_l G).stackTraces = false) {x : Nat}  : CC G 4 4 24 my_X11_leader x [.int (nI 1), .int (nI 1)] E3 0 ((-1)) := by
  intro h f
  refine ex_M_of ok_X11_leader cw_X11_leader rfl hst (Nat.le_of_ble_eq_true rfl) ?_
  refine ex_aload_n ok_X11_leader (mi 0 rfl) rfl ?_
  refine ex_iload_n ok_X11_leader (mi 1 rfl) rfl ?_
  refine ex_callVr (As := [_]) (v := some (.ref (x + 826))) (g1 := h) ok_X11_leader (mi 2 rfl) rfl ?c rfl (fk f.1 0 rfl) rfl rfl (by decide) (by decide) (Nat.le_of_ble_eq_true rfl) (by decide) ?_
  case c =>
    refine ex_M_of ok_X11_leaderAt cw_X11_leaderAt rfl hst (Nat.le_of_ble_eq_true rfl) ?_
    refine ex_iload_n ok_X11_leaderAt (mi 0 rfl) rfl ?_
    refine ex_iconst ok_X11_leaderAt (mi 1 rfl) ?_
    refine ex_callSr (As := [_, _]) ok_X11_leaderAt (mi 2 rfl) rfl (m_reqOk hst (pk_in 1 3 (by decide)) (by decide) (by decide)) rfl rfl rfl (by decide) (Nat.le_of_ble_eq_true rfl) (by decide) ?_
    refine ex_aload_n ok_X11_leaderAt (mi 3 rfl) rfl ?_
    refine ex_getRx ok_X11_leaderAt (mi 4 rfl) rfl rfl (fk f.1 0 rfl) (fr f.1 13 rfl) (fk f.1 10 rfl) (by decide) ?_
    refine ex_iload_n ok_X11_leaderAt (mi 5 rfl) rfl ?_
    refine ex_aaldx (n := 1) ok_X11_leaderAt (mi 6 rfl) (by decide) (fk f.1 10 rfl) (fn f.1 10 rfl) (pk_in 1 3 (by decide)) (fo f.2.1 1 rfl) (fk f.1 22 rfl) (by decide) ?_
    refine ex_aret ok_X11_leaderAt (mi 7 rfl) rfl ?_
    exact ⟨rfl, rfl⟩
  refine ex_astore_n ok_X11_leader (mi 3 rfl) ?_
  refine ex_iload_n ok_X11_leader (mi 4 rfl) rfl ?_
  refine ex_bipush ok_X11_leader (mi 5 rfl) ?_
  refine ex_callSr (As := [_, _]) ok_X11_leader (mi 6 rfl) rfl (m_reqOk hst (pk_in 1 14 (by decide)) (by decide) (by decide)) rfl rfl rfl (by decide) (Nat.le_of_ble_eq_true rfl) (by decide) ?_
  refine ex_aload_n ok_X11_leader (mi 7 rfl) rfl ?_
  refine ex_iload_n ok_X11_leader (mi 8 rfl) rfl ?_
  refine ex_callVr (As := [_]) (v := some (.int (-1))) (g1 := h) ok_X11_leader (mi 9 rfl) rfl ?c rfl (fk f.1 22 rfl) rfl rfl (by decide) (by decide) (Nat.le_of_ble_eq_true rfl) (by decide) ?_
  case c =>
    refine ex_M_of ok_X5_tell cw_X5_tell rfl hst (Nat.le_of_ble_eq_true rfl) ?_
    refine ex_iload_n ok_X5_tell (mi 0 rfl) rfl ?_
    refine ex_tblk (tgt := 77) ok_X5_tell (mi 1 rfl) (by decide) (by decide) (by decide) (by decide) ?_
    refine ex_aload_n ok_X5_tell (mi 5 rfl) rfl ?_
    refine ex_getIx ok_X5_tell (mi 6 rfl) rfl rfl (fk f.1 22 rfl) (fi f.2.2.1 62 rfl) ?_
    refine ex_iret ok_X5_tell (mi 7 rfl) rfl ?_
    exact ⟨inlI (by decide), rfl⟩
  refine ex_iret ok_X11_leader (mi 10 rfl) rfl ?_
  exact ⟨Or.inl ⟨rfl, inlI (by decide)⟩, kp0⟩
theorem c_leader_1_2 {G : GE} (hst : (ge_l G).stackTraces = false) {x : Nat}  : CC G 4 4 24 my_X11_leader x [.int (nI 1), .int (nI 2)] E3 0 (nI 0) := by
  intro h f
  refine ex_M_of ok_X11_leader cw_X11_leader rfl hst (Nat.le_of_ble_eq_true rfl) ?_
  refine ex_aload_n ok_X11_leader (mi 0 rfl) rfl ?_
  refine ex_iload_n ok_X11_leader (mi 1 rfl) rfl ?_
  refine ex_callVr (As := [_]) (v := some (.ref (x + 826))) (g1 := h) ok_X11_leader (mi 2 rfl) rfl ?c rfl (fk f.1 0 rfl) rfl rfl (by decide) (by decide) (Nat.le_of_ble_eq_true rfl) (by decide) ?_
  case c =>
    refine ex_M_of ok_X11_leaderAt cw_X11_leaderAt rfl hst (Nat.le_of_ble_eq_true rfl) ?_
    refine ex_iload_n ok_X11_leaderAt (mi 0 rfl) rfl ?_
    refine ex_iconst ok_X11_leaderAt (mi 1 rfl) ?_
    refine ex_callSr (As := [_, _]) ok_X11_leaderAt (mi 2 rfl) rfl (m_reqOk hst (pk_in 1 3 (by decide)) (by decide) (by decide)) rfl rfl rfl (by decide) (Nat.le_of_ble_eq_true rfl) (by decide) ?_
    refine ex_aload_n ok_X11_leaderAt (mi 3 rfl) rfl ?_
    refine ex_getRx ok_X11_leaderAt (mi 4 rfl) rfl rfl (fk f.1 0 rfl) (fr f.1 13 rfl) (fk f.1 10 rfl) (by decide) ?_
    refine ex_iload_n ok_X11_leaderAt (mi 5 rfl) rfl ?_
    refine ex_aaldx (n := 1) ok_X11_leaderAt (mi 6 rfl) (by decide) (fk f.1 10 rfl) (fn f.1 10 rfl) (pk_in 1 3 (by decide)) (fo f.2.1 1 rfl) (fk f.1 22 rfl) (by decide) ?_
    refine ex_aret ok_X11_leaderAt (mi 7 rfl) rfl ?_
    exact ⟨rfl, rfl⟩
  refine ex_astore_n ok_X11_leader (mi 3 rfl) ?_
  refine ex_iload_n ok_X11_leader (mi 4 rfl) rfl ?_
  refine ex_bipush ok_X11_leader (mi 5 rfl) ?_
  refine ex_callSr (As := [_, _]) ok_X11_leader (mi 6 rfl) rfl (m_reqOk hst (pk_in 2 14 (by decide)) (by decide) (by decide)) rfl rfl rfl (by decide) (Nat.le_of_ble_eq_true rfl) (by decide) ?_
  refine ex_aload_n ok_X11_leader (mi 7 rfl) rfl ?_
  refine ex_iload_n ok_X11_leader (mi 8 rfl) rfl ?_
  refine ex_callVr (As := [_]) (v := some (.int (nI 0))) (g1 := h) ok_X11_leader (mi 9 rfl) rfl ?c rfl (fk f.1 22 rfl) rfl rfl (by decide) (by decide) (Nat.le_of_ble_eq_true rfl) (by decide) ?_
  case c =>
    refine ex_M_of ok_X5_tell cw_X5_tell rfl hst (Nat.le_of_ble_eq_true rfl) ?_
    refine ex_iload_n ok_X5_tell (mi 0 rfl) rfl ?_
    refine ex_tblk (tgt := 82) ok_X5_tell (mi 1 rfl) (by decide) (by decide) (by decide) (by decide) ?_
    refine ex_aload_n ok_X5_tell (mi 8 rfl) rfl ?_
    refine ex_getIx ok_X5_tell (mi 9 rfl) rfl rfl (fk f.1 22 rfl) (fi f.2.2.1 63 rfl) ?_
    refine ex_iret ok_X5_tell (mi 10 rfl) rfl ?_
    exact ⟨inlI (by decide), rfl⟩
  refine ex_iret ok_X11_leader (mi 10 rfl) rfl ?_
  exact ⟨Or.inl ⟨rfl, inlI (by decide)⟩, kp0⟩
theorem c_leader_1_3 {G : GE} (hst : (ge_l G).stackTraces = false) {x : Nat}  : CC G 4 4 24 my_X11_leader x [.int (nI 1), .int (nI 3)] E3 0 (nI 0) := by
  intro h f
  refine ex_M_of ok_X11_leader cw_X11_leader rfl hst (Nat.le_of_ble_eq_true rfl) ?_
  refine ex_aload_n ok_X11_leader (mi 0 rfl) rfl ?_
  refine ex_iload_n ok_X11_leader (mi 1 rfl) rfl ?_
  refine ex_callVr (As := [_]) (v := some (.ref (x + 826))) (g1 := h) ok_X11_leader (mi 2 rfl) rfl ?c rfl (fk f.1 0 rfl) rfl rfl (by decide) (by decide) (Nat.le_of_ble_eq_true rfl) (by decide) ?_
  case c =>
    refine ex_M_of ok_X11_leaderAt cw_X11_leaderAt rfl hst (Nat.le_of_ble_eq_true rfl) ?_
    refine ex_iload_n ok_X11_leaderAt (mi 0 rfl) rfl ?_
    refine ex_iconst ok_X11_leaderAt (mi 1 rfl) ?_
    refine ex_callSr (As := [_, _]) ok_X11_leaderAt (mi 2 rfl) rfl (m_reqOk hst (pk_in 1 3 (by decide)) (by decide) (by decide)) rfl rfl rfl (by decide) (Nat.le_of_ble_eq_true rfl) (by decide) ?_
    refine ex_aload_n ok_X11_leaderAt (mi 3 rfl) rfl ?_
    refine ex_getRx ok_X11_leaderAt (mi 4 rfl) rfl rfl (fk f.1 0 rfl) (fr f.1 13 rfl) (fk f.1 10 rfl) (by decide) ?_
    refine ex_iload_n ok_X11_leaderAt (mi 5 rfl) rfl ?_
    refine ex_aaldx (n := 1) ok_X11_leaderAt (mi 6 rfl) (by decide) (fk f.1 10 rfl) (fn f.1 10 rfl) (pk_in 1 3 (by decide)) (fo f.2.1 1 rfl) (fk f.1 22 rfl) (by decide) ?_
    refine ex_aret ok_X11_leaderAt (mi 7 rfl) rfl ?_
    exact ⟨rfl, rfl⟩
  refine ex_astore_n ok_X11_leader (mi 3 rfl) ?_
  refine ex_iload_n ok_X11_leader (mi 4 rfl) rfl ?_
  refine ex_bipush ok_X11_leader (mi 5 rfl) ?_
  refine ex_callSr (As := [_, _]) ok_X11_leader (mi 6 rfl) rfl (m_reqOk hst (pk_in 3 14 (by decide)) (by decide) (by decide)) rfl rfl rfl (by decide) (Nat.le_of_ble_eq_true rfl) (by decide) ?_
  refine ex_aload_n ok_X11_leader (mi 7 rfl) rfl ?_
  refine ex_iload_n ok_X11_leader (mi 8 rfl) rfl ?_
  refine ex_callVr (As := [_]) (v := some (.int (nI 0))) (g1 := h) ok_X11_leader (mi 9 rfl) rfl ?c rfl (fk f.1 22 rfl) rfl rfl (by decide) (by decide) (Nat.le_of_ble_eq_true rfl) (by decide) ?_
  case c =>
    refine ex_M_of ok_X5_tell cw_X5_tell rfl hst (Nat.le_of_ble_eq_true rfl) ?_
    refine ex_iload_n ok_X5_tell (mi 0 rfl) rfl ?_
    refine ex_tblk (tgt := 87) ok_X5_tell (mi 1 rfl) (by decide) (by decide) (by decide) (by decide) ?_
    refine ex_aload_n ok_X5_tell (mi 11 rfl) rfl ?_
    refine ex_getRx ok_X5_tell (mi 12 rfl) rfl rfl (fk f.1 22 rfl) (fr f.1 28 rfl) (fk f.1 25 rfl) (by decide) ?_
    refine ex_getIx ok_X5_tell (mi 13 rfl) rfl rfl (fk f.1 25 rfl) (fi f.2.2.1 64 rfl) ?_
    refine ex_iret ok_X5_tell (mi 14 rfl) rfl ?_
    exact ⟨inlI (by decide), rfl⟩
  refine ex_iret ok_X11_leader (mi 10 rfl) rfl ?_
  exact ⟨Or.inl ⟨rfl, inlI (by decide)⟩, kp0⟩
