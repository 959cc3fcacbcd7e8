theorem d_up_1_0 {G : GE} (hst : (ge_l G).stackTraces = false) {x : Nat} {j : Nat} (hj : j < 9) : MM G 2 0 0 my_X12_up x [.int (nI 1), .int (nI j), .int (nI 0)] 0 (nI 1) := by
  intro h f
  refine ex_M_of ok_X12_up cw_X12_up rfl hst (Nat.le_of_ble_eq_true rfl) ?_
  refine ex_aload_n ok_X12_up (mi 0 rfl) rfl ?_
  refine ex_iload_n ok_X12_up (mi 1 rfl) rfl ?_
  refine ex_iconst ok_X12_up (mi 2 rfl) ?_
  refine ex_iconst ok_X12_up (mi 3 rfl) ?_
  refine ex_callSr (As := [_, _, _]) ok_X12_up (mi 4 rfl) rfl (m_in1 hst (by decide) (by decide)) rfl rfl rfl (by decide) (Nat.le_of_ble_eq_true rfl) (by decide) ?_
  refine ex_if_eq (tgt := 28) ok_X12_up (mi 5 rfl) rfl (fun hn => absurd hn (by decide)) (fun _ => ?_)
  refine ex_iload_n ok_X12_up (mi 6 rfl) rfl ?_
  refine ex_iconst ok_X12_up (mi 7 rfl) ?_
  refine ex_iload_n ok_X12_up (mi 8 rfl) rfl ?_
  refine ex_callSr (As := [_]) (v := some (.int (nI 9))) (g1 := h) ok_X12_up (mi 9 rfl) rfl ?c rfl rfl rfl (by decide) (Nat.le_of_ble_eq_true rfl) (by decide) ?_
  case c =>
    refine ex_M_of ok_X12_nodes cw_X12_nodes rfl hst (Nat.le_of_ble_eq_true rfl) ?_
    refine ex_iload_n ok_X12_nodes (mi 0 rfl) rfl ?_
    refine ex_iconst ok_X12_nodes (mi 1 rfl) ?_
    refine ex_icmp_ne (tgt := 10) ok_X12_nodes (mi 2 rfl) rfl (fun hn => absurd (by decide) hn) (fun _ => ?_)
    refine ex_bipush ok_X12_nodes (mi 3 rfl) ?_
    refine ex_goto (tgt := 21) ok_X12_nodes (mi 4 rfl) rfl ?_
    refine ex_iret ok_X12_nodes (mi 11 rfl) rfl ?_
    exact ⟨inlI (by decide), rfl⟩
  refine ex_iconst ok_X12_up (mi 10 rfl) ?_
  refine ex_isub ok_X12_up (mi 11 rfl) ?_
  refine ex_top (w := (nI 8)) (by decide) ?_
  refine ex_callSr (As := [_, _, _]) ok_X12_up (mi 12 rfl) rfl (m_in1 hst (vlo (vp_in_nI hj (by decide)) (by decide)) (vhi (vp_in_nI hj (by decide)) (by decide))) rfl rfl rfl (by decide) (Nat.le_of_ble_eq_true rfl) (by decide) ?_
  refine ex_if_eq (tgt := 28) ok_X12_up (mi 13 rfl) rfl (fun hn => absurd hn (by decide)) (fun _ => ?_)
  refine ex_iconst ok_X12_up (mi 14 rfl) ?_
  refine ex_goto (tgt := 29) ok_X12_up (mi 15 rfl) rfl ?_
  refine ex_iconst ok_X12_up (mi 17 rfl) ?_
  refine ex_iconst ok_X12_up (mi 18 rfl) ?_
  refine ex_callVr (As := [_, _, _]) (v := some (.int (nI 0))) (g1 := (ap x [(0, 0, 1200, 0, (nI 0))] h)) ok_X12_up (mi 19 rfl) rfl (m_ref111 (ws := []) hst f.1) rfl (fk f.1 0 rfl) rfl rfl (by decide) (by decide) (Nat.le_of_ble_eq_true rfl) (by decide) ?_
  refine ex_if_eq (tgt := 39) ok_X12_up (mi 20 rfl) rfl (fun _ => ?_) (fun hn => absurd (by decide) hn)
  refine ex_aload_n ok_X12_up (mi 23 rfl) rfl ?_
  refine ex_getRx ok_X12_up (mi 24 rfl) rfl rfl (kq apq (fk f.1 0 rfl)) (rq apq (fr f.1 0 rfl)) (kq apq (fk f.1 1 rfl)) (by decide) ?_
  refine ex_iload_n ok_X12_up (mi 25 rfl) rfl ?_
  refine ex_callSr (As := [_]) (v := some (.int (nI 3))) (g1 := (ap x [(0, 0, 1200, 0, (nI 0))] h)) ok_X12_up (mi 26 rfl) rfl ?c rfl rfl rfl (by decide) (Nat.le_of_ble_eq_true rfl) (by decide) ?_
  case c =>
    refine ex_M_of ok_X12_first cw_X12_first rfl hst (Nat.le_of_ble_eq_true rfl) ?_
    refine ex_iload_n ok_X12_first (mi 0 rfl) rfl ?_
    refine ex_if_ne (tgt := 8) ok_X12_first (mi 1 rfl) rfl (fun _ => ?_) (fun hn => absurd hn (by decide))
    refine ex_iload_n ok_X12_first (mi 4 rfl) rfl ?_
    refine ex_iconst ok_X12_first (mi 5 rfl) ?_
    refine ex_icmp_ne (tgt := 17) ok_X12_first (mi 6 rfl) rfl (fun hn => absurd (by decide) hn) (fun _ => ?_)
    refine ex_iconst ok_X12_first (mi 7 rfl) ?_
    refine ex_goto (tgt := 29) ok_X12_first (mi 8 rfl) rfl ?_
    refine ex_iret ok_X12_first (mi 15 rfl) rfl ?_
    exact ⟨inlI (by decide), rfl⟩
  refine ex_iload_n ok_X12_up (mi 27 rfl) rfl ?_
  refine ex_iadd ok_X12_up (mi 28 rfl) ?_
  refine ex_top (w := (nI (3 + j))) (nI_add 3 j) ?_
  refine ex_baldx ok_X12_up (mi 29 rfl) (kq apq (fk f.1 1 rfl)) (nq apq (fn f.1 1 rfl)) (vp_in_nI (by omega) (by decide)) (apA0 (rfl) (fg f.2.2.2 28 rfl (Nat.zero_le _) (by rw [nI_clamp (by omega)]; omega))) ?_
  refine ex_if_ne (tgt := 57) ok_X12_up (mi 30 rfl) rfl (fun hn => absurd (by decide) hn) (fun _ => ?_)
  refine ex_iconst ok_X12_up (mi 31 rfl) ?_
  refine ex_goto (tgt := 58) ok_X12_up (mi 32 rfl) rfl ?_
  refine ex_istore ok_X12_up (mi 34 rfl) ?_
  refine ex_aload_n ok_X12_up (mi 35 rfl) rfl ?_
  refine ex_getRx ok_X12_up (mi 36 rfl) rfl rfl (kq apq (fk f.1 0 rfl)) (rq apq (fr f.1 0 rfl)) (kq apq (fk f.1 1 rfl)) (by decide) ?_
  refine ex_iload_n ok_X12_up (mi 37 rfl) rfl ?_
  refine ex_callSr (As := [_]) (v := some (.int (nI 3))) (g1 := (ap x [(0, 0, 1200, 0, (nI 0))] h)) ok_X12_up (mi 38 rfl) rfl ?c rfl rfl rfl (by decide) (Nat.le_of_ble_eq_true rfl) (by decide) ?_
  case c =>
    refine ex_M_of ok_X12_first cw_X12_first rfl hst (Nat.le_of_ble_eq_true rfl) ?_
    refine ex_iload_n ok_X12_first (mi 0 rfl) rfl ?_
    refine ex_if_ne (tgt := 8) ok_X12_first (mi 1 rfl) rfl (fun _ => ?_) (fun hn => absurd hn (by decide))
    refine ex_iload_n ok_X12_first (mi 4 rfl) rfl ?_
    refine ex_iconst ok_X12_first (mi 5 rfl) ?_
    refine ex_icmp_ne (tgt := 17) ok_X12_first (mi 6 rfl) rfl (fun hn => absurd (by decide) hn) (fun _ => ?_)
    refine ex_iconst ok_X12_first (mi 7 rfl) ?_
    refine ex_goto (tgt := 29) ok_X12_first (mi 8 rfl) rfl ?_
    refine ex_iret ok_X12_first (mi 15 rfl) rfl ?_
    exact ⟨inlI (by decide), rfl⟩
  refine ex_iload_n ok_X12_up (mi 39 rfl) rfl ?_
  refine ex_iadd ok_X12_up (mi 40 rfl) ?_
  refine ex_top (w := (nI (3 + j))) (nI_add 3 j) ?_
  refine ex_iload_n ok_X12_up (mi 41 rfl) rfl ?_
  refine ex_if_ne (tgt := 78) ok_X12_up (mi 42 rfl) rfl (fun hn => absurd (by decide) hn) (fun _ => ?_)
  refine ex_iconst ok_X12_up (mi 43 rfl) ?_
  refine ex_goto (tgt := 79) ok_X12_up (mi 44 rfl) rfl ?_
  refine ex_basta (a := 1) (j := 3 + j) (v := (nI 1)) ok_X12_up (mi 46 rfl) (fk f.1 1 rfl) (fn f.1 1 rfl) (vp_in_nI (by omega) (by decide)) (nI_clamp (by omega)) (by decide) (by decide) ?_
  refine ex_iload ok_X12_up (mi 47 rfl) rfl ?_
  refine ex_zret ok_X12_up (mi 48 rfl) rfl (by decide) ?_
  exact ⟨_, rfl, fun _ => by decide, apI (a := 0) rfl, kq apq (fk f.1 0 rfl), kp_ap rfl⟩
theorem d_up_1_1 {G : GE} (hst : (ge_l G).stackTraces = false) {x : Nat} {j : Nat} (hj : j < 9) : MM G 2 0 0 my_X12_up x [.int (nI 1), .int (nI j), .int (nI 1)] 0 (nI 1) := by
  intro h f
  refine ex_M_of ok_X12_up cw_X12_up rfl hst (Nat.le_of_ble_eq_true rfl) ?_
  refine ex_aload_n ok_X12_up (mi 0 rfl) rfl ?_
  refine ex_iload_n ok_X12_up (mi 1 rfl) rfl ?_
  refine ex_iconst ok_X12_up (mi 2 rfl) ?_
  refine ex_iconst ok_X12_up (mi 3 rfl) ?_
  refine ex_callSr (As := [_, _, _]) ok_X12_up (mi 4 rfl) rfl (m_in1 hst (by decide) (by decide)) rfl rfl rfl (by decide) (Nat.le_of_ble_eq_true rfl) (by decide) ?_
  refine ex_if_eq (tgt := 28) ok_X12_up (mi 5 rfl) rfl (fun hn => absurd hn (by decide)) (fun _ => ?_)
  refine ex_iload_n ok_X12_up (mi 6 rfl) rfl ?_
  refine ex_iconst ok_X12_up (mi 7 rfl) ?_
  refine ex_iload_n ok_X12_up (mi 8 rfl) rfl ?_
  refine ex_callSr (As := [_]) (v := some (.int (nI 9))) (g1 := h) ok_X12_up (mi 9 rfl) rfl ?c rfl rfl rfl (by decide) (Nat.le_of_ble_eq_true rfl) (by decide) ?_
  case c =>
    refine ex_M_of ok_X12_nodes cw_X12_nodes rfl hst (Nat.le_of_ble_eq_true rfl) ?_
    refine ex_iload_n ok_X12_nodes (mi 0 rfl) rfl ?_
    refine ex_iconst ok_X12_nodes (mi 1 rfl) ?_
    refine ex_icmp_ne (tgt := 10) ok_X12_nodes (mi 2 rfl) rfl (fun hn => absurd (by decide) hn) (fun _ => ?_)
    refine ex_bipush ok_X12_nodes (mi 3 rfl) ?_
    refine ex_goto (tgt := 21) ok_X12_nodes (mi 4 rfl) rfl ?_
    refine ex_iret ok_X12_nodes (mi 11 rfl) rfl ?_
    exact ⟨inlI (by decide), rfl⟩
  refine ex_iconst ok_X12_up (mi 10 rfl) ?_
  refine ex_isub ok_X12_up (mi 11 rfl) ?_
  refine ex_top (w := (nI 8)) (by decide) ?_
  refine ex_callSr (As := [_, _, _]) ok_X12_up (mi 12 rfl) rfl (m_in1 hst (vlo (vp_in_nI hj (by decide)) (by decide)) (vhi (vp_in_nI hj (by decide)) (by decide))) rfl rfl rfl (by decide) (Nat.le_of_ble_eq_true rfl) (by decide) ?_
  refine ex_if_eq (tgt := 28) ok_X12_up (mi 13 rfl) rfl (fun hn => absurd hn (by decide)) (fun _ => ?_)
  refine ex_iconst ok_X12_up (mi 14 rfl) ?_
  refine ex_goto (tgt := 29) ok_X12_up (mi 15 rfl) rfl ?_
  refine ex_iconst ok_X12_up (mi 17 rfl) ?_
  refine ex_iconst ok_X12_up (mi 18 rfl) ?_
  refine ex_callVr (As := [_, _, _]) (v := some (.int (nI 0))) (g1 := (ap x [(0, 0, 1200, 0, (nI 0))] h)) ok_X12_up (mi 19 rfl) rfl (m_ref111 (ws := []) hst f.1) rfl (fk f.1 0 rfl) rfl rfl (by decide) (by decide) (Nat.le_of_ble_eq_true rfl) (by decide) ?_
  refine ex_if_eq (tgt := 39) ok_X12_up (mi 20 rfl) rfl (fun _ => ?_) (fun hn => absurd (by decide) hn)
  refine ex_aload_n ok_X12_up (mi 23 rfl) rfl ?_
  refine ex_getRx ok_X12_up (mi 24 rfl) rfl rfl (kq apq (fk f.1 0 rfl)) (rq apq (fr f.1 0 rfl)) (kq apq (fk f.1 1 rfl)) (by decide) ?_
  refine ex_iload_n ok_X12_up (mi 25 rfl) rfl ?_
  refine ex_callSr (As := [_]) (v := some (.int (nI 3))) (g1 := (ap x [(0, 0, 1200, 0, (nI 0))] h)) ok_X12_up (mi 26 rfl) rfl ?c rfl rfl rfl (by decide) (Nat.le_of_ble_eq_true rfl) (by decide) ?_
  case c =>
    refine ex_M_of ok_X12_first cw_X12_first rfl hst (Nat.le_of_ble_eq_true rfl) ?_
    refine ex_iload_n ok_X12_first (mi 0 rfl) rfl ?_
    refine ex_if_ne (tgt := 8) ok_X12_first (mi 1 rfl) rfl (fun _ => ?_) (fun hn => absurd hn (by decide))
    refine ex_iload_n ok_X12_first (mi 4 rfl) rfl ?_
    refine ex_iconst ok_X12_first (mi 5 rfl) ?_
    refine ex_icmp_ne (tgt := 17) ok_X12_first (mi 6 rfl) rfl (fun hn => absurd (by decide) hn) (fun _ => ?_)
    refine ex_iconst ok_X12_first (mi 7 rfl) ?_
    refine ex_goto (tgt := 29) ok_X12_first (mi 8 rfl) rfl ?_
    refine ex_iret ok_X12_first (mi 15 rfl) rfl ?_
    exact ⟨inlI (by decide), rfl⟩
  refine ex_iload_n ok_X12_up (mi 27 rfl) rfl ?_
  refine ex_iadd ok_X12_up (mi 28 rfl) ?_
  refine ex_top (w := (nI (3 + j))) (nI_add 3 j) ?_
  refine ex_baldx ok_X12_up (mi 29 rfl) (kq apq (fk f.1 1 rfl)) (nq apq (fn f.1 1 rfl)) (vp_in_nI (by omega) (by decide)) (apA0 (rfl) (fg f.2.2.2 28 rfl (Nat.zero_le _) (by rw [nI_clamp (by omega)]; omega))) ?_
  refine ex_if_ne (tgt := 57) ok_X12_up (mi 30 rfl) rfl (fun hn => absurd (by decide) hn) (fun _ => ?_)
  refine ex_iconst ok_X12_up (mi 31 rfl) ?_
  refine ex_goto (tgt := 58) ok_X12_up (mi 32 rfl) rfl ?_
  refine ex_istore ok_X12_up (mi 34 rfl) ?_
  refine ex_aload_n ok_X12_up (mi 35 rfl) rfl ?_
  refine ex_getRx ok_X12_up (mi 36 rfl) rfl rfl (kq apq (fk f.1 0 rfl)) (rq apq (fr f.1 0 rfl)) (kq apq (fk f.1 1 rfl)) (by decide) ?_
  refine ex_iload_n ok_X12_up (mi 37 rfl) rfl ?_
  refine ex_callSr (As := [_]) (v := some (.int (nI 3))) (g1 := (ap x [(0, 0, 1200, 0, (nI 0))] h)) ok_X12_up (mi 38 rfl) rfl ?c rfl rfl rfl (by decide) (Nat.le_of_ble_eq_true rfl) (by decide) ?_
  case c =>
    refine ex_M_of ok_X12_first cw_X12_first rfl hst (Nat.le_of_ble_eq_true rfl) ?_
    refine ex_iload_n ok_X12_first (mi 0 rfl) rfl ?_
    refine ex_if_ne (tgt := 8) ok_X12_first (mi 1 rfl) rfl (fun _ => ?_) (fun hn => absurd hn (by decide))
    refine ex_iload_n ok_X12_first (mi 4 rfl) rfl ?_
    refine ex_iconst ok_X12_first (mi 5 rfl) ?_
    refine ex_icmp_ne (tgt := 17) ok_X12_first (mi 6 rfl) rfl (fun hn => absurd (by decide) hn) (fun _ => ?_)
    refine ex_iconst ok_X12_first (mi 7 rfl) ?_
    refine ex_goto (tgt := 29) ok_X12_first (mi 8 rfl) rfl ?_
    refine ex_iret ok_X12_first (mi 15 rfl) rfl ?_
    exact ⟨inlI (by decide), rfl⟩
  refine ex_iload_n ok_X12_up (mi 39 rfl) rfl ?_
  refine ex_iadd ok_X12_up (mi 40 rfl) ?_
  refine ex_top (w := (nI (3 + j))) (nI_add 3 j) ?_
  refine ex_iload_n ok_X12_up (mi 41 rfl) rfl ?_
  refine ex_if_ne (tgt := 78) ok_X12_up (mi 42 rfl) rfl (fun _ => ?_) (fun hn => absurd hn (by decide))
  refine ex_iconst ok_X12_up (mi 45 rfl) ?_
  refine ex_basta (a := 1) (j := 3 + j) (v := (nI 0)) ok_X12_up (mi 46 rfl) (fk f.1 1 rfl) (fn f.1 1 rfl) (vp_in_nI (by omega) (by decide)) (nI_clamp (by omega)) (by decide) (by decide) ?_
  refine ex_iload ok_X12_up (mi 47 rfl) rfl ?_
  refine ex_zret ok_X12_up (mi 48 rfl) rfl (by decide) ?_
  exact ⟨_, rfl, fun _ => by decide, apI (a := 0) rfl, kq apq (fk f.1 0 rfl), kp_ap rfl⟩
theorem d_up_2_b1 {G : GE} (hst : (ge_l G).stackTraces = false) {x : Nat} {p1 p2 : Int32} (c1 : ¬ vp_in p1 12) : MM G 2 0 0 my_X12_up x [.int (nI 2), .int p1, .int p2] 1 (nI 0) := by
  intro h f
  refine ex_M_of ok_X12_up cw_X12_up rfl hst (Nat.le_of_ble_eq_true rfl) ?_
  refine ex_aload_n ok_X12_up (mi 0 rfl) rfl ?_
  refine ex_iload_n ok_X12_up (mi 1 rfl) rfl ?_
  refine ex_iconst ok_X12_up (mi 2 rfl) ?_
  refine ex_iconst ok_X12_up (mi 3 rfl) ?_
  refine ex_callSr (As := [_, _, _]) ok_X12_up (mi 4 rfl) rfl (m_in1 hst (by decide) (by decide)) rfl rfl rfl (by decide) (Nat.le_of_ble_eq_true rfl) (by decide) ?_
  refine ex_if_eq (tgt := 28) ok_X12_up (mi 5 rfl) rfl (fun hn => absurd hn (by decide)) (fun _ => ?_)
  refine ex_iload_n ok_X12_up (mi 6 rfl) rfl ?_
  refine ex_iconst ok_X12_up (mi 7 rfl) ?_
  refine ex_iload_n ok_X12_up (mi 8 rfl) rfl ?_
  refine ex_callSr (As := [_]) (v := some (.int (nI 12))) (g1 := h) ok_X12_up (mi 9 rfl) rfl ?c rfl rfl rfl (by decide) (Nat.le_of_ble_eq_true rfl) (by decide) ?_
  case c =>
    refine ex_M_of ok_X12_nodes cw_X12_nodes rfl hst (Nat.le_of_ble_eq_true rfl) ?_
    refine ex_iload_n ok_X12_nodes (mi 0 rfl) rfl ?_
    refine ex_iconst ok_X12_nodes (mi 1 rfl) ?_
    refine ex_icmp_ne (tgt := 10) ok_X12_nodes (mi 2 rfl) rfl (fun _ => ?_) (fun hn => absurd hn (by decide))
    refine ex_iload_n ok_X12_nodes (mi 5 rfl) rfl ?_
    refine ex_iconst ok_X12_nodes (mi 6 rfl) ?_
    refine ex_icmp_ne (tgt := 20) ok_X12_nodes (mi 7 rfl) rfl (fun hn => absurd (by decide) hn) (fun _ => ?_)
    refine ex_bipush ok_X12_nodes (mi 8 rfl) ?_
    refine ex_goto (tgt := 21) ok_X12_nodes (mi 9 rfl) rfl ?_
    refine ex_iret ok_X12_nodes (mi 11 rfl) rfl ?_
    exact ⟨inlI (by decide), rfl⟩
  refine ex_iconst ok_X12_up (mi 10 rfl) ?_
  refine ex_isub ok_X12_up (mi 11 rfl) ?_
  refine ex_top (w := (nI 11)) (by decide) ?_
  refine ex_callSr (As := [_, _, _]) ok_X12_up (mi 12 rfl) rfl (m_in0 hst (vbad c1 (by decide))) rfl rfl rfl (by decide) (Nat.le_of_ble_eq_true rfl) (by decide) ?_
  refine ex_if_eq (tgt := 28) ok_X12_up (mi 13 rfl) rfl (fun _ => ?_) (fun hn => absurd (by decide) hn)
  refine ex_iconst ok_X12_up (mi 16 rfl) ?_
  refine ex_iconst ok_X12_up (mi 17 rfl) ?_
  refine ex_iconst ok_X12_up (mi 18 rfl) ?_
  refine ex_callVr (As := [_, _, _]) (v := some (.int (nI 1))) (g1 := (ap x [(0, 0, 1200, 0, (nI 1))] h)) ok_X12_up (mi 19 rfl) rfl (m_ref011 (ws := []) hst f.1) rfl (fk f.1 0 rfl) rfl rfl (by decide) (by decide) (Nat.le_of_ble_eq_true rfl) (by decide) ?_
  refine ex_if_eq (tgt := 39) ok_X12_up (mi 20 rfl) rfl (fun hn => absurd hn (by decide)) (fun _ => ?_)
  refine ex_iconst ok_X12_up (mi 21 rfl) ?_
  refine ex_zret ok_X12_up (mi 22 rfl) rfl (by decide) ?_
  exact ⟨_, rfl, fun e => absurd e (by decide), apI (a := 0) rfl, kq apq (fk f.1 0 rfl), kp_ap rfl⟩
theorem d_up_2_0 {G : GE} (hst : (ge_l G).stackTraces = false) {x : Nat} {j : Nat} (hj : j < 12) : MM G 2 0 0 my_X12_up x [.int (nI 2), .int (nI j), .int (nI 0)] 0 (nI 1) := by
  intro h f
  refine ex_M_of ok_X12_up cw_X12_up rfl hst (Nat.le_of_ble_eq_true rfl) ?_
  refine ex_aload_n ok_X12_up (mi 0 rfl) rfl ?_
  refine ex_iload_n ok_X12_up (mi 1 rfl) rfl ?_
  refine ex_iconst ok_X12_up (mi 2 rfl) ?_
  refine ex_iconst ok_X12_up (mi 3 rfl) ?_
  refine ex_callSr (As := [_, _, _]) ok_X12_up (mi 4 rfl) rfl (m_in1 hst (by decide) (by decide)) rfl rfl rfl (by decide) (Nat.le_of_ble_eq_true rfl) (by decide) ?_
  refine ex_if_eq (tgt := 28) ok_X12_up (mi 5 rfl) rfl (fun hn => absurd hn (by decide)) (fun _ => ?_)
  refine ex_iload_n ok_X12_up (mi 6 rfl) rfl ?_
  refine ex_iconst ok_X12_up (mi 7 rfl) ?_
  refine ex_iload_n ok_X12_up (mi 8 rfl) rfl ?_
  refine ex_callSr (As := [_]) (v := some (.int (nI 12))) (g1 := h) ok_X12_up (mi 9 rfl) rfl ?c rfl rfl rfl (by decide) (Nat.le_of_ble_eq_true rfl) (by decide) ?_
  case c =>
    refine ex_M_of ok_X12_nodes cw_X12_nodes rfl hst (Nat.le_of_ble_eq_true rfl) ?_
    refine ex_iload_n ok_X12_nodes (mi 0 rfl) rfl ?_
    refine ex_iconst ok_X12_nodes (mi 1 rfl) ?_
    refine ex_icmp_ne (tgt := 10) ok_X12_nodes (mi 2 rfl) rfl (fun _ => ?_) (fun hn => absurd hn (by decide))
    refine ex_iload_n ok_X12_nodes (mi 5 rfl) rfl ?_
    refine ex_iconst ok_X12_nodes (mi 6 rfl) ?_
    refine ex_icmp_ne (tgt := 20) ok_X12_nodes (mi 7 rfl) rfl (fun hn => absurd (by decide) hn) (fun _ => ?_)
    refine ex_bipush ok_X12_nodes (mi 8 rfl) ?_
    refine ex_goto (tgt := 21) ok_X12_nodes (mi 9 rfl) rfl ?_
    refine ex_iret ok_X12_nodes (mi 11 rfl) rfl ?_
    exact ⟨inlI (by decide), rfl⟩
  refine ex_iconst ok_X12_up (mi 10 rfl) ?_
  refine ex_isub ok_X12_up (mi 11 rfl) ?_
  refine ex_top (w := (nI 11)) (by decide) ?_
  refine ex_callSr (As := [_, _, _]) ok_X12_up (mi 12 rfl) rfl (m_in1 hst (vlo (vp_in_nI hj (by decide)) (by decide)) (vhi (vp_in_nI hj (by decide)) (by decide))) rfl rfl rfl (by decide) (Nat.le_of_ble_eq_true rfl) (by decide) ?_
  refine ex_if_eq (tgt := 28) ok_X12_up (mi 13 rfl) rfl (fun hn => absurd hn (by decide)) (fun _ => ?_)
  refine ex_iconst ok_X12_up (mi 14 rfl) ?_
  refine ex_goto (tgt := 29) ok_X12_up (mi 15 rfl) rfl ?_
  refine ex_iconst ok_X12_up (mi 17 rfl) ?_
  refine ex_iconst ok_X12_up (mi 18 rfl) ?_
  refine ex_callVr (As := [_, _, _]) (v := some (.int (nI 0))) (g1 := (ap x [(0, 0, 1200, 0, (nI 0))] h)) ok_X12_up (mi 19 rfl) rfl (m_ref111 (ws := []) hst f.1) rfl (fk f.1 0 rfl) rfl rfl (by decide) (by decide) (Nat.le_of_ble_eq_true rfl) (by decide) ?_
  refine ex_if_eq (tgt := 39) ok_X12_up (mi 20 rfl) rfl (fun _ => ?_) (fun hn => absurd (by decide) hn)
  refine ex_aload_n ok_X12_up (mi 23 rfl) rfl ?_
  refine ex_getRx ok_X12_up (mi 24 rfl) rfl rfl (kq apq (fk f.1 0 rfl)) (rq apq (fr f.1 0 rfl)) (kq apq (fk f.1 1 rfl)) (by decide) ?_
  refine ex_iload_n ok_X12_up (mi 25 rfl) rfl ?_
  refine ex_callSr (As := [_]) (v := some (.int (nI 12))) (g1 := (ap x [(0, 0, 1200, 0, (nI 0))] h)) ok_X12_up (mi 26 rfl) rfl ?c rfl rfl rfl (by decide) (Nat.le_of_ble_eq_true rfl) (by decide) ?_
  case c =>
    refine ex_M_of ok_X12_first cw_X12_first rfl hst (Nat.le_of_ble_eq_true rfl) ?_
    refine ex_iload_n ok_X12_first (mi 0 rfl) rfl ?_
    refine ex_if_ne (tgt := 8) ok_X12_first (mi 1 rfl) rfl (fun _ => ?_) (fun hn => absurd hn (by decide))
    refine ex_iload_n ok_X12_first (mi 4 rfl) rfl ?_
    refine ex_iconst ok_X12_first (mi 5 rfl) ?_
    refine ex_icmp_ne (tgt := 17) ok_X12_first (mi 6 rfl) rfl (fun _ => ?_) (fun hn => absurd hn (by decide))
    refine ex_iload_n ok_X12_first (mi 9 rfl) rfl ?_
    refine ex_iconst ok_X12_first (mi 10 rfl) ?_
    refine ex_icmp_ne (tgt := 27) ok_X12_first (mi 11 rfl) rfl (fun hn => absurd (by decide) hn) (fun _ => ?_)
    refine ex_bipush ok_X12_first (mi 12 rfl) ?_
    refine ex_goto (tgt := 29) ok_X12_first (mi 13 rfl) rfl ?_
    refine ex_iret ok_X12_first (mi 15 rfl) rfl ?_
    exact ⟨inlI (by decide), rfl⟩
  refine ex_iload_n ok_X12_up (mi 27 rfl) rfl ?_
  refine ex_iadd ok_X12_up (mi 28 rfl) ?_
  refine ex_top (w := (nI (12 + j))) (nI_add 12 j) ?_
  refine ex_baldx ok_X12_up (mi 29 rfl) (kq apq (fk f.1 1 rfl)) (nq apq (fn f.1 1 rfl)) (vp_in_nI (by omega) (by decide)) (apA0 (rfl) (fg f.2.2.2 28 rfl (Nat.zero_le _) (by rw [nI_clamp (by omega)]; omega))) ?_
  refine ex_if_ne (tgt := 57) ok_X12_up (mi 30 rfl) rfl (fun hn => absurd (by decide) hn) (fun _ => ?_)
  refine ex_iconst ok_X12_up (mi 31 rfl) ?_
  refine ex_goto (tgt := 58) ok_X12_up (mi 32 rfl) rfl ?_
  refine ex_istore ok_X12_up (mi 34 rfl) ?_
  refine ex_aload_n ok_X12_up (mi 35 rfl) rfl ?_
  refine ex_getRx ok_X12_up (mi 36 rfl) rfl rfl (kq apq (fk f.1 0 rfl)) (rq apq (fr f.1 0 rfl)) (kq apq (fk f.1 1 rfl)) (by decide) ?_
  refine ex_iload_n ok_X12_up (mi 37 rfl) rfl ?_
  refine ex_callSr (As := [_]) (v := some (.int (nI 12))) (g1 := (ap x [(0, 0, 1200, 0, (nI 0))] h)) ok_X12_up (mi 38 rfl) rfl ?c rfl rfl rfl (by decide) (Nat.le_of_ble_eq_true rfl) (by decide) ?_
  case c =>
    refine ex_M_of ok_X12_first cw_X12_first rfl hst (Nat.le_of_ble_eq_true rfl) ?_
    refine ex_iload_n ok_X12_first (mi 0 rfl) rfl ?_
    refine ex_if_ne (tgt := 8) ok_X12_first (mi 1 rfl) rfl (fun _ => ?_) (fun hn => absurd hn (by decide))
    refine ex_iload_n ok_X12_first (mi 4 rfl) rfl ?_
    refine ex_iconst ok_X12_first (mi 5 rfl) ?_
    refine ex_icmp_ne (tgt := 17) ok_X12_first (mi 6 rfl) rfl (fun _ => ?_) (fun hn => absurd hn (by decide))
    refine ex_iload_n ok_X12_first (mi 9 rfl) rfl ?_
    refine ex_iconst ok_X12_first (mi 10 rfl) ?_
    refine ex_icmp_ne (tgt := 27) ok_X12_first (mi 11 rfl) rfl (fun hn => absurd (by decide) hn) (fun _ => ?_)
    refine ex_bipush ok_X12_first (mi 12 rfl) ?_
    refine ex_goto (tgt := 29) ok_X12_first (mi 13 rfl) rfl ?_
    refine ex_iret ok_X12_first (mi 15 rfl) rfl ?_
    exact ⟨inlI (by decide), rfl⟩
  refine ex_iload_n ok_X12_up (mi 39 rfl) rfl ?_
  refine ex_iadd ok_X12_up (mi 40 rfl) ?_
  refine ex_top (w := (nI (12 + j))) (nI_add 12 j) ?_
  refine ex_iload_n ok_X12_up (mi 41 rfl) rfl ?_
  refine ex_if_ne (tgt := 78) ok_X12_up (mi 42 rfl) rfl (fun hn => absurd (by decide) hn) (fun _ => ?_)
  refine ex_iconst ok_X12_up (mi 43 rfl) ?_
  refine ex_goto (tgt := 79) ok_X12_up (mi 44 rfl) rfl ?_
  refine ex_basta (a := 1) (j := 12 + j) (v := (nI 1)) ok_X12_up (mi 46 rfl) (fk f.1 1 rfl) (fn f.1 1 rfl) (vp_in_nI (by omega) (by decide)) (nI_clamp (by omega)) (by decide) (by decide) ?_
  refine ex_iload ok_X12_up (mi 47 rfl) rfl ?_
  refine ex_zret ok_X12_up (mi 48 rfl) rfl (by decide) ?_
  exact ⟨_, rfl, fun _ => by decide, apI (a := 0) rfl, kq apq (fk f.1 0 rfl), kp_ap rfl⟩
theorem d_up_2_1 {G : GE} (hst : (ge_l G).stackTraces = false) {x : Nat} {j : Nat} (hj : j < 12) : MM G 2 0 0 my_X12_up x [.int (nI 2), .int (nI j), .int (nI 1)] 0 (nI 1) := by
  intro h f
  refine ex_M_of ok_X12_up cw_X12_up rfl hst (Nat.le_of_ble_eq_true rfl) ?_
  refine ex_aload_n ok_X12_up (mi 0 rfl) rfl ?_
  refine ex_iload_n ok_X12_up (mi 1 rfl) rfl ?_
  refine ex_iconst ok_X12_up (mi 2 rfl) ?_
  refine ex_iconst ok_X12_up (mi 3 rfl) ?_
  refine ex_callSr (As := [_, _, _]) ok_X12_up (mi 4 rfl) rfl (m_in1 hst (by decide) (by decide)) rfl rfl rfl (by decide) (Nat.le_of_ble_eq_true rfl) (by decide) ?_
  refine ex_if_eq (tgt := 28) ok_X12_up (mi 5 rfl) rfl (fun hn => absurd hn (by decide)) (fun _ => ?_)
  refine ex_iload_n ok_X12_up (mi 6 rfl) rfl ?_
  refine ex_iconst ok_X12_up (mi 7 rfl) ?_
  refine ex_iload_n ok_X12_up (mi 8 rfl) rfl ?_
  refine ex_callSr (As := [_]) (v := some (.int (nI 12))) (g1 := h) ok_X12_up (mi 9 rfl) rfl ?c rfl rfl rfl (by decide) (Nat.le_of_ble_eq_true rfl) (by decide) ?_
  case c =>
    refine ex_M_of ok_X12_nodes cw_X12_nodes rfl hst (Nat.le_of_ble_eq_true rfl) ?_
    refine ex_iload_n ok_X12_nodes (mi 0 rfl) rfl ?_
    refine ex_iconst ok_X12_nodes (mi 1 rfl) ?_
    refine ex_icmp_ne (tgt := 10) ok_X12_nodes (mi 2 rfl) rfl (fun _ => ?_) (fun hn => absurd hn (by decide))
    refine ex_iload_n ok_X12_nodes (mi 5 rfl) rfl ?_
    refine ex_iconst ok_X12_nodes (mi 6 rfl) ?_
    refine ex_icmp_ne (tgt := 20) ok_X12_nodes (mi 7 rfl) rfl (fun hn => absurd (by decide) hn) (fun _ => ?_)
    refine ex_bipush ok_X12_nodes (mi 8 rfl) ?_
    refine ex_goto (tgt := 21) ok_X12_nodes (mi 9 rfl) rfl ?_
    refine ex_iret ok_X12_nodes (mi 11 rfl) rfl ?_
    exact ⟨inlI (by decide), rfl⟩
  refine ex_iconst ok_X12_up (mi 10 rfl) ?_
  refine ex_isub ok_X12_up (mi 11 rfl) ?_
  refine ex_top (w := (nI 11)) (by decide) ?_
  refine ex_callSr (As := [_, _, _]) ok_X12_up (mi 12 rfl) rfl (m_in1 hst (vlo (vp_in_nI hj (by decide)) (by decide)) (vhi (vp_in_nI hj (by decide)) (by decide))) rfl rfl rfl (by decide) (Nat.le_of_ble_eq_true rfl) (by decide) ?_
  refine ex_if_eq (tgt := 28) ok_X12_up (mi 13 rfl) rfl (fun hn => absurd hn (by decide)) (fun _ => ?_)
  refine ex_iconst ok_X12_up (mi 14 rfl) ?_
  refine ex_goto (tgt := 29) ok_X12_up (mi 15 rfl) rfl ?_
  refine ex_iconst ok_X12_up (mi 17 rfl) ?_
  refine ex_iconst ok_X12_up (mi 18 rfl) ?_
  refine ex_callVr (As := [_, _, _]) (v := some (.int (nI 0))) (g1 := (ap x [(0, 0, 1200, 0, (nI 0))] h)) ok_X12_up (mi 19 rfl) rfl (m_ref111 (ws := []) hst f.1) rfl (fk f.1 0 rfl) rfl rfl (by decide) (by decide) (Nat.le_of_ble_eq_true rfl) (by decide) ?_
  refine ex_if_eq (tgt := 39) ok_X12_up (mi 20 rfl) rfl (fun _ => ?_) (fun hn => absurd (by decide) hn)
  refine ex_aload_n ok_X12_up (mi 23 rfl) rfl ?_
  refine ex_getRx ok_X12_up (mi 24 rfl) rfl rfl (kq apq (fk f.1 0 rfl)) (rq apq (fr f.1 0 rfl)) (kq apq (fk f.1 1 rfl)) (by decide) ?_
  refine ex_iload_n ok_X12_up (mi 25 rfl) rfl ?_
  refine ex_callSr (As := [_]) (v := some (.int (nI 12))) (g1 := (ap x [(0, 0, 1200, 0, (nI 0))] h)) ok_X12_up (mi 26 rfl) rfl ?c rfl rfl rfl (by decide) (Nat.le_of_ble_eq_true rfl) (by decide) ?_
  case c =>
    refine ex_M_of ok_X12_first cw_X12_first rfl hst (Nat.le_of_ble_eq_true rfl) ?_
    refine ex_iload_n ok_X12_first (mi 0 rfl) rfl ?_
    refine ex_if_ne (tgt := 8) ok_X12_first (mi 1 rfl) rfl (fun _ => ?_) (fun hn => absurd hn (by decide))
    refine ex_iload_n ok_X12_first (mi 4 rfl) rfl ?_
    refine ex_iconst ok_X12_first (mi 5 rfl) ?_
    refine ex_icmp_ne (tgt := 17) ok_X12_first (mi 6 rfl) rfl (fun _ => ?_) (fun hn => absurd hn (by decide))
    refine ex_iload_n ok_X12_first (mi 9 rfl) rfl ?_
    refine ex_iconst ok_X12_first (mi 10 rfl) ?_
    refine ex_icmp_ne (tgt := 27) ok_X12_first (mi 11 rfl) rfl (fun hn => absurd (by decide) hn) (fun _ => ?_)
    refine ex_bipush ok_X12_first (mi 12 rfl) ?_
    refine ex_goto (tgt := 29) ok_X12_first (mi 13 rfl) rfl ?_
    refine ex_iret ok_X12_first (mi 15 rfl) rfl ?_
    exact ⟨inlI (by decide), rfl⟩
  refine ex_iload_n ok_X12_up (mi 27 rfl) rfl ?_
  refine ex_iadd ok_X12_up (mi 28 rfl) ?_
  refine ex_top (w := (nI (12 + j))) (nI_add 12 j) ?_
  refine ex_baldx ok_X12_up (mi 29 rfl) (kq apq (fk f.1 1 rfl)) (nq apq (fn f.1 1 rfl)) (vp_in_nI (by omega) (by decide)) (apA0 (rfl) (fg f.2.2.2 28 rfl (Nat.zero_le _) (by rw [nI_clamp (by omega)]; omega))) ?_
  refine ex_if_ne (tgt := 57) ok_X12_up (mi 30 rfl) rfl (fun hn => absurd (by decide) hn) (fun _ => ?_)
  refine ex_iconst ok_X12_up (mi 31 rfl) ?_
  refine ex_goto (tgt := 58) ok_X12_up (mi 32 rfl) rfl ?_
  refine ex_istore ok_X12_up (mi 34 rfl) ?_
  refine ex_aload_n ok_X12_up (mi 35 rfl) rfl ?_
  refine ex_getRx ok_X12_up (mi 36 rfl) rfl rfl (kq apq (fk f.1 0 rfl)) (rq apq (fr f.1 0 rfl)) (kq apq (fk f.1 1 rfl)) (by decide) ?_
  refine ex_iload_n ok_X12_up (mi 37 rfl) rfl ?_
  refine ex_callSr (As := [_]) (v := some (.int (nI 12))) (g1 := (ap x [(0, 0, 1200, 0, (nI 0))] h)) ok_X12_up (mi 38 rfl) rfl ?c rfl rfl rfl (by decide) (Nat.le_of_ble_eq_true rfl) (by decide) ?_
  case c =>
    refine ex_M_of ok_X12_first cw_X12_first rfl hst (Nat.le_of_ble_eq_true rfl) ?_
    refine ex_iload_n ok_X12_first (mi 0 rfl) rfl ?_
    refine ex_if_ne (tgt := 8) ok_X12_first (mi 1 rfl) rfl (fun _ => ?_) (fun hn => absurd hn (by decide))
    refine ex_iload_n ok_X12_first (mi 4 rfl) rfl ?_
    refine ex_iconst ok_X12_first (mi 5 rfl) ?_
    refine ex_icmp_ne (tgt := 17) ok_X12_first (mi 6 rfl) rfl (fun _ => ?_) (fun hn => absurd hn (by decide))
    refine ex_iload_n ok_X12_first (mi 9 rfl) rfl ?_
    refine ex_iconst ok_X12_first (mi 10 rfl) ?_
    refine ex_icmp_ne (tgt := 27) ok_X12_first (mi 11 rfl) rfl (fun hn => absurd (by decide) hn) (fun _ => ?_)
    refine ex_bipush ok_X12_first (mi 12 rfl) ?_
    refine ex_goto (tgt := 29) ok_X12_first (mi 13 rfl) rfl ?_
    refine ex_iret ok_X12_first (mi 15 rfl) rfl ?_
    exact ⟨inlI (by decide), rfl⟩
  refine ex_iload_n ok_X12_up (mi 39 rfl) rfl ?_
  refine ex_iadd ok_X12_up (mi 40 rfl) ?_
  refine ex_top (w := (nI (12 + j))) (nI_add 12 j) ?_
  refine ex_iload_n ok_X12_up (mi 41 rfl) rfl ?_
  refine ex_if_ne (tgt := 78) ok_X12_up (mi 42 rfl) rfl (fun _ => ?_) (fun hn => absurd hn (by decide))
  refine ex_iconst ok_X12_up (mi 45 rfl) ?_
  refine ex_basta (a := 1) (j := 12 + j) (v := (nI 0)) ok_X12_up (mi 46 rfl) (fk f.1 1 rfl) (fn f.1 1 rfl) (vp_in_nI (by omega) (by decide)) (nI_clamp (by omega)) (by decide) (by decide) ?_
  refine ex_iload ok_X12_up (mi 47 rfl) rfl ?_
  refine ex_zret ok_X12_up (mi 48 rfl) rfl (by decide) ?_
  exact ⟨_, rfl, fun _ => by decide, apI (a := 0) rfl, kq apq (fk f.1 0 rfl), kp_ap rfl⟩
theorem d_up_3_b1 {G : GE} (hst : (ge_l G).stackTraces = false) {x : Nat} {p1 p2 : Int32} (c1 : ¬ vp_in p1 3) : MM G 2 0 0 my_X12_up x [.int (nI 3), .int p1, .int p2] 1 (nI 0) := by
  intro h f
  refine ex_M_of ok_X12_up cw_X12_up rfl hst (Nat.le_of_ble_eq_true rfl) ?_
  refine ex_aload_n ok_X12_up (mi 0 rfl) rfl ?_
  refine ex_iload_n ok_X12_up (mi 1 rfl) rfl ?_
  refine ex_iconst ok_X12_up (mi 2 rfl) ?_
  refine ex_iconst ok_X12_up (mi 3 rfl) ?_
  refine ex_callSr (As := [_, _, _]) ok_X12_up (mi 4 rfl) rfl (m_in1 hst (by decide) (by decide)) rfl rfl rfl (by decide) (Nat.le_of_ble_eq_true rfl) (by decide) ?_
  refine ex_if_eq (tgt := 28) ok_X12_up (mi 5 rfl) rfl (fun hn => absurd hn (by decide)) (fun _ => ?_)
  refine ex_iload_n ok_X12_up (mi 6 rfl) rfl ?_
  refine ex_iconst ok_X12_up (mi 7 rfl) ?_
  refine ex_iload_n ok_X12_up (mi 8 rfl) rfl ?_
  refine ex_callSr (As := [_]) (v := some (.int (nI 3))) (g1 := h) ok_X12_up (mi 9 rfl) rfl ?c rfl rfl rfl (by decide) (Nat.le_of_ble_eq_true rfl) (by decide) ?_
  case c =>
    refine ex_M_of ok_X12_nodes cw_X12_nodes rfl hst (Nat.le_of_ble_eq_true rfl) ?_
    refine ex_iload_n ok_X12_nodes (mi 0 rfl) rfl ?_
    refine ex_iconst ok_X12_nodes (mi 1 rfl) ?_
    refine ex_icmp_ne (tgt := 10) ok_X12_nodes (mi 2 rfl) rfl (fun _ => ?_) (fun hn => absurd hn (by decide))
    refine ex_iload_n ok_X12_nodes (mi 5 rfl) rfl ?_
    refine ex_iconst ok_X12_nodes (mi 6 rfl) ?_
    refine ex_icmp_ne (tgt := 20) ok_X12_nodes (mi 7 rfl) rfl (fun _ => ?_) (fun hn => absurd hn (by decide))
    refine ex_iconst ok_X12_nodes (mi 10 rfl) ?_
    refine ex_iret ok_X12_nodes (mi 11 rfl) rfl ?_
    exact ⟨inlI (by decide), rfl⟩
  refine ex_iconst ok_X12_up (mi 10 rfl) ?_
  refine ex_isub ok_X12_up (mi 11 rfl) ?_
  refine ex_top (w := (nI 2)) (by decide) ?_
  refine ex_callSr (As := [_, _, _]) ok_X12_up (mi 12 rfl) rfl (m_in0 hst (vbad c1 (by decide))) rfl rfl rfl (by decide) (Nat.le_of_ble_eq_true rfl) (by decide) ?_
  refine ex_if_eq (tgt := 28) ok_X12_up (mi 13 rfl) rfl (fun _ => ?_) (fun hn => absurd (by decide) hn)
  refine ex_iconst ok_X12_up (mi 16 rfl) ?_
  refine ex_iconst ok_X12_up (mi 17 rfl) ?_
  refine ex_iconst ok_X12_up (mi 18 rfl) ?_
  refine ex_callVr (As := [_, _, _]) (v := some (.int (nI 1))) (g1 := (ap x [(0, 0, 1200, 0, (nI 1))] h)) ok_X12_up (mi 19 rfl) rfl (m_ref011 (ws := []) hst f.1) rfl (fk f.1 0 rfl) rfl rfl (by decide) (by decide) (Nat.le_of_ble_eq_true rfl) (by decide) ?_
  refine ex_if_eq (tgt := 39) ok_X12_up (mi 20 rfl) rfl (fun hn => absurd hn (by decide)) (fun _ => ?_)
  refine ex_iconst ok_X12_up (mi 21 rfl) ?_
  refine ex_zret ok_X12_up (mi 22 rfl) rfl (by decide) ?_
  exact ⟨_, rfl, fun e => absurd e (by decide), apI (a := 0) rfl, kq apq (fk f.1 0 rfl), kp_ap rfl⟩
theorem d_up_3_0 {G : GE} (hst : (ge_l G).stackTraces = false) {x : Nat} {j : Nat} (hj : j < 3) : MM G 2 0 0 my_X12_up x [.int (nI 3), .int (nI j), .int (nI 0)] 0 (nI 1) := by
  intro h f
  refine ex_M_of ok_X12_up cw_X12_up rfl hst (Nat.le_of_ble_eq_true rfl) ?_
  refine ex_aload_n ok_X12_up (mi 0 rfl) rfl ?_
  refine ex_iload_n ok_X12_up (mi 1 rfl) rfl ?_
  refine ex_iconst ok_X12_up (mi 2 rfl) ?_
  refine ex_iconst ok_X12_up (mi 3 rfl) ?_
  refine ex_callSr (As := [_, _, _]) ok_X12_up (mi 4 rfl) rfl (m_in1 hst (by decide) (by decide)) rfl rfl rfl (by decide) (Nat.le_of_ble_eq_true rfl) (by decide) ?_
  refine ex_if_eq (tgt := 28) ok_X12_up (mi 5 rfl) rfl (fun hn => absurd hn (by decide)) (fun _ => ?_)
  refine ex_iload_n ok_X12_up (mi 6 rfl) rfl ?_
  refine ex_iconst ok_X12_up (mi 7 rfl) ?_
  refine ex_iload_n ok_X12_up (mi 8 rfl) rfl ?_
  refine ex_callSr (As := [_]) (v := some (.int (nI 3))) (g1 := h) ok_X12_up (mi 9 rfl) rfl ?c rfl rfl rfl (by decide) (Nat.le_of_ble_eq_true rfl) (by decide) ?_
  case c =>
    refine ex_M_of ok_X12_nodes cw_X12_nodes rfl hst (Nat.le_of_ble_eq_true rfl) ?_
    refine ex_iload_n ok_X12_nodes (mi 0 rfl) rfl ?_
    refine ex_iconst ok_X12_nodes (mi 1 rfl) ?_
    refine ex_icmp_ne (tgt := 10) ok_X12_nodes (mi 2 rfl) rfl (fun _ => ?_) (fun hn => absurd hn (by decide))
    refine ex_iload_n ok_X12_nodes (mi 5 rfl) rfl ?_
    refine ex_iconst ok_X12_nodes (mi 6 rfl) ?_
    refine ex_icmp_ne (tgt := 20) ok_X12_nodes (mi 7 rfl) rfl (fun _ => ?_) (fun hn => absurd hn (by decide))
    refine ex_iconst ok_X12_nodes (mi 10 rfl) ?_
    refine ex_iret ok_X12_nodes (mi 11 rfl) rfl ?_
    exact ⟨inlI (by decide), rfl⟩
  refine ex_iconst ok_X12_up (mi 10 rfl) ?_
  refine ex_isub ok_X12_up (mi 11 rfl) ?_
  refine ex_top (w := (nI 2)) (by decide) ?_
  refine ex_callSr (As := [_, _, _]) ok_X12_up (mi 12 rfl) rfl (m_in1 hst (vlo (vp_in_nI hj (by decide)) (by decide)) (vhi (vp_in_nI hj (by decide)) (by decide))) rfl rfl rfl (by decide) (Nat.le_of_ble_eq_true rfl) (by decide) ?_
  refine ex_if_eq (tgt := 28) ok_X12_up (mi 13 rfl) rfl (fun hn => absurd hn (by decide)) (fun _ => ?_)
  refine ex_iconst ok_X12_up (mi 14 rfl) ?_
  refine ex_goto (tgt := 29) ok_X12_up (mi 15 rfl) rfl ?_
  refine ex_iconst ok_X12_up (mi 17 rfl) ?_
  refine ex_iconst ok_X12_up (mi 18 rfl) ?_
  refine ex_callVr (As := [_, _, _]) (v := some (.int (nI 0))) (g1 := (ap x [(0, 0, 1200, 0, (nI 0))] h)) ok_X12_up (mi 19 rfl) rfl (m_ref111 (ws := []) hst f.1) rfl (fk f.1 0 rfl) rfl rfl (by decide) (by decide) (Nat.le_of_ble_eq_true rfl) (by decide) ?_
  refine ex_if_eq (tgt := 39) ok_X12_up (mi 20 rfl) rfl (fun _ => ?_) (fun hn => absurd (by decide) hn)
  refine ex_aload_n ok_X12_up (mi 23 rfl) rfl ?_
  refine ex_getRx ok_X12_up (mi 24 rfl) rfl rfl (kq apq (fk f.1 0 rfl)) (rq apq (fr f.1 0 rfl)) (kq apq (fk f.1 1 rfl)) (by decide) ?_
  refine ex_iload_n ok_X12_up (mi 25 rfl) rfl ?_
  refine ex_callSr (As := [_]) (v := some (.int (nI 24))) (g1 := (ap x [(0, 0, 1200, 0, (nI 0))] h)) ok_X12_up (mi 26 rfl) rfl ?c rfl rfl rfl (by decide) (Nat.le_of_ble_eq_true rfl) (by decide) ?_
  case c =>
    refine ex_M_of ok_X12_first cw_X12_first rfl hst (Nat.le_of_ble_eq_true rfl) ?_
    refine ex_iload_n ok_X12_first (mi 0 rfl) rfl ?_
    refine ex_if_ne (tgt := 8) ok_X12_first (mi 1 rfl) rfl (fun _ => ?_) (fun hn => absurd hn (by decide))
    refine ex_iload_n ok_X12_first (mi 4 rfl) rfl ?_
    refine ex_iconst ok_X12_first (mi 5 rfl) ?_
    refine ex_icmp_ne (tgt := 17) ok_X12_first (mi 6 rfl) rfl (fun _ => ?_) (fun hn => absurd hn (by decide))
    refine ex_iload_n ok_X12_first (mi 9 rfl) rfl ?_
    refine ex_iconst ok_X12_first (mi 10 rfl) ?_
    refine ex_icmp_ne (tgt := 27) ok_X12_first (mi 11 rfl) rfl (fun _ => ?_) (fun hn => absurd hn (by decide))
    refine ex_bipush ok_X12_first (mi 14 rfl) ?_
    refine ex_iret ok_X12_first (mi 15 rfl) rfl ?_
    exact ⟨inlI (by decide), rfl⟩
  refine ex_iload_n ok_X12_up (mi 27 rfl) rfl ?_
  refine ex_iadd ok_X12_up (mi 28 rfl) ?_
  refine ex_top (w := (nI (24 + j))) (nI_add 24 j) ?_
  refine ex_baldx ok_X12_up (mi 29 rfl) (kq apq (fk f.1 1 rfl)) (nq apq (fn f.1 1 rfl)) (vp_in_nI (by omega) (by decide)) (apA0 (rfl) (fg f.2.2.2 28 rfl (Nat.zero_le _) (by rw [nI_clamp (by omega)]; omega))) ?_
  refine ex_if_ne (tgt := 57) ok_X12_up (mi 30 rfl) rfl (fun hn => absurd (by decide) hn) (fun _ => ?_)
  refine ex_iconst ok_X12_up (mi 31 rfl) ?_
  refine ex_goto (tgt := 58) ok_X12_up (mi 32 rfl) rfl ?_
  refine ex_istore ok_X12_up (mi 34 rfl) ?_
  refine ex_aload_n ok_X12_up (mi 35 rfl) rfl ?_
  refine ex_getRx ok_X12_up (mi 36 rfl) rfl rfl (kq apq (fk f.1 0 rfl)) (rq apq (fr f.1 0 rfl)) (kq apq (fk f.1 1 rfl)) (by decide) ?_
  refine ex_iload_n ok_X12_up (mi 37 rfl) rfl ?_
  refine ex_callSr (As := [_]) (v := some (.int (nI 24))) (g1 := (ap x [(0, 0, 1200, 0, (nI 0))] h)) ok_X12_up (mi 38 rfl) rfl ?c rfl rfl rfl (by decide) (Nat.le_of_ble_eq_true rfl) (by decide) ?_
  case c =>
    refine ex_M_of ok_X12_first cw_X12_first rfl hst (Nat.le_of_ble_eq_true rfl) ?_
    refine ex_iload_n ok_X12_first (mi 0 rfl) rfl ?_
    refine ex_if_ne (tgt := 8) ok_X12_first (mi 1 rfl) rfl (fun _ => ?_) (fun hn => absurd hn (by decide))
    refine ex_iload_n ok_X12_first (mi 4 rfl) rfl ?_
    refine ex_iconst ok_X12_first (mi 5 rfl) ?_
    refine ex_icmp_ne (tgt := 17) ok_X12_first (mi 6 rfl) rfl (fun _ => ?_) (fun hn => absurd hn (by decide))
    refine ex_iload_n ok_X12_first (mi 9 rfl) rfl ?_
    refine ex_iconst ok_X12_first (mi 10 rfl) ?_
    refine ex_icmp_ne (tgt := 27) ok_X12_first (mi 11 rfl) rfl (fun _ => ?_) (fun hn => absurd hn (by decide))
    refine ex_bipush ok_X12_first (mi 14 rfl) ?_
    refine ex_iret ok_X12_first (mi 15 rfl) rfl ?_
    exact ⟨inlI (by decide), rfl⟩
  refine ex_iload_n ok_X12_up (mi 39 rfl) rfl ?_
  refine ex_iadd ok_X12_up (mi 40 rfl) ?_
  refine ex_top (w := (nI (24 + j))) (nI_add 24 j) ?_
  refine ex_iload_n ok_X12_up (mi 41 rfl) rfl ?_
  refine ex_if_ne (tgt := 78) ok_X12_up (mi 42 rfl) rfl (fun hn => absurd (by decide) hn) (fun _ => ?_)
  refine ex_iconst ok_X12_up (mi 43 rfl) ?_
  refine ex_goto (tgt := 79) ok_X12_up (mi 44 rfl) rfl ?_
  refine ex_basta (a := 1) (j := 24 + j) (v := (nI 1)) ok_X12_up (mi 46 rfl) (fk f.1 1 rfl) (fn f.1 1 rfl) (vp_in_nI (by omega) (by decide)) (nI_clamp (by omega)) (by decide) (by decide) ?_
  refine ex_iload ok_X12_up (mi 47 rfl) rfl ?_
  refine ex_zret ok_X12_up (mi 48 rfl) rfl (by decide) ?_
  exact ⟨_, rfl, fun _ => by decide, apI (a := 0) rfl, kq apq (fk f.1 0 rfl), kp_ap rfl⟩
theorem d_up_3_1 {G : GE} (hst : (ge_l G).stackTraces = false) {x : Nat} {j : Nat} (hj : j < 3) : MM G 2 0 0 my_X12_up x [.int (nI 3), .int (nI j), .int (nI 1)] 0 (nI 1) := by
  intro h f
  refine ex_M_of ok_X12_up cw_X12_up rfl hst (Nat.le_of_ble_eq_true rfl) ?_
  refine ex_aload_n ok_X12_up (mi 0 rfl) rfl ?_
  refine ex_iload_n ok_X12_up (mi 1 rfl) rfl ?_
  refine ex_iconst ok_X12_up (mi 2 rfl) ?_
  refine ex_iconst ok_X12_up (mi 3 rfl) ?_
  refine ex_callSr (As := [_, _, _]) ok_X12_up (mi 4 rfl) rfl (m_in1 hst (by decide) (by decide)) rfl rfl rfl (by decide) (Nat.le_of_ble_eq_true rfl) (by decide) ?_
  refine ex_if_eq (tgt := 28) ok_X12_up (mi 5 rfl) rfl (fun hn => absurd hn (by decide)) (fun _ => ?_)
  refine ex_iload_n ok_X12_up (mi 6 rfl) rfl ?_
  refine ex_iconst ok_X12_up (mi 7 rfl) ?_
  refine ex_iload_n ok_X12_up (mi 8 rfl) rfl ?_
  refine ex_callSr (As := [_]) (v := some (.int (nI 3))) (g1 := h) ok_X12_up (mi 9 rfl) rfl ?c rfl rfl rfl (by decide) (Nat.le_of_ble_eq_true rfl) (by decide) ?_
  case c =>
    refine ex_M_of ok_X12_nodes cw_X12_nodes rfl hst (Nat.le_of_ble_eq_true rfl) ?_
    refine ex_iload_n ok_X12_nodes (mi 0 rfl) rfl ?_
    refine ex_iconst ok_X12_nodes (mi 1 rfl) ?_
    refine ex_icmp_ne (tgt := 10) ok_X12_nodes (mi 2 rfl) rfl (fun _ => ?_) (fun hn => absurd hn (by decide))
    refine ex_iload_n ok_X12_nodes (mi 5 rfl) rfl ?_
    refine ex_iconst ok_X12_nodes (mi 6 rfl) ?_
    refine ex_icmp_ne (tgt := 20) ok_X12_nodes (mi 7 rfl) rfl (fun _ => ?_) (fun hn => absurd hn (by decide))
    refine ex_iconst ok_X12_nodes (mi 10 rfl) ?_
    refine ex_iret ok_X12_nodes (mi 11 rfl) rfl ?_
    exact ⟨inlI (by decide), rfl⟩
  refine ex_iconst ok_X12_up (mi 10 rfl) ?_
  refine ex_isub ok_X12_up (mi 11 rfl) ?_
  refine ex_top (w := (nI 2)) (by decide) ?_
  refine ex_callSr (As := [_, _, _]) ok_X12_up (mi 12 rfl) rfl (m_in1 hst (vlo (vp_in_nI hj (by decide)) (by decide)) (vhi (vp_in_nI hj (by decide)) (by decide))) rfl rfl rfl (by decide) (Nat.le_of_ble_eq_true rfl) (by decide) ?_
  refine ex_if_eq (tgt := 28) ok_X12_up (mi 13 rfl) rfl (fun hn => absurd hn (by decide)) (fun _ => ?_)
  refine ex_iconst ok_X12_up (mi 14 rfl) ?_
  refine ex_goto (tgt := 29) ok_X12_up (mi 15 rfl) rfl ?_
  refine ex_iconst ok_X12_up (mi 17 rfl) ?_
  refine ex_iconst ok_X12_up (mi 18 rfl) ?_
  refine ex_callVr (As := [_, _, _]) (v := some (.int (nI 0))) (g1 := (ap x [(0, 0, 1200, 0, (nI 0))] h)) ok_X12_up (mi 19 rfl) rfl (m_ref111 (ws := []) hst f.1) rfl (fk f.1 0 rfl) rfl rfl (by decide) (by decide) (Nat.le_of_ble_eq_true rfl) (by decide) ?_
  refine ex_if_eq (tgt := 39) ok_X12_up (mi 20 rfl) rfl (fun _ => ?_) (fun hn => absurd (by decide) hn)
  refine ex_aload_n ok_X12_up (mi 23 rfl) rfl ?_
  refine ex_getRx ok_X12_up (mi 24 rfl) rfl rfl (kq apq (fk f.1 0 rfl)) (rq apq (fr f.1 0 rfl)) (kq apq (fk f.1 1 rfl)) (by decide) ?_
  refine ex_iload_n ok_X12_up (mi 25 rfl) rfl ?_
  refine ex_callSr (As := [_]) (v := some (.int (nI 24))) (g1 := (ap x [(0, 0, 1200, 0, (nI 0))] h)) ok_X12_up (mi 26 rfl) rfl ?c rfl rfl rfl (by decide) (Nat.le_of_ble_eq_true rfl) (by decide) ?_
  case c =>
    refine ex_M_of ok_X12_first cw_X12_first rfl hst (Nat.le_of_ble_eq_true rfl) ?_
    refine ex_iload_n ok_X12_first (mi 0 rfl) rfl ?_
    refine ex_if_ne (tgt := 8) ok_X12_first (mi 1 rfl) rfl (fun _ => ?_) (fun hn => absurd hn (by decide))
    refine ex_iload_n ok_X12_first (mi 4 rfl) rfl ?_
    refine ex_iconst ok_X12_first (mi 5 rfl) ?_
    refine ex_icmp_ne (tgt := 17) ok_X12_first (mi 6 rfl) rfl (fun _ => ?_) (fun hn => absurd hn (by decide))
    refine ex_iload_n ok_X12_first (mi 9 rfl) rfl ?_
    refine ex_iconst ok_X12_first (mi 10 rfl) ?_
    refine ex_icmp_ne (tgt := 27) ok_X12_first (mi 11 rfl) rfl (fun _ => ?_) (fun hn => absurd hn (by decide))
    refine ex_bipush ok_X12_first (mi 14 rfl) ?_
    refine ex_iret ok_X12_first (mi 15 rfl) rfl ?_
    exact ⟨inlI (by decide), rfl⟩
  refine ex_iload_n ok_X12_up (mi 27 rfl) rfl ?_
  refine ex_iadd ok_X12_up (mi 28 rfl) ?_
  refine ex_top (w := (nI (24 + j))) (nI_add 24 j) ?_
  refine ex_baldx ok_X12_up (mi 29 rfl) (kq apq (fk f.1 1 rfl)) (nq apq (fn f.1 1 rfl)) (vp_in_nI (by omega) (by decide)) (apA0 (rfl) (fg f.2.2.2 28 rfl (Nat.zero_le _) (by rw [nI_clamp (by omega)]; omega))) ?_
  refine ex_if_ne (tgt := 57) ok_X12_up (mi 30 rfl) rfl (fun hn => absurd (by decide) hn) (fun _ => ?_)
  refine ex_iconst ok_X12_up (mi 31 rfl) ?_
  refine ex_goto (tgt := 58) ok_X12_up (mi 32 rfl) rfl ?_
  refine ex_istore ok_X12_up (mi 34 rfl) ?_
  refine ex_aload_n ok_X12_up (mi 35 rfl) rfl ?_
  refine ex_getRx ok_X12_up (mi 36 rfl) rfl rfl (kq apq (fk f.1 0 rfl)) (rq apq (fr f.1 0 rfl)) (kq apq (fk f.1 1 rfl)) (by decide) ?_
  refine ex_iload_n ok_X12_up (mi 37 rfl) rfl ?_
  refine ex_callSr (As := [_]) (v := some (.int (nI 24))) (g1 := (ap x [(0, 0, 1200, 0, (nI 0))] h)) ok_X12_up (mi 38 rfl) rfl ?c rfl rfl rfl (by decide) (Nat.le_of_ble_eq_true rfl) (by decide) ?_
  case c =>
    refine ex_M_of ok_X12_first cw_X12_first rfl hst (Nat.le_of_ble_eq_true rfl) ?_
    refine ex_iload_n ok_X12_first (mi 0 rfl) rfl ?_
    refine ex_if_ne (tgt := 8) ok_X12_first (mi 1 rfl) rfl (fun _ => ?_) (fun hn => absurd hn (by decide))
    refine ex_iload_n ok_X12_first (mi 4 rfl) rfl ?_
    refine ex_iconst ok_X12_first (mi 5 rfl) ?_
    refine ex_icmp_ne (tgt := 17) ok_X12_first (mi 6 rfl) rfl (fun _ => ?_) (fun hn => absurd hn (by decide))
    refine ex_iload_n ok_X12_first (mi 9 rfl) rfl ?_
    refine ex_iconst ok_X12_first (mi 10 rfl) ?_
    refine ex_icmp_ne (tgt := 27) ok_X12_first (mi 11 rfl) rfl (fun _ => ?_) (fun hn => absurd hn (by decide))
    refine ex_bipush ok_X12_first (mi 14 rfl) ?_
    refine ex_iret ok_X12_first (mi 15 rfl) rfl ?_
    exact ⟨inlI (by decide), rfl⟩
  refine ex_iload_n ok_X12_up (mi 39 rfl) rfl ?_
  refine ex_iadd ok_X12_up (mi 40 rfl) ?_
  refine ex_top (w := (nI (24 + j))) (nI_add 24 j) ?_
  refine ex_iload_n ok_X12_up (mi 41 rfl) rfl ?_
  refine ex_if_ne (tgt := 78) ok_X12_up (mi 42 rfl) rfl (fun _ => ?_) (fun hn => absurd hn (by decide))
  refine ex_iconst ok_X12_up (mi 45 rfl) ?_
  refine ex_basta (a := 1) (j := 24 + j) (v := (nI 0)) ok_X12_up (mi 46 rfl) (fk f.1 1 rfl) (fn f.1 1 rfl) (vp_in_nI (by omega) (by decide)) (nI_clamp (by omega)) (by decide) (by decide) ?_
  refine ex_iload ok_X12_up (mi 47 rfl) rfl ?_
  refine ex_zret ok_X12_up (mi 48 rfl) rfl (by decide) ?_
  exact ⟨_, rfl, fun _ => by decide, apI (a := 0) rfl, kq apq (fk f.1 0 rfl), kp_ap rfl⟩
