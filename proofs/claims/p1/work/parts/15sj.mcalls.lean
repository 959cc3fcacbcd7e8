theorem d_slot_2_3 {G : GE} (hst : (ge_l G).stackTraces = false) {x : Nat} {j : Nat} (hj : j < 16) : MM G 2 0 0 my_X12_slot x [.int (nI 2), .int (nI j), .int (nI 3)] 0 (nI 0) := by
  intro h f
  refine ex_M_of ok_X12_slot cw_X12_slot rfl hst (Nat.le_of_ble_eq_true rfl) ?_
  refine ex_aload_n ok_X12_slot (mi 0 rfl) rfl ?_
  refine ex_iload_n ok_X12_slot (mi 1 rfl) rfl ?_
  refine ex_iconst ok_X12_slot (mi 2 rfl) ?_
  refine ex_iconst ok_X12_slot (mi 3 rfl) ?_
  refine ex_callSr (As := [_, _, _]) ok_X12_slot (mi 4 rfl) rfl (m_in1 hst (by decide) (by decide)) rfl rfl rfl (by decide) (Nat.le_of_ble_eq_true rfl) (by decide) ?_
  refine ex_if_eq (tgt := 33) ok_X12_slot (mi 5 rfl) rfl (fun hn => absurd hn (by decide)) (fun _ => ?_)
  refine ex_iload_n ok_X12_slot (mi 6 rfl) rfl ?_
  refine ex_iconst ok_X12_slot (mi 7 rfl) ?_
  refine ex_bipush ok_X12_slot (mi 8 rfl) ?_
  refine ex_callSr (As := [_, _, _]) ok_X12_slot (mi 9 rfl) rfl (m_in1 hst (vlo (vp_in_nI hj (by decide)) (by decide)) (vhi (vp_in_nI hj (by decide)) (by decide))) rfl rfl rfl (by decide) (Nat.le_of_ble_eq_true rfl) (by decide) ?_
  refine ex_if_eq (tgt := 33) ok_X12_slot (mi 10 rfl) rfl (fun hn => absurd hn (by decide)) (fun _ => ?_)
  refine ex_iload_n ok_X12_slot (mi 11 rfl) rfl ?_
  refine ex_iconst ok_X12_slot (mi 12 rfl) ?_
  refine ex_iconst ok_X12_slot (mi 13 rfl) ?_
  refine ex_callSr (As := [_, _, _]) ok_X12_slot (mi 14 rfl) rfl (m_in1 hst (by decide) (by decide)) rfl rfl rfl (by decide) (Nat.le_of_ble_eq_true rfl) (by decide) ?_
  refine ex_if_eq (tgt := 33) ok_X12_slot (mi 15 rfl) rfl (fun hn => absurd hn (by decide)) (fun _ => ?_)
  refine ex_iconst ok_X12_slot (mi 16 rfl) ?_
  refine ex_goto (tgt := 34) ok_X12_slot (mi 17 rfl) rfl ?_
  refine ex_iconst ok_X12_slot (mi 19 rfl) ?_
  refine ex_iconst ok_X12_slot (mi 20 rfl) ?_
  refine ex_callVr (As := [_, _, _]) (v := some (.int (nI 0))) (g1 := (ap x [(0, 0, 1200, 0, (nI 0))] h)) ok_X12_slot (mi 21 rfl) rfl (m_ref111 (ws := []) hst f.1) rfl (fk f.1 0 rfl) rfl rfl (by decide) (by decide) (Nat.le_of_ble_eq_true rfl) (by decide) ?_
  refine ex_if_eq (tgt := 44) ok_X12_slot (mi 22 rfl) rfl (fun _ => ?_) (fun hn => absurd (by decide) hn)
  refine ex_aload_n ok_X12_slot (mi 25 rfl) rfl ?_
  refine ex_getRx ok_X12_slot (mi 26 rfl) rfl rfl (kq apq (fk f.1 0 rfl)) (rq apq (fr f.1 1 rfl)) (kq apq (fk f.1 2 rfl)) (by decide) ?_
  refine ex_iload_n ok_X12_slot (mi 27 rfl) rfl ?_
  refine ex_ialdx ok_X12_slot (mi 28 rfl) (Or.inl (kq apq (fk f.1 2 rfl))) (nq apq (fn f.1 2 rfl)) (pk_in 2 3 (by decide)) (apA0 (j := 2) rfl (fe f.2.2.1 119 rfl)) ?_
  refine ex_iconst ok_X12_slot (mi 29 rfl) ?_
  refine ex_icmp_ne (tgt := 58) ok_X12_slot (mi 30 rfl) rfl (fun _ => ?_) (fun hn => absurd hn (by decide))
  refine ex_iconst ok_X12_slot (mi 33 rfl) ?_
  refine ex_istore ok_X12_slot (mi 34 rfl) ?_
  refine ex_bipush ok_X12_slot (mi 35 rfl) ?_
  refine ex_iload_n ok_X12_slot (mi 36 rfl) rfl ?_
  refine ex_imul ok_X12_slot (mi 37 rfl) ?_
  refine ex_top (w := (nI 32)) (by decide) ?_
  refine ex_iload_n ok_X12_slot (mi 38 rfl) rfl ?_
  refine ex_iadd ok_X12_slot (mi 39 rfl) ?_
  refine ex_istore ok_X12_slot (mi 40 rfl) ?_
  refine ex_iload_n ok_X12_slot (mi 41 rfl) rfl ?_
  refine ex_iconst ok_X12_slot (mi 42 rfl) ?_
  refine ex_icmp_ne (tgt := 93) ok_X12_slot (mi 43 rfl) rfl (fun _ => ?_) (fun hn => absurd hn (by decide))
  refine ex_iload ok_X12_slot (mi 53 rfl) rfl ?_
  refine ex_if_ne (tgt := 102) ok_X12_slot (mi 54 rfl) rfl (fun hn => absurd (by decide) hn) (fun _ => ?_)
  refine ex_iconst ok_X12_slot (mi 55 rfl) ?_
  refine ex_goto (tgt := 138) ok_X12_slot (mi 56 rfl) rfl ?_
  refine ex_iret ok_X12_slot (mi 76 rfl) rfl ?_
  exact ⟨_, rfl, fun _ => by decide, apI (a := 0) rfl, kq apq (fk f.1 0 rfl), kp_ap rfl⟩
theorem d_copy_2 {G : GE} (hst : (ge_l G).stackTraces = false) {x : Nat} {j : Nat} (hj : j < 16) : MM G 2 0 0 my_X12_copy x [.int (nI 2), .int (nI j)] 0 ((-1)) := by
  intro h f
  refine ex_M_of ok_X12_copy cw_X12_copy rfl hst (Nat.le_of_ble_eq_true rfl) ?_
  refine ex_aload_n ok_X12_copy (mi 0 rfl) rfl ?_
  refine ex_iload_n ok_X12_copy (mi 1 rfl) rfl ?_
  refine ex_iconst ok_X12_copy (mi 2 rfl) ?_
  refine ex_iconst ok_X12_copy (mi 3 rfl) ?_
  refine ex_callSr (As := [_, _, _]) ok_X12_copy (mi 4 rfl) rfl (m_in1 hst (by decide) (by decide)) rfl rfl rfl (by decide) (Nat.le_of_ble_eq_true rfl) (by decide) ?_
  refine ex_if_eq (tgt := 24) ok_X12_copy (mi 5 rfl) rfl (fun hn => absurd hn (by decide)) (fun _ => ?_)
  refine ex_iload_n ok_X12_copy (mi 6 rfl) rfl ?_
  refine ex_iconst ok_X12_copy (mi 7 rfl) ?_
  refine ex_bipush ok_X12_copy (mi 8 rfl) ?_
  refine ex_callSr (As := [_, _, _]) ok_X12_copy (mi 9 rfl) rfl (m_in1 hst (vlo (vp_in_nI hj (by decide)) (by decide)) (vhi (vp_in_nI hj (by decide)) (by decide))) rfl rfl rfl (by decide) (Nat.le_of_ble_eq_true rfl) (by decide) ?_
  refine ex_if_eq (tgt := 24) ok_X12_copy (mi 10 rfl) rfl (fun hn => absurd hn (by decide)) (fun _ => ?_)
  refine ex_iconst ok_X12_copy (mi 11 rfl) ?_
  refine ex_goto (tgt := 25) ok_X12_copy (mi 12 rfl) rfl ?_
  refine ex_iconst ok_X12_copy (mi 14 rfl) ?_
  refine ex_iconst ok_X12_copy (mi 15 rfl) ?_
  refine ex_callVr (As := [_, _, _]) (v := some (.int (nI 0))) (g1 := (ap x [(0, 0, 1200, 0, (nI 0))] h)) ok_X12_copy (mi 16 rfl) rfl (m_ref111 (ws := []) hst f.1) rfl (fk f.1 0 rfl) rfl rfl (by decide) (by decide) (Nat.le_of_ble_eq_true rfl) (by decide) ?_
  refine ex_if_eq (tgt := 35) ok_X12_copy (mi 17 rfl) rfl (fun _ => ?_) (fun hn => absurd (by decide) hn)
  refine ex_aload_n ok_X12_copy (mi 20 rfl) rfl ?_
  refine ex_getRx ok_X12_copy (mi 21 rfl) rfl rfl (kq apq (fk f.1 0 rfl)) (rq apq (fr f.1 46 rfl)) (kq apq (fk f.1 47 rfl)) (by decide) ?_
  refine ex_bipush ok_X12_copy (mi 22 rfl) ?_
  refine ex_iload_n ok_X12_copy (mi 23 rfl) rfl ?_
  refine ex_imul ok_X12_copy (mi 24 rfl) ?_
  refine ex_top (w := (nI 32)) (by decide) ?_
  refine ex_iload_n ok_X12_copy (mi 25 rfl) rfl ?_
  refine ex_iadd ok_X12_copy (mi 26 rfl) ?_
  refine ex_top (w := (nI (32 + j))) (nI_add 32 j) ?_
  refine ex_ialdx ok_X12_copy (mi 27 rfl) (Or.inl (kq apq (fk f.1 47 rfl))) (nq apq (fn f.1 47 rfl)) (vp_in_nI (by omega) (by decide)) (apA0 (rfl) (fg f.2.2.2 4 rfl (by rw [nI_clamp (by omega)]; omega) (by rw [nI_clamp (by omega)]; omega))) ?_
  refine ex_iret ok_X12_copy (mi 28 rfl) rfl ?_
  exact ⟨_, rfl, fun _ => by decide, apI (a := 0) rfl, kq apq (fk f.1 0 rfl), kp_ap rfl⟩
theorem d_keeper_b0 {G : GE} (hst : (ge_l G).stackTraces = false) {x : Nat} {p0 p1 p2 : Int32} (c0 : ¬ vp_in p0 9) : MM G 2 0 0 my_X12_keeper x [.int p0, .int p1] 1 (nI 0) := by
  intro h f
  refine ex_M_of ok_X12_keeper cw_X12_keeper rfl hst (Nat.le_of_ble_eq_true rfl) ?_
  refine ex_aload_n ok_X12_keeper (mi 0 rfl) rfl ?_
  refine ex_iload_n ok_X12_keeper (mi 1 rfl) rfl ?_
  refine ex_iconst ok_X12_keeper (mi 2 rfl) ?_
  refine ex_bipush ok_X12_keeper (mi 3 rfl) ?_
  refine ex_callSr (As := [_, _, _]) ok_X12_keeper (mi 4 rfl) rfl (m_in0 hst (vbad c0 (by decide))) rfl rfl rfl (by decide) (Nat.le_of_ble_eq_true rfl) (by decide) ?_
  refine ex_if_eq (tgt := 25) ok_X12_keeper (mi 5 rfl) rfl (fun _ => ?_) (fun hn => absurd (by decide) hn)
  refine ex_iconst ok_X12_keeper (mi 13 rfl) ?_
  refine ex_iconst ok_X12_keeper (mi 14 rfl) ?_
  refine ex_iconst ok_X12_keeper (mi 15 rfl) ?_
  refine ex_callVr (As := [_, _, _]) (v := some (.int (nI 1))) (g1 := (ap x [(0, 0, 1200, 0, (nI 1))] h)) ok_X12_keeper (mi 16 rfl) rfl (m_ref011 (ws := []) hst f.1) rfl (fk f.1 0 rfl) rfl rfl (by decide) (by decide) (Nat.le_of_ble_eq_true rfl) (by decide) ?_
  refine ex_if_eq (tgt := 36) ok_X12_keeper (mi 17 rfl) rfl (fun hn => absurd hn (by decide)) (fun _ => ?_)
  refine ex_iconst ok_X12_keeper (mi 18 rfl) ?_
  refine ex_iret ok_X12_keeper (mi 19 rfl) rfl ?_
  exact ⟨_, rfl, fun e => absurd e (by decide), apI (a := 0) rfl, kq apq (fk f.1 0 rfl), kp_ap rfl⟩
theorem d_keeper_b1 {G : GE} (hst : (ge_l G).stackTraces = false) {x : Nat} {p0 p1 p2 : Int32} (c0 : vp_in p0 9) (c1 : ¬ vp_in p1 8) : MM G 2 0 0 my_X12_keeper x [.int p0, .int p1] 1 (nI 0) := by
  intro h f
  refine ex_M_of ok_X12_keeper cw_X12_keeper rfl hst (Nat.le_of_ble_eq_true rfl) ?_
  refine ex_aload_n ok_X12_keeper (mi 0 rfl) rfl ?_
  refine ex_iload_n ok_X12_keeper (mi 1 rfl) rfl ?_
  refine ex_iconst ok_X12_keeper (mi 2 rfl) ?_
  refine ex_bipush ok_X12_keeper (mi 3 rfl) ?_
  refine ex_callSr (As := [_, _, _]) ok_X12_keeper (mi 4 rfl) rfl (m_in1 hst (vlo c0 (by decide)) (vhi c0 (by decide))) rfl rfl rfl (by decide) (Nat.le_of_ble_eq_true rfl) (by decide) ?_
  refine ex_if_eq (tgt := 25) ok_X12_keeper (mi 5 rfl) rfl (fun hn => absurd hn (by decide)) (fun _ => ?_)
  refine ex_iload_n ok_X12_keeper (mi 6 rfl) rfl ?_
  refine ex_iconst ok_X12_keeper (mi 7 rfl) ?_
  refine ex_bipush ok_X12_keeper (mi 8 rfl) ?_
  refine ex_callSr (As := [_, _, _]) ok_X12_keeper (mi 9 rfl) rfl (m_in0 hst (vbad c1 (by decide))) rfl rfl rfl (by decide) (Nat.le_of_ble_eq_true rfl) (by decide) ?_
  refine ex_if_eq (tgt := 25) ok_X12_keeper (mi 10 rfl) rfl (fun _ => ?_) (fun hn => absurd (by decide) hn)
  refine ex_iconst ok_X12_keeper (mi 13 rfl) ?_
  refine ex_iconst ok_X12_keeper (mi 14 rfl) ?_
  refine ex_iconst ok_X12_keeper (mi 15 rfl) ?_
  refine ex_callVr (As := [_, _, _]) (v := some (.int (nI 1))) (g1 := (ap x [(0, 0, 1200, 0, (nI 1))] h)) ok_X12_keeper (mi 16 rfl) rfl (m_ref011 (ws := []) hst f.1) rfl (fk f.1 0 rfl) rfl rfl (by decide) (by decide) (Nat.le_of_ble_eq_true rfl) (by decide) ?_
  refine ex_if_eq (tgt := 36) ok_X12_keeper (mi 17 rfl) rfl (fun hn => absurd hn (by decide)) (fun _ => ?_)
  refine ex_iconst ok_X12_keeper (mi 18 rfl) ?_
  refine ex_iret ok_X12_keeper (mi 19 rfl) rfl ?_
  exact ⟨_, rfl, fun e => absurd e (by decide), apI (a := 0) rfl, kq apq (fk f.1 0 rfl), kp_ap rfl⟩
theorem d_voter_b0 {G : GE} (hst : (ge_l G).stackTraces = false) {x : Nat} {p0 p1 p2 : Int32} (c0 : ¬ vp_in p0 12) : MM G 2 0 0 my_X12_voter x [.int p0, .int p1] 1 (nI 0) := by
  intro h f
  refine ex_M_of ok_X12_voter cw_X12_voter rfl hst (Nat.le_of_ble_eq_true rfl) ?_
  refine ex_aload_n ok_X12_voter (mi 0 rfl) rfl ?_
  refine ex_iload_n ok_X12_voter (mi 1 rfl) rfl ?_
  refine ex_iconst ok_X12_voter (mi 2 rfl) ?_
  refine ex_bipush ok_X12_voter (mi 3 rfl) ?_
  refine ex_callSr (As := [_, _, _]) ok_X12_voter (mi 4 rfl) rfl (m_in0 hst (vbad c0 (by decide))) rfl rfl rfl (by decide) (Nat.le_of_ble_eq_true rfl) (by decide) ?_
  refine ex_if_eq (tgt := 24) ok_X12_voter (mi 5 rfl) rfl (fun _ => ?_) (fun hn => absurd (by decide) hn)
  refine ex_iconst ok_X12_voter (mi 13 rfl) ?_
  refine ex_iconst ok_X12_voter (mi 14 rfl) ?_
  refine ex_iconst ok_X12_voter (mi 15 rfl) ?_
  refine ex_callVr (As := [_, _, _]) (v := some (.int (nI 1))) (g1 := (ap x [(0, 0, 1200, 0, (nI 1))] h)) ok_X12_voter (mi 16 rfl) rfl (m_ref011 (ws := []) hst f.1) rfl (fk f.1 0 rfl) rfl rfl (by decide) (by decide) (Nat.le_of_ble_eq_true rfl) (by decide) ?_
  refine ex_if_eq (tgt := 35) ok_X12_voter (mi 17 rfl) rfl (fun hn => absurd hn (by decide)) (fun _ => ?_)
  refine ex_iconst ok_X12_voter (mi 18 rfl) ?_
  refine ex_iret ok_X12_voter (mi 19 rfl) rfl ?_
  exact ⟨_, rfl, fun e => absurd e (by decide), apI (a := 0) rfl, kq apq (fk f.1 0 rfl), kp_ap rfl⟩
theorem d_voter_b1 {G : GE} (hst : (ge_l G).stackTraces = false) {x : Nat} {p0 p1 p2 : Int32} (c0 : vp_in p0 12) (c1 : ¬ vp_in p1 3) : MM G 2 0 0 my_X12_voter x [.int p0, .int p1] 1 (nI 0) := by
  intro h f
  refine ex_M_of ok_X12_voter cw_X12_voter rfl hst (Nat.le_of_ble_eq_true rfl) ?_
  refine ex_aload_n ok_X12_voter (mi 0 rfl) rfl ?_
  refine ex_iload_n ok_X12_voter (mi 1 rfl) rfl ?_
  refine ex_iconst ok_X12_voter (mi 2 rfl) ?_
  refine ex_bipush ok_X12_voter (mi 3 rfl) ?_
  refine ex_callSr (As := [_, _, _]) ok_X12_voter (mi 4 rfl) rfl (m_in1 hst (vlo c0 (by decide)) (vhi c0 (by decide))) rfl rfl rfl (by decide) (Nat.le_of_ble_eq_true rfl) (by decide) ?_
  refine ex_if_eq (tgt := 24) ok_X12_voter (mi 5 rfl) rfl (fun hn => absurd hn (by decide)) (fun _ => ?_)
  refine ex_iload_n ok_X12_voter (mi 6 rfl) rfl ?_
  refine ex_iconst ok_X12_voter (mi 7 rfl) ?_
  refine ex_iconst ok_X12_voter (mi 8 rfl) ?_
  refine ex_callSr (As := [_, _, _]) ok_X12_voter (mi 9 rfl) rfl (m_in0 hst (vbad c1 (by decide))) rfl rfl rfl (by decide) (Nat.le_of_ble_eq_true rfl) (by decide) ?_
  refine ex_if_eq (tgt := 24) ok_X12_voter (mi 10 rfl) rfl (fun _ => ?_) (fun hn => absurd (by decide) hn)
  refine ex_iconst ok_X12_voter (mi 13 rfl) ?_
  refine ex_iconst ok_X12_voter (mi 14 rfl) ?_
  refine ex_iconst ok_X12_voter (mi 15 rfl) ?_
  refine ex_callVr (As := [_, _, _]) (v := some (.int (nI 1))) (g1 := (ap x [(0, 0, 1200, 0, (nI 1))] h)) ok_X12_voter (mi 16 rfl) rfl (m_ref011 (ws := []) hst f.1) rfl (fk f.1 0 rfl) rfl rfl (by decide) (by decide) (Nat.le_of_ble_eq_true rfl) (by decide) ?_
  refine ex_if_eq (tgt := 35) ok_X12_voter (mi 17 rfl) rfl (fun hn => absurd hn (by decide)) (fun _ => ?_)
  refine ex_iconst ok_X12_voter (mi 18 rfl) ?_
  refine ex_iret ok_X12_voter (mi 19 rfl) rfl ?_
  exact ⟨_, rfl, fun e => absurd e (by decide), apI (a := 0) rfl, kq apq (fk f.1 0 rfl), kp_ap rfl⟩
theorem d_vote_b0 {G : GE} (hst : (ge_l G).stackTraces = false) {x : Nat} {p0 p1 p2 : Int32} (c0 : ¬ vp_in p0 12) : MM G 2 0 0 my_X12_vote x [.int p0, .int p1, .int p2] 1 (nI 0) := by
  intro h f
  refine ex_M_of ok_X12_vote cw_X12_vote rfl hst (Nat.le_of_ble_eq_true rfl) ?_
  refine ex_aload_n ok_X12_vote (mi 0 rfl) rfl ?_
  refine ex_iload_n ok_X12_vote (mi 1 rfl) rfl ?_
  refine ex_iconst ok_X12_vote (mi 2 rfl) ?_
  refine ex_bipush ok_X12_vote (mi 3 rfl) ?_
  refine ex_callSr (As := [_, _, _]) ok_X12_vote (mi 4 rfl) rfl (m_in0 hst (vbad c0 (by decide))) rfl rfl rfl (by decide) (Nat.le_of_ble_eq_true rfl) (by decide) ?_
  refine ex_if_eq (tgt := 25) ok_X12_vote (mi 5 rfl) rfl (fun _ => ?_) (fun hn => absurd (by decide) hn)
  refine ex_iconst ok_X12_vote (mi 13 rfl) ?_
  refine ex_iconst ok_X12_vote (mi 14 rfl) ?_
  refine ex_iconst ok_X12_vote (mi 15 rfl) ?_
  refine ex_callVr (As := [_, _, _]) (v := some (.int (nI 1))) (g1 := (ap x [(0, 0, 1200, 0, (nI 1))] h)) ok_X12_vote (mi 16 rfl) rfl (m_ref011 (ws := []) hst f.1) rfl (fk f.1 0 rfl) rfl rfl (by decide) (by decide) (Nat.le_of_ble_eq_true rfl) (by decide) ?_
  refine ex_if_eq (tgt := 36) ok_X12_vote (mi 17 rfl) rfl (fun hn => absurd hn (by decide)) (fun _ => ?_)
  refine ex_iconst ok_X12_vote (mi 18 rfl) ?_
  refine ex_iret ok_X12_vote (mi 19 rfl) rfl ?_
  exact ⟨_, rfl, fun e => absurd e (by decide), apI (a := 0) rfl, kq apq (fk f.1 0 rfl), kp_ap rfl⟩
theorem d_vote_b1 {G : GE} (hst : (ge_l G).stackTraces = false) {x : Nat} {p0 p1 p2 : Int32} (c0 : vp_in p0 12) (c1 : ¬ vp_in p1 16) : MM G 2 0 0 my_X12_vote x [.int p0, .int p1, .int p2] 1 (nI 0) := by
  intro h f
  refine ex_M_of ok_X12_vote cw_X12_vote rfl hst (Nat.le_of_ble_eq_true rfl) ?_
  refine ex_aload_n ok_X12_vote (mi 0 rfl) rfl ?_
  refine ex_iload_n ok_X12_vote (mi 1 rfl) rfl ?_
  refine ex_iconst ok_X12_vote (mi 2 rfl) ?_
  refine ex_bipush ok_X12_vote (mi 3 rfl) ?_
  refine ex_callSr (As := [_, _, _]) ok_X12_vote (mi 4 rfl) rfl (m_in1 hst (vlo c0 (by decide)) (vhi c0 (by decide))) rfl rfl rfl (by decide) (Nat.le_of_ble_eq_true rfl) (by decide) ?_
  refine ex_if_eq (tgt := 25) ok_X12_vote (mi 5 rfl) rfl (fun hn => absurd hn (by decide)) (fun _ => ?_)
  refine ex_iload_n ok_X12_vote (mi 6 rfl) rfl ?_
  refine ex_iconst ok_X12_vote (mi 7 rfl) ?_
  refine ex_bipush ok_X12_vote (mi 8 rfl) ?_
  refine ex_callSr (As := [_, _, _]) ok_X12_vote (mi 9 rfl) rfl (m_in0 hst (vbad c1 (by decide))) rfl rfl rfl (by decide) (Nat.le_of_ble_eq_true rfl) (by decide) ?_
  refine ex_if_eq (tgt := 25) ok_X12_vote (mi 10 rfl) rfl (fun _ => ?_) (fun hn => absurd (by decide) hn)
  refine ex_iconst ok_X12_vote (mi 13 rfl) ?_
  refine ex_iconst ok_X12_vote (mi 14 rfl) ?_
  refine ex_iconst ok_X12_vote (mi 15 rfl) ?_
  refine ex_callVr (As := [_, _, _]) (v := some (.int (nI 1))) (g1 := (ap x [(0, 0, 1200, 0, (nI 1))] h)) ok_X12_vote (mi 16 rfl) rfl (m_ref011 (ws := []) hst f.1) rfl (fk f.1 0 rfl) rfl rfl (by decide) (by decide) (Nat.le_of_ble_eq_true rfl) (by decide) ?_
  refine ex_if_eq (tgt := 36) ok_X12_vote (mi 17 rfl) rfl (fun hn => absurd hn (by decide)) (fun _ => ?_)
  refine ex_iconst ok_X12_vote (mi 18 rfl) ?_
  refine ex_iret ok_X12_vote (mi 19 rfl) rfl ?_
  exact ⟨_, rfl, fun e => absurd e (by decide), apI (a := 0) rfl, kq apq (fk f.1 0 rfl), kp_ap rfl⟩
theorem d_copy_b0 {G : GE} (hst : (ge_l G).stackTraces = false) {x : Nat} {p0 p1 p2 : Int32} (c0 : ¬ vp_in p0 3) : MM G 2 0 0 my_X12_copy x [.int p0, .int p1] 1 (nI 0) := by
  intro h f
  refine ex_M_of ok_X12_copy cw_X12_copy rfl hst (Nat.le_of_ble_eq_true rfl) ?_
  refine ex_aload_n ok_X12_copy (mi 0 rfl) rfl ?_
  refine ex_iload_n ok_X12_copy (mi 1 rfl) rfl ?_
  refine ex_iconst ok_X12_copy (mi 2 rfl) ?_
  refine ex_iconst ok_X12_copy (mi 3 rfl) ?_
  refine ex_callSr (As := [_, _, _]) ok_X12_copy (mi 4 rfl) rfl (m_in0 hst (vbad c0 (by decide))) rfl rfl rfl (by decide) (Nat.le_of_ble_eq_true rfl) (by decide) ?_
  refine ex_if_eq (tgt := 24) ok_X12_copy (mi 5 rfl) rfl (fun _ => ?_) (fun hn => absurd (by decide) hn)
  refine ex_iconst ok_X12_copy (mi 13 rfl) ?_
  refine ex_iconst ok_X12_copy (mi 14 rfl) ?_
  refine ex_iconst ok_X12_copy (mi 15 rfl) ?_
  refine ex_callVr (As := [_, _, _]) (v := some (.int (nI 1))) (g1 := (ap x [(0, 0, 1200, 0, (nI 1))] h)) ok_X12_copy (mi 16 rfl) rfl (m_ref011 (ws := []) hst f.1) rfl (fk f.1 0 rfl) rfl rfl (by decide) (by decide) (Nat.le_of_ble_eq_true rfl) (by decide) ?_
  refine ex_if_eq (tgt := 35) ok_X12_copy (mi 17 rfl) rfl (fun hn => absurd hn (by decide)) (fun _ => ?_)
  refine ex_iconst ok_X12_copy (mi 18 rfl) ?_
  refine ex_iret ok_X12_copy (mi 19 rfl) rfl ?_
  exact ⟨_, rfl, fun e => absurd e (by decide), apI (a := 0) rfl, kq apq (fk f.1 0 rfl), kp_ap rfl⟩
theorem d_copy_b1 {G : GE} (hst : (ge_l G).stackTraces = false) {x : Nat} {p0 p1 p2 : Int32} (c0 : vp_in p0 3) (c1 : ¬ vp_in p1 16) : MM G 2 0 0 my_X12_copy x [.int p0, .int p1] 1 (nI 0) := by
  intro h f
  refine ex_M_of ok_X12_copy cw_X12_copy rfl hst (Nat.le_of_ble_eq_true rfl) ?_
  refine ex_aload_n ok_X12_copy (mi 0 rfl) rfl ?_
  refine ex_iload_n ok_X12_copy (mi 1 rfl) rfl ?_
  refine ex_iconst ok_X12_copy (mi 2 rfl) ?_
  refine ex_iconst ok_X12_copy (mi 3 rfl) ?_
  refine ex_callSr (As := [_, _, _]) ok_X12_copy (mi 4 rfl) rfl (m_in1 hst (vlo c0 (by decide)) (vhi c0 (by decide))) rfl rfl rfl (by decide) (Nat.le_of_ble_eq_true rfl) (by decide) ?_
  refine ex_if_eq (tgt := 24) ok_X12_copy (mi 5 rfl) rfl (fun hn => absurd hn (by decide)) (fun _ => ?_)
  refine ex_iload_n ok_X12_copy (mi 6 rfl) rfl ?_
  refine ex_iconst ok_X12_copy (mi 7 rfl) ?_
  refine ex_bipush ok_X12_copy (mi 8 rfl) ?_
  refine ex_callSr (As := [_, _, _]) ok_X12_copy (mi 9 rfl) rfl (m_in0 hst (vbad c1 (by decide))) rfl rfl rfl (by decide) (Nat.le_of_ble_eq_true rfl) (by decide) ?_
  refine ex_if_eq (tgt := 24) ok_X12_copy (mi 10 rfl) rfl (fun _ => ?_) (fun hn => absurd (by decide) hn)
  refine ex_iconst ok_X12_copy (mi 13 rfl) ?_
  refine ex_iconst ok_X12_copy (mi 14 rfl) ?_
  refine ex_iconst ok_X12_copy (mi 15 rfl) ?_
  refine ex_callVr (As := [_, _, _]) (v := some (.int (nI 1))) (g1 := (ap x [(0, 0, 1200, 0, (nI 1))] h)) ok_X12_copy (mi 16 rfl) rfl (m_ref011 (ws := []) hst f.1) rfl (fk f.1 0 rfl) rfl rfl (by decide) (by decide) (Nat.le_of_ble_eq_true rfl) (by decide) ?_
  refine ex_if_eq (tgt := 35) ok_X12_copy (mi 17 rfl) rfl (fun hn => absurd hn (by decide)) (fun _ => ?_)
  refine ex_iconst ok_X12_copy (mi 18 rfl) ?_
  refine ex_iret ok_X12_copy (mi 19 rfl) rfl ?_
  exact ⟨_, rfl, fun e => absurd e (by decide), apI (a := 0) rfl, kq apq (fk f.1 0 rfl), kp_ap rfl⟩
theorem d_keeper_0_0 {G : GE} (hst : (ge_l G).stackTraces = false) {x : Nat}  : MM G 2 0 0 my_X12_keeper x [.int (nI 0), .int (nI 0)] 0 (nI 2) := by
  intro h f
  refine ex_M_of ok_X12_keeper cw_X12_keeper rfl hst (Nat.le_of_ble_eq_true rfl) ?_
  refine ex_aload_n ok_X12_keeper (mi 0 rfl) rfl ?_
  refine ex_iload_n ok_X12_keeper (mi 1 rfl) rfl ?_
  refine ex_iconst ok_X12_keeper (mi 2 rfl) ?_
  refine ex_bipush ok_X12_keeper (mi 3 rfl) ?_
  refine ex_callSr (As := [_, _, _]) ok_X12_keeper (mi 4 rfl) rfl (m_in1 hst (by decide) (by decide)) rfl rfl rfl (by decide) (Nat.le_of_ble_eq_true rfl) (by decide) ?_
  refine ex_if_eq (tgt := 25) ok_X12_keeper (mi 5 rfl) rfl (fun hn => absurd hn (by decide)) (fun _ => ?_)
  refine ex_iload_n ok_X12_keeper (mi 6 rfl) rfl ?_
  refine ex_iconst ok_X12_keeper (mi 7 rfl) ?_
  refine ex_bipush ok_X12_keeper (mi 8 rfl) ?_
  refine ex_callSr (As := [_, _, _]) ok_X12_keeper (mi 9 rfl) rfl (m_in1 hst (by decide) (by decide)) rfl rfl rfl (by decide) (Nat.le_of_ble_eq_true rfl) (by decide) ?_
  refine ex_if_eq (tgt := 25) ok_X12_keeper (mi 10 rfl) rfl (fun hn => absurd hn (by decide)) (fun _ => ?_)
  refine ex_iconst ok_X12_keeper (mi 11 rfl) ?_
  refine ex_goto (tgt := 26) ok_X12_keeper (mi 12 rfl) rfl ?_
  refine ex_iconst ok_X12_keeper (mi 14 rfl) ?_
  refine ex_iconst ok_X12_keeper (mi 15 rfl) ?_
  refine ex_callVr (As := [_, _, _]) (v := some (.int (nI 0))) (g1 := (ap x [(0, 0, 1200, 0, (nI 0))] h)) ok_X12_keeper (mi 16 rfl) rfl (m_ref111 (ws := []) hst f.1) rfl (fk f.1 0 rfl) rfl rfl (by decide) (by decide) (Nat.le_of_ble_eq_true rfl) (by decide) ?_
  refine ex_if_eq (tgt := 36) ok_X12_keeper (mi 17 rfl) rfl (fun _ => ?_) (fun hn => absurd (by decide) hn)
  refine ex_iload_n ok_X12_keeper (mi 20 rfl) rfl ?_
  refine ex_tblk (tgt := 80) ok_X12_keeper (mi 21 rfl) (by decide) (by decide) (by decide) (by decide) ?_
  refine ex_aload_n ok_X12_keeper (mi 22 rfl) rfl ?_
  refine ex_getRx ok_X12_keeper (mi 23 rfl) rfl rfl (kq apq (fk f.1 0 rfl)) (rq apq (fr f.1 33 rfl)) (kq apq (fk f.1 34 rfl)) (by decide) ?_
  refine ex_iload_n ok_X12_keeper (mi 24 rfl) rfl ?_
  refine ex_ialdx ok_X12_keeper (mi 25 rfl) (Or.inl (kq apq (fk f.1 34 rfl))) (nq apq (fn f.1 34 rfl)) (pk_in 0 9 (by decide)) (apA0 (j := 0) rfl (fe f.2.2.1 95 rfl)) ?_
  refine ex_iret ok_X12_keeper (mi 26 rfl) rfl ?_
  exact ⟨_, rfl, fun _ => by decide, apI (a := 0) rfl, kq apq (fk f.1 0 rfl), kp_ap rfl⟩
theorem d_keeper_0_1 {G : GE} (hst : (ge_l G).stackTraces = false) {x : Nat}  : MM G 2 0 0 my_X12_keeper x [.int (nI 0), .int (nI 1)] 0 (nI 0) := by
  intro h f
  refine ex_M_of ok_X12_keeper cw_X12_keeper rfl hst (Nat.le_of_ble_eq_true rfl) ?_
  refine ex_aload_n ok_X12_keeper (mi 0 rfl) rfl ?_
  refine ex_iload_n ok_X12_keeper (mi 1 rfl) rfl ?_
  refine ex_iconst ok_X12_keeper (mi 2 rfl) ?_
  refine ex_bipush ok_X12_keeper (mi 3 rfl) ?_
  refine ex_callSr (As := [_, _, _]) ok_X12_keeper (mi 4 rfl) rfl (m_in1 hst (by decide) (by decide)) rfl rfl rfl (by decide) (Nat.le_of_ble_eq_true rfl) (by decide) ?_
  refine ex_if_eq (tgt := 25) ok_X12_keeper (mi 5 rfl) rfl (fun hn => absurd hn (by decide)) (fun _ => ?_)
  refine ex_iload_n ok_X12_keeper (mi 6 rfl) rfl ?_
  refine ex_iconst ok_X12_keeper (mi 7 rfl) ?_
  refine ex_bipush ok_X12_keeper (mi 8 rfl) ?_
  refine ex_callSr (As := [_, _, _]) ok_X12_keeper (mi 9 rfl) rfl (m_in1 hst (by decide) (by decide)) rfl rfl rfl (by decide) (Nat.le_of_ble_eq_true rfl) (by decide) ?_
  refine ex_if_eq (tgt := 25) ok_X12_keeper (mi 10 rfl) rfl (fun hn => absurd hn (by decide)) (fun _ => ?_)
  refine ex_iconst ok_X12_keeper (mi 11 rfl) ?_
  refine ex_goto (tgt := 26) ok_X12_keeper (mi 12 rfl) rfl ?_
  refine ex_iconst ok_X12_keeper (mi 14 rfl) ?_
  refine ex_iconst ok_X12_keeper (mi 15 rfl) ?_
  refine ex_callVr (As := [_, _, _]) (v := some (.int (nI 0))) (g1 := (ap x [(0, 0, 1200, 0, (nI 0))] h)) ok_X12_keeper (mi 16 rfl) rfl (m_ref111 (ws := []) hst f.1) rfl (fk f.1 0 rfl) rfl rfl (by decide) (by decide) (Nat.le_of_ble_eq_true rfl) (by decide) ?_
  refine ex_if_eq (tgt := 36) ok_X12_keeper (mi 17 rfl) rfl (fun _ => ?_) (fun hn => absurd (by decide) hn)
  refine ex_iload_n ok_X12_keeper (mi 20 rfl) rfl ?_
  refine ex_tblk (tgt := 87) ok_X12_keeper (mi 21 rfl) (by decide) (by decide) (by decide) (by decide) ?_
  refine ex_aload_n ok_X12_keeper (mi 27 rfl) rfl ?_
  refine ex_getRx ok_X12_keeper (mi 28 rfl) rfl rfl (kq apq (fk f.1 0 rfl)) (rq apq (fr f.1 34 rfl)) (kq apq (fk f.1 35 rfl)) (by decide) ?_
  refine ex_iload_n ok_X12_keeper (mi 29 rfl) rfl ?_
  refine ex_ialdx ok_X12_keeper (mi 30 rfl) (Or.inl (kq apq (fk f.1 35 rfl))) (nq apq (fn f.1 35 rfl)) (pk_in 0 9 (by decide)) (apA0 (j := 0) rfl (fe f.2.2.1 94 rfl)) ?_
  refine ex_iret ok_X12_keeper (mi 31 rfl) rfl ?_
  exact ⟨_, rfl, fun _ => by decide, apI (a := 0) rfl, kq apq (fk f.1 0 rfl), kp_ap rfl⟩
theorem d_keeper_0_2 {G : GE} (hst : (ge_l G).stackTraces = false) {x : Nat}  : MM G 2 0 0 my_X12_keeper x [.int (nI 0), .int (nI 2)] 0 (nI 0) := by
  intro h f
  refine ex_M_of ok_X12_keeper cw_X12_keeper rfl hst (Nat.le_of_ble_eq_true rfl) ?_
  refine ex_aload_n ok_X12_keeper (mi 0 rfl) rfl ?_
  refine ex_iload_n ok_X12_keeper (mi 1 rfl) rfl ?_
  refine ex_iconst ok_X12_keeper (mi 2 rfl) ?_
  refine ex_bipush ok_X12_keeper (mi 3 rfl) ?_
  refine ex_callSr (As := [_, _, _]) ok_X12_keeper (mi 4 rfl) rfl (m_in1 hst (by decide) (by decide)) rfl rfl rfl (by decide) (Nat.le_of_ble_eq_true rfl) (by decide) ?_
  refine ex_if_eq (tgt := 25) ok_X12_keeper (mi 5 rfl) rfl (fun hn => absurd hn (by decide)) (fun _ => ?_)
  refine ex_iload_n ok_X12_keeper (mi 6 rfl) rfl ?_
  refine ex_iconst ok_X12_keeper (mi 7 rfl) ?_
  refine ex_bipush ok_X12_keeper (mi 8 rfl) ?_
  refine ex_callSr (As := [_, _, _]) ok_X12_keeper (mi 9 rfl) rfl (m_in1 hst (by decide) (by decide)) rfl rfl rfl (by decide) (Nat.le_of_ble_eq_true rfl) (by decide) ?_
  refine ex_if_eq (tgt := 25) ok_X12_keeper (mi 10 rfl) rfl (fun hn => absurd hn (by decide)) (fun _ => ?_)
  refine ex_iconst ok_X12_keeper (mi 11 rfl) ?_
  refine ex_goto (tgt := 26) ok_X12_keeper (mi 12 rfl) rfl ?_
  refine ex_iconst ok_X12_keeper (mi 14 rfl) ?_
  refine ex_iconst ok_X12_keeper (mi 15 rfl) ?_
  refine ex_callVr (As := [_, _, _]) (v := some (.int (nI 0))) (g1 := (ap x [(0, 0, 1200, 0, (nI 0))] h)) ok_X12_keeper (mi 16 rfl) rfl (m_ref111 (ws := []) hst f.1) rfl (fk f.1 0 rfl) rfl rfl (by decide) (by decide) (Nat.le_of_ble_eq_true rfl) (by decide) ?_
  refine ex_if_eq (tgt := 36) ok_X12_keeper (mi 17 rfl) rfl (fun _ => ?_) (fun hn => absurd (by decide) hn)
  refine ex_iload_n ok_X12_keeper (mi 20 rfl) rfl ?_
  refine ex_tblk (tgt := 94) ok_X12_keeper (mi 21 rfl) (by decide) (by decide) (by decide) (by decide) ?_
  refine ex_aload_n ok_X12_keeper (mi 32 rfl) rfl ?_
  refine ex_getRx ok_X12_keeper (mi 33 rfl) rfl rfl (kq apq (fk f.1 0 rfl)) (rq apq (fr f.1 36 rfl)) (kq apq (fk f.1 37 rfl)) (by decide) ?_
  refine ex_iload_n ok_X12_keeper (mi 34 rfl) rfl ?_
  refine ex_ialdx ok_X12_keeper (mi 35 rfl) (Or.inl (kq apq (fk f.1 37 rfl))) (nq apq (fn f.1 37 rfl)) (pk_in 0 9 (by decide)) (apA0 (j := 0) rfl (fe f.2.2.1 92 rfl)) ?_
  refine ex_iret ok_X12_keeper (mi 36 rfl) rfl ?_
  exact ⟨_, rfl, fun _ => by decide, apI (a := 0) rfl, kq apq (fk f.1 0 rfl), kp_ap rfl⟩
theorem d_keeper_0_3 {G : GE} (hst : (ge_l G).stackTraces = false) {x : Nat}  : MM G 2 0 0 my_X12_keeper x [.int (nI 0), .int (nI 3)] 0 (nI 0) := by
  intro h f
  refine ex_M_of ok_X12_keeper cw_X12_keeper rfl hst (Nat.le_of_ble_eq_true rfl) ?_
  refine ex_aload_n ok_X12_keeper (mi 0 rfl) rfl ?_
  refine ex_iload_n ok_X12_keeper (mi 1 rfl) rfl ?_
  refine ex_iconst ok_X12_keeper (mi 2 rfl) ?_
  refine ex_bipush ok_X12_keeper (mi 3 rfl) ?_
  refine ex_callSr (As := [_, _, _]) ok_X12_keeper (mi 4 rfl) rfl (m_in1 hst (by decide) (by decide)) rfl rfl rfl (by decide) (Nat.le_of_ble_eq_true rfl) (by decide) ?_
  refine ex_if_eq (tgt := 25) ok_X12_keeper (mi 5 rfl) rfl (fun hn => absurd hn (by decide)) (fun _ => ?_)
  refine ex_iload_n ok_X12_keeper (mi 6 rfl) rfl ?_
  refine ex_iconst ok_X12_keeper (mi 7 rfl) ?_
  refine ex_bipush ok_X12_keeper (mi 8 rfl) ?_
  refine ex_callSr (As := [_, _, _]) ok_X12_keeper (mi 9 rfl) rfl (m_in1 hst (by decide) (by decide)) rfl rfl rfl (by decide) (Nat.le_of_ble_eq_true rfl) (by decide) ?_
  refine ex_if_eq (tgt := 25) ok_X12_keeper (mi 10 rfl) rfl (fun hn => absurd hn (by decide)) (fun _ => ?_)
  refine ex_iconst ok_X12_keeper (mi 11 rfl) ?_
  refine ex_goto (tgt := 26) ok_X12_keeper (mi 12 rfl) rfl ?_
  refine ex_iconst ok_X12_keeper (mi 14 rfl) ?_
  refine ex_iconst ok_X12_keeper (mi 15 rfl) ?_
  refine ex_callVr (As := [_, _, _]) (v := some (.int (nI 0))) (g1 := (ap x [(0, 0, 1200, 0, (nI 0))] h)) ok_X12_keeper (mi 16 rfl) rfl (m_ref111 (ws := []) hst f.1) rfl (fk f.1 0 rfl) rfl rfl (by decide) (by decide) (Nat.le_of_ble_eq_true rfl) (by decide) ?_
  refine ex_if_eq (tgt := 36) ok_X12_keeper (mi 17 rfl) rfl (fun _ => ?_) (fun hn => absurd (by decide) hn)
  refine ex_iload_n ok_X12_keeper (mi 20 rfl) rfl ?_
  refine ex_tblk (tgt := 101) ok_X12_keeper (mi 21 rfl) (by decide) (by decide) (by decide) (by decide) ?_
  refine ex_aload_n ok_X12_keeper (mi 37 rfl) rfl ?_
  refine ex_iload_n ok_X12_keeper (mi 38 rfl) rfl ?_
  refine ex_callVr (As := [_]) ok_X12_keeper (mi 39 rfl) rfl (m_cent0 hst (shq apq f.1) (ap_tG0 rfl f.2.2.2)) rfl (kq apq (fk f.1 0 rfl)) rfl rfl (by decide) (by decide) (Nat.le_of_ble_eq_true rfl) (by decide) ?_
  refine ex_iret ok_X12_keeper (mi 40 rfl) rfl ?_
  exact ⟨_, rfl, fun _ => by decide, apI (a := 0) rfl, kq apq (fk f.1 0 rfl), kp_ap rfl⟩
theorem d_keeper_0_4 {G : GE} (hst : (ge_l G).stackTraces = false) {x : Nat}  : MM G 2 0 0 my_X12_keeper x [.int (nI 0), .int (nI 4)] 0 ((-1)) := by
  intro h f
  refine ex_M_of ok_X12_keeper cw_X12_keeper rfl hst (Nat.le_of_ble_eq_true rfl) ?_
  refine ex_aload_n ok_X12_keeper (mi 0 rfl) rfl ?_
  refine ex_iload_n ok_X12_keeper (mi 1 rfl) rfl ?_
  refine ex_iconst ok_X12_keeper (mi 2 rfl) ?_
  refine ex_bipush ok_X12_keeper (mi 3 rfl) ?_
  refine ex_callSr (As := [_, _, _]) ok_X12_keeper (mi 4 rfl) rfl (m_in1 hst (by decide) (by decide)) rfl rfl rfl (by decide) (Nat.le_of_ble_eq_true rfl) (by decide) ?_
  refine ex_if_eq (tgt := 25) ok_X12_keeper (mi 5 rfl) rfl (fun hn => absurd hn (by decide)) (fun _ => ?_)
  refine ex_iload_n ok_X12_keeper (mi 6 rfl) rfl ?_
  refine ex_iconst ok_X12_keeper (mi 7 rfl) ?_
  refine ex_bipush ok_X12_keeper (mi 8 rfl) ?_
  refine ex_callSr (As := [_, _, _]) ok_X12_keeper (mi 9 rfl) rfl (m_in1 hst (by decide) (by decide)) rfl rfl rfl (by decide) (Nat.le_of_ble_eq_true rfl) (by decide) ?_
  refine ex_if_eq (tgt := 25) ok_X12_keeper (mi 10 rfl) rfl (fun hn => absurd hn (by decide)) (fun _ => ?_)
  refine ex_iconst ok_X12_keeper (mi 11 rfl) ?_
  refine ex_goto (tgt := 26) ok_X12_keeper (mi 12 rfl) rfl ?_
  refine ex_iconst ok_X12_keeper (mi 14 rfl) ?_
  refine ex_iconst ok_X12_keeper (mi 15 rfl) ?_
  refine ex_callVr (As := [_, _, _]) (v := some (.int (nI 0))) (g1 := (ap x [(0, 0, 1200, 0, (nI 0))] h)) ok_X12_keeper (mi 16 rfl) rfl (m_ref111 (ws := []) hst f.1) rfl (fk f.1 0 rfl) rfl rfl (by decide) (by decide) (Nat.le_of_ble_eq_true rfl) (by decide) ?_
  refine ex_if_eq (tgt := 36) ok_X12_keeper (mi 17 rfl) rfl (fun _ => ?_) (fun hn => absurd (by decide) hn)
  refine ex_iload_n ok_X12_keeper (mi 20 rfl) rfl ?_
  refine ex_tblk (tgt := 107) ok_X12_keeper (mi 21 rfl) (by decide) (by decide) (by decide) (by decide) ?_
  refine ex_aload_n ok_X12_keeper (mi 41 rfl) rfl ?_
  refine ex_getRx ok_X12_keeper (mi 42 rfl) rfl rfl (kq apq (fk f.1 0 rfl)) (rq apq (fr f.1 38 rfl)) (kq apq (fk f.1 39 rfl)) (by decide) ?_
  refine ex_iload_n ok_X12_keeper (mi 43 rfl) rfl ?_
  refine ex_ialdx ok_X12_keeper (mi 44 rfl) (Or.inl (kq apq (fk f.1 39 rfl))) (nq apq (fn f.1 39 rfl)) (pk_in 0 9 (by decide)) (apA0 (j := 0) rfl (fe f.2.2.1 91 rfl)) ?_
  refine ex_iret ok_X12_keeper (mi 45 rfl) rfl ?_
  exact ⟨_, rfl, fun _ => by decide, apI (a := 0) rfl, kq apq (fk f.1 0 rfl), kp_ap rfl⟩
theorem d_keeper_0_5 {G : GE} (hst : (ge_l G).stackTraces = false) {x : Nat}  : MM G 2 0 0 my_X12_keeper x [.int (nI 0), .int (nI 5)] 0 ((-1)) := by
  intro h f
  refine ex_M_of ok_X12_keeper cw_X12_keeper rfl hst (Nat.le_of_ble_eq_true rfl) ?_
  refine ex_aload_n ok_X12_keeper (mi 0 rfl) rfl ?_
  refine ex_iload_n ok_X12_keeper (mi 1 rfl) rfl ?_
  refine ex_iconst ok_X12_keeper (mi 2 rfl) ?_
  refine ex_bipush ok_X12_keeper (mi 3 rfl) ?_
  refine ex_callSr (As := [_, _, _]) ok_X12_keeper (mi 4 rfl) rfl (m_in1 hst (by decide) (by decide)) rfl rfl rfl (by decide) (Nat.le_of_ble_eq_true rfl) (by decide) ?_
  refine ex_if_eq (tgt := 25) ok_X12_keeper (mi 5 rfl) rfl (fun hn => absurd hn (by decide)) (fun _ => ?_)
  refine ex_iload_n ok_X12_keeper (mi 6 rfl) rfl ?_
  refine ex_iconst ok_X12_keeper (mi 7 rfl) ?_
  refine ex_bipush ok_X12_keeper (mi 8 rfl) ?_
  refine ex_callSr (As := [_, _, _]) ok_X12_keeper (mi 9 rfl) rfl (m_in1 hst (by decide) (by decide)) rfl rfl rfl (by decide) (Nat.le_of_ble_eq_true rfl) (by decide) ?_
  refine ex_if_eq (tgt := 25) ok_X12_keeper (mi 10 rfl) rfl (fun hn => absurd hn (by decide)) (fun _ => ?_)
  refine ex_iconst ok_X12_keeper (mi 11 rfl) ?_
  refine ex_goto (tgt := 26) ok_X12_keeper (mi 12 rfl) rfl ?_
  refine ex_iconst ok_X12_keeper (mi 14 rfl) ?_
  refine ex_iconst ok_X12_keeper (mi 15 rfl) ?_
  refine ex_callVr (As := [_, _, _]) (v := some (.int (nI 0))) (g1 := (ap x [(0, 0, 1200, 0, (nI 0))] h)) ok_X12_keeper (mi 16 rfl) rfl (m_ref111 (ws := []) hst f.1) rfl (fk f.1 0 rfl) rfl rfl (by decide) (by decide) (Nat.le_of_ble_eq_true rfl) (by decide) ?_
  refine ex_if_eq (tgt := 36) ok_X12_keeper (mi 17 rfl) rfl (fun _ => ?_) (fun hn => absurd (by decide) hn)
  refine ex_iload_n ok_X12_keeper (mi 20 rfl) rfl ?_
  refine ex_tblk (tgt := 114) ok_X12_keeper (mi 21 rfl) (by decide) (by decide) (by decide) (by decide) ?_
  refine ex_aload_n ok_X12_keeper (mi 46 rfl) rfl ?_
  refine ex_getRx ok_X12_keeper (mi 47 rfl) rfl rfl (kq apq (fk f.1 0 rfl)) (rq apq (fr f.1 39 rfl)) (kq apq (fk f.1 40 rfl)) (by decide) ?_
  refine ex_iload_n ok_X12_keeper (mi 48 rfl) rfl ?_
  refine ex_ialdx ok_X12_keeper (mi 49 rfl) (Or.inl (kq apq (fk f.1 40 rfl))) (nq apq (fn f.1 40 rfl)) (pk_in 0 9 (by decide)) (apA0 (j := 0) rfl (fe f.2.2.1 90 rfl)) ?_
  refine ex_iret ok_X12_keeper (mi 50 rfl) rfl ?_
  exact ⟨_, rfl, fun _ => by decide, apI (a := 0) rfl, kq apq (fk f.1 0 rfl), kp_ap rfl⟩
theorem d_keeper_0_6 {G : GE} (hst : (ge_l G).stackTraces = false) {x : Nat}  : MM G 2 0 0 my_X12_keeper x [.int (nI 0), .int (nI 6)] 0 (nI 0) := by
  intro h f
  refine ex_M_of ok_X12_keeper cw_X12_keeper rfl hst (Nat.le_of_ble_eq_true rfl) ?_
  refine ex_aload_n ok_X12_keeper (mi 0 rfl) rfl ?_
  refine ex_iload_n ok_X12_keeper (mi 1 rfl) rfl ?_
  refine ex_iconst ok_X12_keeper (mi 2 rfl) ?_
  refine ex_bipush ok_X12_keeper (mi 3 rfl) ?_
  refine ex_callSr (As := [_, _, _]) ok_X12_keeper (mi 4 rfl) rfl (m_in1 hst (by decide) (by decide)) rfl rfl rfl (by decide) (Nat.le_of_ble_eq_true rfl) (by decide) ?_
  refine ex_if_eq (tgt := 25) ok_X12_keeper (mi 5 rfl) rfl (fun hn => absurd hn (by decide)) (fun _ => ?_)
  refine ex_iload_n ok_X12_keeper (mi 6 rfl) rfl ?_
  refine ex_iconst ok_X12_keeper (mi 7 rfl) ?_
  refine ex_bipush ok_X12_keeper (mi 8 rfl) ?_
  refine ex_callSr (As := [_, _, _]) ok_X12_keeper (mi 9 rfl) rfl (m_in1 hst (by decide) (by decide)) rfl rfl rfl (by decide) (Nat.le_of_ble_eq_true rfl) (by decide) ?_
  refine ex_if_eq (tgt := 25) ok_X12_keeper (mi 10 rfl) rfl (fun hn => absurd hn (by decide)) (fun _ => ?_)
  refine ex_iconst ok_X12_keeper (mi 11 rfl) ?_
  refine ex_goto (tgt := 26) ok_X12_keeper (mi 12 rfl) rfl ?_
  refine ex_iconst ok_X12_keeper (mi 14 rfl) ?_
  refine ex_iconst ok_X12_keeper (mi 15 rfl) ?_
  refine ex_callVr (As := [_, _, _]) (v := some (.int (nI 0))) (g1 := (ap x [(0, 0, 1200, 0, (nI 0))] h)) ok_X12_keeper (mi 16 rfl) rfl (m_ref111 (ws := []) hst f.1) rfl (fk f.1 0 rfl) rfl rfl (by decide) (by decide) (Nat.le_of_ble_eq_true rfl) (by decide) ?_
  refine ex_if_eq (tgt := 36) ok_X12_keeper (mi 17 rfl) rfl (fun _ => ?_) (fun hn => absurd (by decide) hn)
  refine ex_iload_n ok_X12_keeper (mi 20 rfl) rfl ?_
  refine ex_tblk (tgt := 121) ok_X12_keeper (mi 21 rfl) (by decide) (by decide) (by decide) (by decide) ?_
  refine ex_aload_n ok_X12_keeper (mi 51 rfl) rfl ?_
  refine ex_getRx ok_X12_keeper (mi 52 rfl) rfl rfl (kq apq (fk f.1 0 rfl)) (rq apq (fr f.1 40 rfl)) (kq apq (fk f.1 41 rfl)) (by decide) ?_
  refine ex_iload_n ok_X12_keeper (mi 53 rfl) rfl ?_
  refine ex_ialdx ok_X12_keeper (mi 54 rfl) (Or.inl (kq apq (fk f.1 41 rfl))) (nq apq (fn f.1 41 rfl)) (pk_in 0 9 (by decide)) (apA0 (j := 0) rfl (fe f.2.2.1 89 rfl)) ?_
  refine ex_iret ok_X12_keeper (mi 55 rfl) rfl ?_
  exact ⟨_, rfl, fun _ => by decide, apI (a := 0) rfl, kq apq (fk f.1 0 rfl), kp_ap rfl⟩
theorem d_keeper_0_7 {G : GE} (hst : (ge_l G).stackTraces = false) {x : Nat}  : MM G 2 0 0 my_X12_keeper x [.int (nI 0), .int (nI 7)] 0 (nI 0) := by
  intro h f
  refine ex_M_of ok_X12_keeper cw_X12_keeper rfl hst (Nat.le_of_ble_eq_true rfl) ?_
  refine ex_aload_n ok_X12_keeper (mi 0 rfl) rfl ?_
  refine ex_iload_n ok_X12_keeper (mi 1 rfl) rfl ?_
  refine ex_iconst ok_X12_keeper (mi 2 rfl) ?_
  refine ex_bipush ok_X12_keeper (mi 3 rfl) ?_
  refine ex_callSr (As := [_, _, _]) ok_X12_keeper (mi 4 rfl) rfl (m_in1 hst (by decide) (by decide)) rfl rfl rfl (by decide) (Nat.le_of_ble_eq_true rfl) (by decide) ?_
  refine ex_if_eq (tgt := 25) ok_X12_keeper (mi 5 rfl) rfl (fun hn => absurd hn (by decide)) (fun _ => ?_)
  refine ex_iload_n ok_X12_keeper (mi 6 rfl) rfl ?_
  refine ex_iconst ok_X12_keeper (mi 7 rfl) ?_
  refine ex_bipush ok_X12_keeper (mi 8 rfl) ?_
  refine ex_callSr (As := [_, _, _]) ok_X12_keeper (mi 9 rfl) rfl (m_in1 hst (by decide) (by decide)) rfl rfl rfl (by decide) (Nat.le_of_ble_eq_true rfl) (by decide) ?_
  refine ex_if_eq (tgt := 25) ok_X12_keeper (mi 10 rfl) rfl (fun hn => absurd hn (by decide)) (fun _ => ?_)
  refine ex_iconst ok_X12_keeper (mi 11 rfl) ?_
  refine ex_goto (tgt := 26) ok_X12_keeper (mi 12 rfl) rfl ?_
  refine ex_iconst ok_X12_keeper (mi 14 rfl) ?_
  refine ex_iconst ok_X12_keeper (mi 15 rfl) ?_
  refine ex_callVr (As := [_, _, _]) (v := some (.int (nI 0))) (g1 := (ap x [(0, 0, 1200, 0, (nI 0))] h)) ok_X12_keeper (mi 16 rfl) rfl (m_ref111 (ws := []) hst f.1) rfl (fk f.1 0 rfl) rfl rfl (by decide) (by decide) (Nat.le_of_ble_eq_true rfl) (by decide) ?_
  refine ex_if_eq (tgt := 36) ok_X12_keeper (mi 17 rfl) rfl (fun _ => ?_) (fun hn => absurd (by decide) hn)
  refine ex_iload_n ok_X12_keeper (mi 20 rfl) rfl ?_
  refine ex_tblk (tgt := 128) ok_X12_keeper (mi 21 rfl) (by decide) (by decide) (by decide) (by decide) ?_
  refine ex_aload_n ok_X12_keeper (mi 56 rfl) rfl ?_
  refine ex_getRx ok_X12_keeper (mi 57 rfl) rfl rfl (kq apq (fk f.1 0 rfl)) (rq apq (fr f.1 41 rfl)) (kq apq (fk f.1 42 rfl)) (by decide) ?_
  refine ex_iload_n ok_X12_keeper (mi 58 rfl) rfl ?_
  refine ex_ialdx ok_X12_keeper (mi 59 rfl) (Or.inl (kq apq (fk f.1 42 rfl))) (nq apq (fn f.1 42 rfl)) (pk_in 0 9 (by decide)) (apA0 (j := 0) rfl (fe f.2.2.1 88 rfl)) ?_
  refine ex_iret ok_X12_keeper (mi 60 rfl) rfl ?_
  exact ⟨_, rfl, fun _ => by decide, apI (a := 0) rfl, kq apq (fk f.1 0 rfl), kp_ap rfl⟩
theorem d_entry_0 {G : GE} (hst : (ge_l G).stackTraces = false) {x : Nat} {p1 p2 : Int32} : MM G 2 0 0 my_X12_entry x [.int (nI 0), .int p1, .int p2] 1 (nI 0) := by
  intro h f
  refine ex_M_of ok_X12_entry cw_X12_entry rfl hst (Nat.le_of_ble_eq_true rfl) ?_
  refine ex_iload_n ok_X12_entry (mi 0 rfl) rfl ?_
  refine ex_iconst ok_X12_entry (mi 1 rfl) ?_
  refine ex_bipush ok_X12_entry (mi 2 rfl) ?_
  refine ex_callSr (As := [_, _, _]) ok_X12_entry (mi 3 rfl) rfl (m_in1 hst (by decide) (by decide)) rfl rfl rfl (by decide) (Nat.le_of_ble_eq_true rfl) (by decide) ?_
  refine ex_istore ok_X12_entry (mi 4 rfl) ?_
  refine ex_aload_n ok_X12_entry (mi 5 rfl) rfl ?_
  refine ex_iload ok_X12_entry (mi 6 rfl) rfl ?_
  refine ex_if_eq (tgt := 34) ok_X12_entry (mi 7 rfl) rfl (fun hn => absurd hn (by decide)) (fun _ => ?_)
  refine ex_iload_n ok_X12_entry (mi 8 rfl) rfl ?_
  refine ex_iconst ok_X12_entry (mi 9 rfl) ?_
  refine ex_aload_n ok_X12_entry (mi 10 rfl) rfl ?_
  refine ex_iload_n ok_X12_entry (mi 11 rfl) rfl ?_
  refine ex_callVr (As := [_]) ok_X12_entry (mi 12 rfl) rfl (m_cent0 hst f.1 f.2.2.2) rfl (fk f.1 0 rfl) rfl rfl (by decide) (by decide) (Nat.le_of_ble_eq_true rfl) (by decide) ?_
  refine ex_iconst ok_X12_entry (mi 13 rfl) ?_
  refine ex_isub ok_X12_entry (mi 14 rfl) ?_
  refine ex_top (w := (-1)) (by decide) ?_
  refine ex_callSr (As := [_, _, _]) ok_X12_entry (mi 15 rfl) rfl (m_in0 hst (fun k => absurd (Int32.le_trans k.1 k.2) (by decide))) rfl rfl rfl (by decide) (Nat.le_of_ble_eq_true rfl) (by decide) ?_
  refine ex_if_eq (tgt := 34) ok_X12_entry (mi 16 rfl) rfl (fun _ => ?_) (fun hn => absurd (by decide) hn)
  refine ex_iconst ok_X12_entry (mi 19 rfl) ?_
  refine ex_iconst ok_X12_entry (mi 20 rfl) ?_
  refine ex_iconst ok_X12_entry (mi 21 rfl) ?_
  refine ex_callVr (As := [_, _, _]) (v := some (.int (nI 1))) (g1 := (ap x [(0, 0, 1200, 0, (nI 1))] h)) ok_X12_entry (mi 22 rfl) rfl (m_ref011 (ws := []) hst f.1) rfl (fk f.1 0 rfl) rfl rfl (by decide) (by decide) (Nat.le_of_ble_eq_true rfl) (by decide) ?_
  refine ex_if_eq (tgt := 45) ok_X12_entry (mi 23 rfl) rfl (fun hn => absurd hn (by decide)) (fun _ => ?_)
  refine ex_iconst ok_X12_entry (mi 24 rfl) ?_
  refine ex_iret ok_X12_entry (mi 25 rfl) rfl ?_
  exact ⟨_, rfl, fun e => absurd e (by decide), apI (a := 0) rfl, kq apq (fk f.1 0 rfl), kp_ap rfl⟩
theorem d_keeper_1_0 {G : GE} (hst : (ge_l G).stackTraces = false) {x : Nat}  : MM G 2 0 0 my_X12_keeper x [.int (nI 1), .int (nI 0)] 0 (nI 2) := by
  intro h f
  refine ex_M_of ok_X12_keeper cw_X12_keeper rfl hst (Nat.le_of_ble_eq_true rfl) ?_
  refine ex_aload_n ok_X12_keeper (mi 0 rfl) rfl ?_
  refine ex_iload_n ok_X12_keeper (mi 1 rfl) rfl ?_
  refine ex_iconst ok_X12_keeper (mi 2 rfl) ?_
  refine ex_bipush ok_X12_keeper (mi 3 rfl) ?_
  refine ex_callSr (As := [_, _, _]) ok_X12_keeper (mi 4 rfl) rfl (m_in1 hst (by decide) (by decide)) rfl rfl rfl (by decide) (Nat.le_of_ble_eq_true rfl) (by decide) ?_
  refine ex_if_eq (tgt := 25) ok_X12_keeper (mi 5 rfl) rfl (fun hn => absurd hn (by decide)) (fun _ => ?_)
  refine ex_iload_n ok_X12_keeper (mi 6 rfl) rfl ?_
  refine ex_iconst ok_X12_keeper (mi 7 rfl) ?_
  refine ex_bipush ok_X12_keeper (mi 8 rfl) ?_
  refine ex_callSr (As := [_, _, _]) ok_X12_keeper (mi 9 rfl) rfl (m_in1 hst (by decide) (by decide)) rfl rfl rfl (by decide) (Nat.le_of_ble_eq_true rfl) (by decide) ?_
  refine ex_if_eq (tgt := 25) ok_X12_keeper (mi 10 rfl) rfl (fun hn => absurd hn (by decide)) (fun _ => ?_)
  refine ex_iconst ok_X12_keeper (mi 11 rfl) ?_
  refine ex_goto (tgt := 26) ok_X12_keeper (mi 12 rfl) rfl ?_
  refine ex_iconst ok_X12_keeper (mi 14 rfl) ?_
  refine ex_iconst ok_X12_keeper (mi 15 rfl) ?_
  refine ex_callVr (As := [_, _, _]) (v := some (.int (nI 0))) (g1 := (ap x [(0, 0, 1200, 0, (nI 0))] h)) ok_X12_keeper (mi 16 rfl) rfl (m_ref111 (ws := []) hst f.1) rfl (fk f.1 0 rfl) rfl rfl (by decide) (by decide) (Nat.le_of_ble_eq_true rfl) (by decide) ?_
  refine ex_if_eq (tgt := 36) ok_X12_keeper (mi 17 rfl) rfl (fun _ => ?_) (fun hn => absurd (by decide) hn)
  refine ex_iload_n ok_X12_keeper (mi 20 rfl) rfl ?_
  refine ex_tblk (tgt := 80) ok_X12_keeper (mi 21 rfl) (by decide) (by decide) (by decide) (by decide) ?_
  refine ex_aload_n ok_X12_keeper (mi 22 rfl) rfl ?_
  refine ex_getRx ok_X12_keeper (mi 23 rfl) rfl rfl (kq apq (fk f.1 0 rfl)) (rq apq (fr f.1 33 rfl)) (kq apq (fk f.1 34 rfl)) (by decide) ?_
  refine ex_iload_n ok_X12_keeper (mi 24 rfl) rfl ?_
  refine ex_ialdx ok_X12_keeper (mi 25 rfl) (Or.inl (kq apq (fk f.1 34 rfl))) (nq apq (fn f.1 34 rfl)) (pk_in 1 9 (by decide)) (apA0 (j := 1) rfl (fe f.2.2.1 87 rfl)) ?_
  refine ex_iret ok_X12_keeper (mi 26 rfl) rfl ?_
  exact ⟨_, rfl, fun _ => by decide, apI (a := 0) rfl, kq apq (fk f.1 0 rfl), kp_ap rfl⟩
theorem d_keeper_1_1 {G : GE} (hst : (ge_l G).stackTraces = false) {x : Nat}  : MM G 2 0 0 my_X12_keeper x [.int (nI 1), .int (nI 1)] 0 (nI 0) := by
  intro h f
  refine ex_M_of ok_X12_keeper cw_X12_keeper rfl hst (Nat.le_of_ble_eq_true rfl) ?_
  refine ex_aload_n ok_X12_keeper (mi 0 rfl) rfl ?_
  refine ex_iload_n ok_X12_keeper (mi 1 rfl) rfl ?_
  refine ex_iconst ok_X12_keeper (mi 2 rfl) ?_
  refine ex_bipush ok_X12_keeper (mi 3 rfl) ?_
  refine ex_callSr (As := [_, _, _]) ok_X12_keeper (mi 4 rfl) rfl (m_in1 hst (by decide) (by decide)) rfl rfl rfl (by decide) (Nat.le_of_ble_eq_true rfl) (by decide) ?_
  refine ex_if_eq (tgt := 25) ok_X12_keeper (mi 5 rfl) rfl (fun hn => absurd hn (by decide)) (fun _ => ?_)
  refine ex_iload_n ok_X12_keeper (mi 6 rfl) rfl ?_
  refine ex_iconst ok_X12_keeper (mi 7 rfl) ?_
  refine ex_bipush ok_X12_keeper (mi 8 rfl) ?_
  refine ex_callSr (As := [_, _, _]) ok_X12_keeper (mi 9 rfl) rfl (m_in1 hst (by decide) (by decide)) rfl rfl rfl (by decide) (Nat.le_of_ble_eq_true rfl) (by decide) ?_
  refine ex_if_eq (tgt := 25) ok_X12_keeper (mi 10 rfl) rfl (fun hn => absurd hn (by decide)) (fun _ => ?_)
  refine ex_iconst ok_X12_keeper (mi 11 rfl) ?_
  refine ex_goto (tgt := 26) ok_X12_keeper (mi 12 rfl) rfl ?_
  refine ex_iconst ok_X12_keeper (mi 14 rfl) ?_
  refine ex_iconst ok_X12_keeper (mi 15 rfl) ?_
  refine ex_callVr (As := [_, _, _]) (v := some (.int (nI 0))) (g1 := (ap x [(0, 0, 1200, 0, (nI 0))] h)) ok_X12_keeper (mi 16 rfl) rfl (m_ref111 (ws := []) hst f.1) rfl (fk f.1 0 rfl) rfl rfl (by decide) (by decide) (Nat.le_of_ble_eq_true rfl) (by decide) ?_
  refine ex_if_eq (tgt := 36) ok_X12_keeper (mi 17 rfl) rfl (fun _ => ?_) (fun hn => absurd (by decide) hn)
  refine ex_iload_n ok_X12_keeper (mi 20 rfl) rfl ?_
  refine ex_tblk (tgt := 87) ok_X12_keeper (mi 21 rfl) (by decide) (by decide) (by decide) (by decide) ?_
  refine ex_aload_n ok_X12_keeper (mi 27 rfl) rfl ?_
  refine ex_getRx ok_X12_keeper (mi 28 rfl) rfl rfl (kq apq (fk f.1 0 rfl)) (rq apq (fr f.1 34 rfl)) (kq apq (fk f.1 35 rfl)) (by decide) ?_
  refine ex_iload_n ok_X12_keeper (mi 29 rfl) rfl ?_
  refine ex_ialdx ok_X12_keeper (mi 30 rfl) (Or.inl (kq apq (fk f.1 35 rfl))) (nq apq (fn f.1 35 rfl)) (pk_in 1 9 (by decide)) (apA0 (j := 1) rfl (fe f.2.2.1 86 rfl)) ?_
  refine ex_iret ok_X12_keeper (mi 31 rfl) rfl ?_
  exact ⟨_, rfl, fun _ => by decide, apI (a := 0) rfl, kq apq (fk f.1 0 rfl), kp_ap rfl⟩
theorem d_keeper_1_2 {G : GE} (hst : (ge_l G).stackTraces = false) {x : Nat}  : MM G 2 0 0 my_X12_keeper x [.int (nI 1), .int (nI 2)] 0 (nI 0) := by
  intro h f
  refine ex_M_of ok_X12_keeper cw_X12_keeper rfl hst (Nat.le_of_ble_eq_true rfl) ?_
  refine ex_aload_n ok_X12_keeper (mi 0 rfl) rfl ?_
  refine ex_iload_n ok_X12_keeper (mi 1 rfl) rfl ?_
  refine ex_iconst ok_X12_keeper (mi 2 rfl) ?_
  refine ex_bipush ok_X12_keeper (mi 3 rfl) ?_
  refine ex_callSr (As := [_, _, _]) ok_X12_keeper (mi 4 rfl) rfl (m_in1 hst (by decide) (by decide)) rfl rfl rfl (by decide) (Nat.le_of_ble_eq_true rfl) (by decide) ?_
  refine ex_if_eq (tgt := 25) ok_X12_keeper (mi 5 rfl) rfl (fun hn => absurd hn (by decide)) (fun _ => ?_)
  refine ex_iload_n ok_X12_keeper (mi 6 rfl) rfl ?_
  refine ex_iconst ok_X12_keeper (mi 7 rfl) ?_
  refine ex_bipush ok_X12_keeper (mi 8 rfl) ?_
  refine ex_callSr (As := [_, _, _]) ok_X12_keeper (mi 9 rfl) rfl (m_in1 hst (by decide) (by decide)) rfl rfl rfl (by decide) (Nat.le_of_ble_eq_true rfl) (by decide) ?_
  refine ex_if_eq (tgt := 25) ok_X12_keeper (mi 10 rfl) rfl (fun hn => absurd hn (by decide)) (fun _ => ?_)
  refine ex_iconst ok_X12_keeper (mi 11 rfl) ?_
  refine ex_goto (tgt := 26) ok_X12_keeper (mi 12 rfl) rfl ?_
  refine ex_iconst ok_X12_keeper (mi 14 rfl) ?_
  refine ex_iconst ok_X12_keeper (mi 15 rfl) ?_
  refine ex_callVr (As := [_, _, _]) (v := some (.int (nI 0))) (g1 := (ap x [(0, 0, 1200, 0, (nI 0))] h)) ok_X12_keeper (mi 16 rfl) rfl (m_ref111 (ws := []) hst f.1) rfl (fk f.1 0 rfl) rfl rfl (by decide) (by decide) (Nat.le_of_ble_eq_true rfl) (by decide) ?_
  refine ex_if_eq (tgt := 36) ok_X12_keeper (mi 17 rfl) rfl (fun _ => ?_) (fun hn => absurd (by decide) hn)
  refine ex_iload_n ok_X12_keeper (mi 20 rfl) rfl ?_
  refine ex_tblk (tgt := 94) ok_X12_keeper (mi 21 rfl) (by decide) (by decide) (by decide) (by decide) ?_
  refine ex_aload_n ok_X12_keeper (mi 32 rfl) rfl ?_
  refine ex_getRx ok_X12_keeper (mi 33 rfl) rfl rfl (kq apq (fk f.1 0 rfl)) (rq apq (fr f.1 36 rfl)) (kq apq (fk f.1 37 rfl)) (by decide) ?_
  refine ex_iload_n ok_X12_keeper (mi 34 rfl) rfl ?_
  refine ex_ialdx ok_X12_keeper (mi 35 rfl) (Or.inl (kq apq (fk f.1 37 rfl))) (nq apq (fn f.1 37 rfl)) (pk_in 1 9 (by decide)) (apA0 (j := 1) rfl (fe f.2.2.1 84 rfl)) ?_
  refine ex_iret ok_X12_keeper (mi 36 rfl) rfl ?_
  exact ⟨_, rfl, fun _ => by decide, apI (a := 0) rfl, kq apq (fk f.1 0 rfl), kp_ap rfl⟩
theorem d_keeper_1_3 {G : GE} (hst : (ge_l G).stackTraces = false) {x : Nat}  : MM G 2 0 0 my_X12_keeper x [.int (nI 1), .int (nI 3)] 0 (nI 0) := by
  intro h f
  refine ex_M_of ok_X12_keeper cw_X12_keeper rfl hst (Nat.le_of_ble_eq_true rfl) ?_
  refine ex_aload_n ok_X12_keeper (mi 0 rfl) rfl ?_
  refine ex_iload_n ok_X12_keeper (mi 1 rfl) rfl ?_
  refine ex_iconst ok_X12_keeper (mi 2 rfl) ?_
  refine ex_bipush ok_X12_keeper (mi 3 rfl) ?_
  refine ex_callSr (As := [_, _, _]) ok_X12_keeper (mi 4 rfl) rfl (m_in1 hst (by decide) (by decide)) rfl rfl rfl (by decide) (Nat.le_of_ble_eq_true rfl) (by decide) ?_
  refine ex_if_eq (tgt := 25) ok_X12_keeper (mi 5 rfl) rfl (fun hn => absurd hn (by decide)) (fun _ => ?_)
  refine ex_iload_n ok_X12_keeper (mi 6 rfl) rfl ?_
  refine ex_iconst ok_X12_keeper (mi 7 rfl) ?_
  refine ex_bipush ok_X12_keeper (mi 8 rfl) ?_
  refine ex_callSr (As := [_, _, _]) ok_X12_keeper (mi 9 rfl) rfl (m_in1 hst (by decide) (by decide)) rfl rfl rfl (by decide) (Nat.le_of_ble_eq_true rfl) (by decide) ?_
  refine ex_if_eq (tgt := 25) ok_X12_keeper (mi 10 rfl) rfl (fun hn => absurd hn (by decide)) (fun _ => ?_)
  refine ex_iconst ok_X12_keeper (mi 11 rfl) ?_
  refine ex_goto (tgt := 26) ok_X12_keeper (mi 12 rfl) rfl ?_
  refine ex_iconst ok_X12_keeper (mi 14 rfl) ?_
  refine ex_iconst ok_X12_keeper (mi 15 rfl) ?_
  refine ex_callVr (As := [_, _, _]) (v := some (.int (nI 0))) (g1 := (ap x [(0, 0, 1200, 0, (nI 0))] h)) ok_X12_keeper (mi 16 rfl) rfl (m_ref111 (ws := []) hst f.1) rfl (fk f.1 0 rfl) rfl rfl (by decide) (by decide) (Nat.le_of_ble_eq_true rfl) (by decide) ?_
  refine ex_if_eq (tgt := 36) ok_X12_keeper (mi 17 rfl) rfl (fun _ => ?_) (fun hn => absurd (by decide) hn)
  refine ex_iload_n ok_X12_keeper (mi 20 rfl) rfl ?_
  refine ex_tblk (tgt := 101) ok_X12_keeper (mi 21 rfl) (by decide) (by decide) (by decide) (by decide) ?_
  refine ex_aload_n ok_X12_keeper (mi 37 rfl) rfl ?_
  refine ex_iload_n ok_X12_keeper (mi 38 rfl) rfl ?_
  refine ex_callVr (As := [_]) ok_X12_keeper (mi 39 rfl) rfl (m_cent1 hst (shq apq f.1) (ap_tG0 rfl f.2.2.2)) rfl (kq apq (fk f.1 0 rfl)) rfl rfl (by decide) (by decide) (Nat.le_of_ble_eq_true rfl) (by decide) ?_
  refine ex_iret ok_X12_keeper (mi 40 rfl) rfl ?_
  exact ⟨_, rfl, fun _ => by decide, apI (a := 0) rfl, kq apq (fk f.1 0 rfl), kp_ap rfl⟩
theorem d_keeper_1_4 {G : GE} (hst : (ge_l G).stackTraces = false) {x : Nat}  : MM G 2 0 0 my_X12_keeper x [.int (nI 1), .int (nI 4)] 0 ((-1)) := by
  intro h f
  refine ex_M_of ok_X12_keeper cw_X12_keeper rfl hst (Nat.le_of_ble_eq_true rfl) ?_
  refine ex_aload_n ok_X12_keeper (mi 0 rfl) rfl ?_
  refine ex_iload_n ok_X12_keeper (mi 1 rfl) rfl ?_
  refine ex_iconst ok_X12_keeper (mi 2 rfl) ?_
  refine ex_bipush ok_X12_keeper (mi 3 rfl) ?_
  refine ex_callSr (As := [_, _, _]) ok_X12_keeper (mi 4 rfl) rfl (m_in1 hst (by decide) (by decide)) rfl rfl rfl (by decide) (Nat.le_of_ble_eq_true rfl) (by decide) ?_
  refine ex_if_eq (tgt := 25) ok_X12_keeper (mi 5 rfl) rfl (fun hn => absurd hn (by decide)) (fun _ => ?_)
  refine ex_iload_n ok_X12_keeper (mi 6 rfl) rfl ?_
  refine ex_iconst ok_X12_keeper (mi 7 rfl) ?_
  refine ex_bipush ok_X12_keeper (mi 8 rfl) ?_
  refine ex_callSr (As := [_, _, _]) ok_X12_keeper (mi 9 rfl) rfl (m_in1 hst (by decide) (by decide)) rfl rfl rfl (by decide) (Nat.le_of_ble_eq_true rfl) (by decide) ?_
  refine ex_if_eq (tgt := 25) ok_X12_keeper (mi 10 rfl) rfl (fun hn => absurd hn (by decide)) (fun _ => ?_)
  refine ex_iconst ok_X12_keeper (mi 11 rfl) ?_
  refine ex_goto (tgt := 26) ok_X12_keeper (mi 12 rfl) rfl ?_
  refine ex_iconst ok_X12_keeper (mi 14 rfl) ?_
  refine ex_iconst ok_X12_keeper (mi 15 rfl) ?_
  refine ex_callVr (As := [_, _, _]) (v := some (.int (nI 0))) (g1 := (ap x [(0, 0, 1200, 0, (nI 0))] h)) ok_X12_keeper (mi 16 rfl) rfl (m_ref111 (ws := []) hst f.1) rfl (fk f.1 0 rfl) rfl rfl (by decide) (by decide) (Nat.le_of_ble_eq_true rfl) (by decide) ?_
  refine ex_if_eq (tgt := 36) ok_X12_keeper (mi 17 rfl) rfl (fun _ => ?_) (fun hn => absurd (by decide) hn)
  refine ex_iload_n ok_X12_keeper (mi 20 rfl) rfl ?_
  refine ex_tblk (tgt := 107) ok_X12_keeper (mi 21 rfl) (by decide) (by decide) (by decide) (by decide) ?_
  refine ex_aload_n ok_X12_keeper (mi 41 rfl) rfl ?_
  refine ex_getRx ok_X12_keeper (mi 42 rfl) rfl rfl (kq apq (fk f.1 0 rfl)) (rq apq (fr f.1 38 rfl)) (kq apq (fk f.1 39 rfl)) (by decide) ?_
  refine ex_iload_n ok_X12_keeper (mi 43 rfl) rfl ?_
  refine ex_ialdx ok_X12_keeper (mi 44 rfl) (Or.inl (kq apq (fk f.1 39 rfl))) (nq apq (fn f.1 39 rfl)) (pk_in 1 9 (by decide)) (apA0 (j := 1) rfl (fe f.2.2.1 83 rfl)) ?_
  refine ex_iret ok_X12_keeper (mi 45 rfl) rfl ?_
  exact ⟨_, rfl, fun _ => by decide, apI (a := 0) rfl, kq apq (fk f.1 0 rfl), kp_ap rfl⟩
theorem d_keeper_1_5 {G : GE} (hst : (ge_l G).stackTraces = false) {x : Nat}  : MM G 2 0 0 my_X12_keeper x [.int (nI 1), .int (nI 5)] 0 ((-1)) := by
  intro h f
  refine ex_M_of ok_X12_keeper cw_X12_keeper rfl hst (Nat.le_of_ble_eq_true rfl) ?_
  refine ex_aload_n ok_X12_keeper (mi 0 rfl) rfl ?_
  refine ex_iload_n ok_X12_keeper (mi 1 rfl) rfl ?_
  refine ex_iconst ok_X12_keeper (mi 2 rfl) ?_
  refine ex_bipush ok_X12_keeper (mi 3 rfl) ?_
  refine ex_callSr (As := [_, _, _]) ok_X12_keeper (mi 4 rfl) rfl (m_in1 hst (by decide) (by decide)) rfl rfl rfl (by decide) (Nat.le_of_ble_eq_true rfl) (by decide) ?_
  refine ex_if_eq (tgt := 25) ok_X12_keeper (mi 5 rfl) rfl (fun hn => absurd hn (by decide)) (fun _ => ?_)
  refine ex_iload_n ok_X12_keeper (mi 6 rfl) rfl ?_
  refine ex_iconst ok_X12_keeper (mi 7 rfl) ?_
  refine ex_bipush ok_X12_keeper (mi 8 rfl) ?_
  refine ex_callSr (As := [_, _, _]) ok_X12_keeper (mi 9 rfl) rfl (m_in1 hst (by decide) (by decide)) rfl rfl rfl (by decide) (Nat.le_of_ble_eq_true rfl) (by decide) ?_
  refine ex_if_eq (tgt := 25) ok_X12_keeper (mi 10 rfl) rfl (fun hn => absurd hn (by decide)) (fun _ => ?_)
  refine ex_iconst ok_X12_keeper (mi 11 rfl) ?_
  refine ex_goto (tgt := 26) ok_X12_keeper (mi 12 rfl) rfl ?_
  refine ex_iconst ok_X12_keeper (mi 14 rfl) ?_
  refine ex_iconst ok_X12_keeper (mi 15 rfl) ?_
  refine ex_callVr (As := [_, _, _]) (v := some (.int (nI 0))) (g1 := (ap x [(0, 0, 1200, 0, (nI 0))] h)) ok_X12_keeper (mi 16 rfl) rfl (m_ref111 (ws := []) hst f.1) rfl (fk f.1 0 rfl) rfl rfl (by decide) (by decide) (Nat.le_of_ble_eq_true rfl) (by decide) ?_
  refine ex_if_eq (tgt := 36) ok_X12_keeper (mi 17 rfl) rfl (fun _ => ?_) (fun hn => absurd (by decide) hn)
  refine ex_iload_n ok_X12_keeper (mi 20 rfl) rfl ?_
  refine ex_tblk (tgt := 114) ok_X12_keeper (mi 21 rfl) (by decide) (by decide) (by decide) (by decide) ?_
  refine ex_aload_n ok_X12_keeper (mi 46 rfl) rfl ?_
  refine ex_getRx ok_X12_keeper (mi 47 rfl) rfl rfl (kq apq (fk f.1 0 rfl)) (rq apq (fr f.1 39 rfl)) (kq apq (fk f.1 40 rfl)) (by decide) ?_
  refine ex_iload_n ok_X12_keeper (mi 48 rfl) rfl ?_
  refine ex_ialdx ok_X12_keeper (mi 49 rfl) (Or.inl (kq apq (fk f.1 40 rfl))) (nq apq (fn f.1 40 rfl)) (pk_in 1 9 (by decide)) (apA0 (j := 1) rfl (fe f.2.2.1 82 rfl)) ?_
  refine ex_iret ok_X12_keeper (mi 50 rfl) rfl ?_
  exact ⟨_, rfl, fun _ => by decide, apI (a := 0) rfl, kq apq (fk f.1 0 rfl), kp_ap rfl⟩
theorem d_keeper_1_6 {G : GE} (hst : (ge_l G).stackTraces = false) {x : Nat}  : MM G 2 0 0 my_X12_keeper x [.int (nI 1), .int (nI 6)] 0 (nI 0) := by
  intro h f
  refine ex_M_of ok_X12_keeper cw_X12_keeper rfl hst (Nat.le_of_ble_eq_true rfl) ?_
  refine ex_aload_n ok_X12_keeper (mi 0 rfl) rfl ?_
  refine ex_iload_n ok_X12_keeper (mi 1 rfl) rfl ?_
  refine ex_iconst ok_X12_keeper (mi 2 rfl) ?_
  refine ex_bipush ok_X12_keeper (mi 3 rfl) ?_
  refine ex_callSr (As := [_, _, _]) ok_X12_keeper (mi 4 rfl) rfl (m_in1 hst (by decide) (by decide)) rfl rfl rfl (by decide) (Nat.le_of_ble_eq_true rfl) (by decide) ?_
  refine ex_if_eq (tgt := 25) ok_X12_keeper (mi 5 rfl) rfl (fun hn => absurd hn (by decide)) (fun _ => ?_)
  refine ex_iload_n ok_X12_keeper (mi 6 rfl) rfl ?_
  refine ex_iconst ok_X12_keeper (mi 7 rfl) ?_
  refine ex_bipush ok_X12_keeper (mi 8 rfl) ?_
  refine ex_callSr (As := [_, _, _]) ok_X12_keeper (mi 9 rfl) rfl (m_in1 hst (by decide) (by decide)) rfl rfl rfl (by decide) (Nat.le_of_ble_eq_true rfl) (by decide) ?_
  refine ex_if_eq (tgt := 25) ok_X12_keeper (mi 10 rfl) rfl (fun hn => absurd hn (by decide)) (fun _ => ?_)
  refine ex_iconst ok_X12_keeper (mi 11 rfl) ?_
  refine ex_goto (tgt := 26) ok_X12_keeper (mi 12 rfl) rfl ?_
  refine ex_iconst ok_X12_keeper (mi 14 rfl) ?_
  refine ex_iconst ok_X12_keeper (mi 15 rfl) ?_
  refine ex_callVr (As := [_, _, _]) (v := some (.int (nI 0))) (g1 := (ap x [(0, 0, 1200, 0, (nI 0))] h)) ok_X12_keeper (mi 16 rfl) rfl (m_ref111 (ws := []) hst f.1) rfl (fk f.1 0 rfl) rfl rfl (by decide) (by decide) (Nat.le_of_ble_eq_true rfl) (by decide) ?_
  refine ex_if_eq (tgt := 36) ok_X12_keeper (mi 17 rfl) rfl (fun _ => ?_) (fun hn => absurd (by decide) hn)
  refine ex_iload_n ok_X12_keeper (mi 20 rfl) rfl ?_
  refine ex_tblk (tgt := 121) ok_X12_keeper (mi 21 rfl) (by decide) (by decide) (by decide) (by decide) ?_
  refine ex_aload_n ok_X12_keeper (mi 51 rfl) rfl ?_
  refine ex_getRx ok_X12_keeper (mi 52 rfl) rfl rfl (kq apq (fk f.1 0 rfl)) (rq apq (fr f.1 40 rfl)) (kq apq (fk f.1 41 rfl)) (by decide) ?_
  refine ex_iload_n ok_X12_keeper (mi 53 rfl) rfl ?_
  refine ex_ialdx ok_X12_keeper (mi 54 rfl) (Or.inl (kq apq (fk f.1 41 rfl))) (nq apq (fn f.1 41 rfl)) (pk_in 1 9 (by decide)) (apA0 (j := 1) rfl (fe f.2.2.1 81 rfl)) ?_
  refine ex_iret ok_X12_keeper (mi 55 rfl) rfl ?_
  exact ⟨_, rfl, fun _ => by decide, apI (a := 0) rfl, kq apq (fk f.1 0 rfl), kp_ap rfl⟩
theorem d_keeper_1_7 {G : GE} (hst : (ge_l G).stackTraces = false) {x : Nat}  : MM G 2 0 0 my_X12_keeper x [.int (nI 1), .int (nI 7)] 0 (nI 0) := by
  intro h f
  refine ex_M_of ok_X12_keeper cw_X12_keeper rfl hst (Nat.le_of_ble_eq_true rfl) ?_
  refine ex_aload_n ok_X12_keeper (mi 0 rfl) rfl ?_
  refine ex_iload_n ok_X12_keeper (mi 1 rfl) rfl ?_
  refine ex_iconst ok_X12_keeper (mi 2 rfl) ?_
  refine ex_bipush ok_X12_keeper (mi 3 rfl) ?_
  refine ex_callSr (As := [_, _, _]) ok_X12_keeper (mi 4 rfl) rfl (m_in1 hst (by decide) (by decide)) rfl rfl rfl (by decide) (Nat.le_of_ble_eq_true rfl) (by decide) ?_
  refine ex_if_eq (tgt := 25) ok_X12_keeper (mi 5 rfl) rfl (fun hn => absurd hn (by decide)) (fun _ => ?_)
  refine ex_iload_n ok_X12_keeper (mi 6 rfl) rfl ?_
  refine ex_iconst ok_X12_keeper (mi 7 rfl) ?_
  refine ex_bipush ok_X12_keeper (mi 8 rfl) ?_
  refine ex_callSr (As := [_, _, _]) ok_X12_keeper (mi 9 rfl) rfl (m_in1 hst (by decide) (by decide)) rfl rfl rfl (by decide) (Nat.le_of_ble_eq_true rfl) (by decide) ?_
  refine ex_if_eq (tgt := 25) ok_X12_keeper (mi 10 rfl) rfl (fun hn => absurd hn (by decide)) (fun _ => ?_)
  refine ex_iconst ok_X12_keeper (mi 11 rfl) ?_
  refine ex_goto (tgt := 26) ok_X12_keeper (mi 12 rfl) rfl ?_
  refine ex_iconst ok_X12_keeper (mi 14 rfl) ?_
  refine ex_iconst ok_X12_keeper (mi 15 rfl) ?_
  refine ex_callVr (As := [_, _, _]) (v := some (.int (nI 0))) (g1 := (ap x [(0, 0, 1200, 0, (nI 0))] h)) ok_X12_keeper (mi 16 rfl) rfl (m_ref111 (ws := []) hst f.1) rfl (fk f.1 0 rfl) rfl rfl (by decide) (by decide) (Nat.le_of_ble_eq_true rfl) (by decide) ?_
  refine ex_if_eq (tgt := 36) ok_X12_keeper (mi 17 rfl) rfl (fun _ => ?_) (fun hn => absurd (by decide) hn)
  refine ex_iload_n ok_X12_keeper (mi 20 rfl) rfl ?_
  refine ex_tblk (tgt := 128) ok_X12_keeper (mi 21 rfl) (by decide) (by decide) (by decide) (by decide) ?_
  refine ex_aload_n ok_X12_keeper (mi 56 rfl) rfl ?_
  refine ex_getRx ok_X12_keeper (mi 57 rfl) rfl rfl (kq apq (fk f.1 0 rfl)) (rq apq (fr f.1 41 rfl)) (kq apq (fk f.1 42 rfl)) (by decide) ?_
  refine ex_iload_n ok_X12_keeper (mi 58 rfl) rfl ?_
  refine ex_ialdx ok_X12_keeper (mi 59 rfl) (Or.inl (kq apq (fk f.1 42 rfl))) (nq apq (fn f.1 42 rfl)) (pk_in 1 9 (by decide)) (apA0 (j := 1) rfl (fe f.2.2.1 80 rfl)) ?_
  refine ex_iret ok_X12_keeper (mi 60 rfl) rfl ?_
  exact ⟨_, rfl, fun _ => by decide, apI (a := 0) rfl, kq apq (fk f.1 0 rfl), kp_ap rfl⟩
