theorem d_entry_1 {G : GE} (hst : (ge_l G).stackTraces = false) {x : Nat} {p1 p2 : Int32} : MM G 2 0 0 my_X12_entry x [.int (nI 1), .int p1, .int p2] 1 (nI 0) := by
  intro h f
  refine ex_M_of ok_X12_entry cw_X12_entry rfl hst (Nat.le_of_ble_eq_true rfl) ?_
  refine ex_iload_n ok_X12_entry (mi 0 rfl) rfl ?_
  refine ex_iconst ok_X12_entry (mi 1 rfl) ?_
  refine ex_bipush ok_X12_entry (mi 2 rfl) ?_
  refine ex_callSr (As := [_, _, _]) ok_X12_entry (mi 3 rfl) rfl (m_in1 hst (by decide) (by decide)) rfl rfl rfl (by decide) (Nat.le_of_ble_eq_true rfl) (by decide) ?_
  refine ex_istore ok_X12_entry (mi 4 rfl) ?_
  refine ex_aload_n ok_X12_entry (mi 5 rfl) rfl ?_
  refine ex_iload ok_X12_entry (mi 6 rfl) rfl ?_
  refine ex_if_eq (tgt := 34) ok_X12_entry (mi 7 rfl) rfl (fun hn => absurd hn (by decide)) (fun _ => ?_)
  refine ex_iload_n ok_X12_entry (mi 8 rfl) rfl ?_
  refine ex_iconst ok_X12_entry (mi 9 rfl) ?_
  refine ex_aload_n ok_X12_entry (mi 10 rfl) rfl ?_
  refine ex_iload_n ok_X12_entry (mi 11 rfl) rfl ?_
  refine ex_callVr (As := [_]) ok_X12_entry (mi 12 rfl) rfl (m_cent1 hst f.1 f.2.2.2) rfl (fk f.1 0 rfl) rfl rfl (by decide) (by decide) (Nat.le_of_ble_eq_true rfl) (by decide) ?_
  refine ex_iconst ok_X12_entry (mi 13 rfl) ?_
  refine ex_isub ok_X12_entry (mi 14 rfl) ?_
  refine ex_top (w := (-1)) (by decide) ?_
  refine ex_callSr (As := [_, _, _]) ok_X12_entry (mi 15 rfl) rfl (m_in0 hst (fun k => absurd (Int32.le_trans k.1 k.2) (by decide))) rfl rfl rfl (by decide) (Nat.le_of_ble_eq_true rfl) (by decide) ?_
  refine ex_if_eq (tgt := 34) ok_X12_entry (mi 16 rfl) rfl (fun _ => ?_) (fun hn => absurd (by decide) hn)
  refine ex_iconst ok_X12_entry (mi 19 rfl) ?_
  refine ex_iconst ok_X12_entry (mi 20 rfl) ?_
  refine ex_iconst ok_X12_entry (mi 21 rfl) ?_
  refine ex_callVr (As := [_, _, _]) (v := some (.int (nI 1))) (g1 := (ap x [(0, 0, 1200, 0, (nI 1))] h)) ok_X12_entry (mi 22 rfl) rfl (m_ref011 (ws := []) hst f.1) rfl (fk f.1 0 rfl) rfl rfl (by decide) (by decide) (Nat.le_of_ble_eq_true rfl) (by decide) ?_
  refine ex_if_eq (tgt := 45) ok_X12_entry (mi 23 rfl) rfl (fun hn => absurd hn (by decide)) (fun _ => ?_)
  refine ex_iconst ok_X12_entry (mi 24 rfl) ?_
  refine ex_iret ok_X12_entry (mi 25 rfl) rfl ?_
  exact ⟨_, rfl, fun e => absurd e (by decide), apI (a := 0) rfl, kq apq (fk f.1 0 rfl), kp_ap rfl⟩
theorem d_keeper_2_0 {G : GE} (hst : (ge_l G).stackTraces = false) {x : Nat}  : MM G 2 0 0 my_X12_keeper x [.int (nI 2), .int (nI 0)] 0 (nI 2) := by
  intro h f
  refine ex_M_of ok_X12_keeper cw_X12_keeper rfl hst (Nat.le_of_ble_eq_true rfl) ?_
  refine ex_aload_n ok_X12_keeper (mi 0 rfl) rfl ?_
  refine ex_iload_n ok_X12_keeper (mi 1 rfl) rfl ?_
  refine ex_iconst ok_X12_keeper (mi 2 rfl) ?_
  refine ex_bipush ok_X12_keeper (mi 3 rfl) ?_
  refine ex_callSr (As := [_, _, _]) ok_X12_keeper (mi 4 rfl) rfl (m_in1 hst (by decide) (by decide)) rfl rfl rfl (by decide) (Nat.le_of_ble_eq_true rfl) (by decide) ?_
  refine ex_if_eq (tgt := 25) ok_X12_keeper (mi 5 rfl) rfl (fun hn => absurd hn (by decide)) (fun _ => ?_)
  refine ex_iload_n ok_X12_keeper (mi 6 rfl) rfl ?_
  refine ex_iconst ok_X12_keeper (mi 7 rfl) ?_
  refine ex_bipush ok_X12_keeper (mi 8 rfl) ?_
  refine ex_callSr (As := [_, _, _]) ok_X12_keeper (mi 9 rfl) rfl (m_in1 hst (by decide) (by decide)) rfl rfl rfl (by decide) (Nat.le_of_ble_eq_true rfl) (by decide) ?_
  refine ex_if_eq (tgt := 25) ok_X12_keeper (mi 10 rfl) rfl (fun hn => absurd hn (by decide)) (fun _ => ?_)
  refine ex_iconst ok_X12_keeper (mi 11 rfl) ?_
  refine ex_goto (tgt := 26) ok_X12_keeper (mi 12 rfl) rfl ?_
  refine ex_iconst ok_X12_keeper (mi 14 rfl) ?_
  refine ex_iconst ok_X12_keeper (mi 15 rfl) ?_
  refine ex_callVr (As := [_, _, _]) (v := some (.int (nI 0))) (g1 := (ap x [(0, 0, 1200, 0, (nI 0))] h)) ok_X12_keeper (mi 16 rfl) rfl (m_ref111 (ws := []) hst f.1) rfl (fk f.1 0 rfl) rfl rfl (by decide) (by decide) (Nat.le_of_ble_eq_true rfl) (by decide) ?_
  refine ex_if_eq (tgt := 36) ok_X12_keeper (mi 17 rfl) rfl (fun _ => ?_) (fun hn => absurd (by decide) hn)
  refine ex_iload_n ok_X12_keeper (mi 20 rfl) rfl ?_
  refine ex_tblk (tgt := 80) ok_X12_keeper (mi 21 rfl) (by decide) (by decide) (by decide) (by decide) ?_
  refine ex_aload_n ok_X12_keeper (mi 22 rfl) rfl ?_
  refine ex_getRx ok_X12_keeper (mi 23 rfl) rfl rfl (kq apq (fk f.1 0 rfl)) (rq apq (fr f.1 33 rfl)) (kq apq (fk f.1 34 rfl)) (by decide) ?_
  refine ex_iload_n ok_X12_keeper (mi 24 rfl) rfl ?_
  refine ex_ialdx ok_X12_keeper (mi 25 rfl) (Or.inl (kq apq (fk f.1 34 rfl))) (nq apq (fn f.1 34 rfl)) (pk_in 2 9 (by decide)) (apA0 (j := 2) rfl (fe f.2.2.1 79 rfl)) ?_
  refine ex_iret ok_X12_keeper (mi 26 rfl) rfl ?_
  exact ⟨_, rfl, fun _ => by decide, apI (a := 0) rfl, kq apq (fk f.1 0 rfl), kp_ap rfl⟩
theorem d_keeper_2_1 {G : GE} (hst : (ge_l G).stackTraces = false) {x : Nat}  : MM G 2 0 0 my_X12_keeper x [.int (nI 2), .int (nI 1)] 0 (nI 0) := by
  intro h f
  refine ex_M_of ok_X12_keeper cw_X12_keeper rfl hst (Nat.le_of_ble_eq_true rfl) ?_
  refine ex_aload_n ok_X12_keeper (mi 0 rfl) rfl ?_
  refine ex_iload_n ok_X12_keeper (mi 1 rfl) rfl ?_
  refine ex_iconst ok_X12_keeper (mi 2 rfl) ?_
  refine ex_bipush ok_X12_keeper (mi 3 rfl) ?_
  refine ex_callSr (As := [_, _, _]) ok_X12_keeper (mi 4 rfl) rfl (m_in1 hst (by decide) (by decide)) rfl rfl rfl (by decide) (Nat.le_of_ble_eq_true rfl) (by decide) ?_
  refine ex_if_eq (tgt := 25) ok_X12_keeper (mi 5 rfl) rfl (fun hn => absurd hn (by decide)) (fun _ => ?_)
  refine ex_iload_n ok_X12_keeper (mi 6 rfl) rfl ?_
  refine ex_iconst ok_X12_keeper (mi 7 rfl) ?_
  refine ex_bipush ok_X12_keeper (mi 8 rfl) ?_
  refine ex_callSr (As := [_, _, _]) ok_X12_keeper (mi 9 rfl) rfl (m_in1 hst (by decide) (by decide)) rfl rfl rfl (by decide) (Nat.le_of_ble_eq_true rfl) (by decide) ?_
  refine ex_if_eq (tgt := 25) ok_X12_keeper (mi 10 rfl) rfl (fun hn => absurd hn (by decide)) (fun _ => ?_)
  refine ex_iconst ok_X12_keeper (mi 11 rfl) ?_
  refine ex_goto (tgt := 26) ok_X12_keeper (mi 12 rfl) rfl ?_
  refine ex_iconst ok_X12_keeper (mi 14 rfl) ?_
  refine ex_iconst ok_X12_keeper (mi 15 rfl) ?_
  refine ex_callVr (As := [_, _, _]) (v := some (.int (nI 0))) (g1 := (ap x [(0, 0, 1200, 0, (nI 0))] h)) ok_X12_keeper (mi 16 rfl) rfl (m_ref111 (ws := []) hst f.1) rfl (fk f.1 0 rfl) rfl rfl (by decide) (by decide) (Nat.le_of_ble_eq_true rfl) (by decide) ?_
  refine ex_if_eq (tgt := 36) ok_X12_keeper (mi 17 rfl) rfl (fun _ => ?_) (fun hn => absurd (by decide) hn)
  refine ex_iload_n ok_X12_keeper (mi 20 rfl) rfl ?_
  refine ex_tblk (tgt := 87) ok_X12_keeper (mi 21 rfl) (by decide) (by decide) (by decide) (by decide) ?_
  refine ex_aload_n ok_X12_keeper (mi 27 rfl) rfl ?_
  refine ex_getRx ok_X12_keeper (mi 28 rfl) rfl rfl (kq apq (fk f.1 0 rfl)) (rq apq (fr f.1 34 rfl)) (kq apq (fk f.1 35 rfl)) (by decide) ?_
  refine ex_iload_n ok_X12_keeper (mi 29 rfl) rfl ?_
  refine ex_ialdx ok_X12_keeper (mi 30 rfl) (Or.inl (kq apq (fk f.1 35 rfl))) (nq apq (fn f.1 35 rfl)) (pk_in 2 9 (by decide)) (apA0 (j := 2) rfl (fe f.2.2.1 78 rfl)) ?_
  refine ex_iret ok_X12_keeper (mi 31 rfl) rfl ?_
  exact ⟨_, rfl, fun _ => by decide, apI (a := 0) rfl, kq apq (fk f.1 0 rfl), kp_ap rfl⟩
theorem d_keeper_2_2 {G : GE} (hst : (ge_l G).stackTraces = false) {x : Nat}  : MM G 2 0 0 my_X12_keeper x [.int (nI 2), .int (nI 2)] 0 (nI 0) := by
  intro h f
  refine ex_M_of ok_X12_keeper cw_X12_keeper rfl hst (Nat.le_of_ble_eq_true rfl) ?_
  refine ex_aload_n ok_X12_keeper (mi 0 rfl) rfl ?_
  refine ex_iload_n ok_X12_keeper (mi 1 rfl) rfl ?_
  refine ex_iconst ok_X12_keeper (mi 2 rfl) ?_
  refine ex_bipush ok_X12_keeper (mi 3 rfl) ?_
  refine ex_callSr (As := [_, _, _]) ok_X12_keeper (mi 4 rfl) rfl (m_in1 hst (by decide) (by decide)) rfl rfl rfl (by decide) (Nat.le_of_ble_eq_true rfl) (by decide) ?_
  refine ex_if_eq (tgt := 25) ok_X12_keeper (mi 5 rfl) rfl (fun hn => absurd hn (by decide)) (fun _ => ?_)
  refine ex_iload_n ok_X12_keeper (mi 6 rfl) rfl ?_
  refine ex_iconst ok_X12_keeper (mi 7 rfl) ?_
  refine ex_bipush ok_X12_keeper (mi 8 rfl) ?_
  refine ex_callSr (As := [_, _, _]) ok_X12_keeper (mi 9 rfl) rfl (m_in1 hst (by decide) (by decide)) rfl rfl rfl (by decide) (Nat.le_of_ble_eq_true rfl) (by decide) ?_
  refine ex_if_eq (tgt := 25) ok_X12_keeper (mi 10 rfl) rfl (fun hn => absurd hn (by decide)) (fun _ => ?_)
  refine ex_iconst ok_X12_keeper (mi 11 rfl) ?_
  refine ex_goto (tgt := 26) ok_X12_keeper (mi 12 rfl) rfl ?_
  refine ex_iconst ok_X12_keeper (mi 14 rfl) ?_
  refine ex_iconst ok_X12_keeper (mi 15 rfl) ?_
  refine ex_callVr (As := [_, _, _]) (v := some (.int (nI 0))) (g1 := (ap x [(0, 0, 1200, 0, (nI 0))] h)) ok_X12_keeper (mi 16 rfl) rfl (m_ref111 (ws := []) hst f.1) rfl (fk f.1 0 rfl) rfl rfl (by decide) (by decide) (Nat.le_of_ble_eq_true rfl) (by decide) ?_
  refine ex_if_eq (tgt := 36) ok_X12_keeper (mi 17 rfl) rfl (fun _ => ?_) (fun hn => absurd (by decide) hn)
  refine ex_iload_n ok_X12_keeper (mi 20 rfl) rfl ?_
  refine ex_tblk (tgt := 94) ok_X12_keeper (mi 21 rfl) (by decide) (by decide) (by decide) (by decide) ?_
  refine ex_aload_n ok_X12_keeper (mi 32 rfl) rfl ?_
  refine ex_getRx ok_X12_keeper (mi 33 rfl) rfl rfl (kq apq (fk f.1 0 rfl)) (rq apq (fr f.1 36 rfl)) (kq apq (fk f.1 37 rfl)) (by decide) ?_
  refine ex_iload_n ok_X12_keeper (mi 34 rfl) rfl ?_
  refine ex_ialdx ok_X12_keeper (mi 35 rfl) (Or.inl (kq apq (fk f.1 37 rfl))) (nq apq (fn f.1 37 rfl)) (pk_in 2 9 (by decide)) (apA0 (j := 2) rfl (fe f.2.2.1 76 rfl)) ?_
  refine ex_iret ok_X12_keeper (mi 36 rfl) rfl ?_
  exact ⟨_, rfl, fun _ => by decide, apI (a := 0) rfl, kq apq (fk f.1 0 rfl), kp_ap rfl⟩
theorem d_keeper_2_3 {G : GE} (hst : (ge_l G).stackTraces = false) {x : Nat}  : MM G 2 0 0 my_X12_keeper x [.int (nI 2), .int (nI 3)] 0 (nI 0) := by
  intro h f
  refine ex_M_of ok_X12_keeper cw_X12_keeper rfl hst (Nat.le_of_ble_eq_true rfl) ?_
  refine ex_aload_n ok_X12_keeper (mi 0 rfl) rfl ?_
  refine ex_iload_n ok_X12_keeper (mi 1 rfl) rfl ?_
  refine ex_iconst ok_X12_keeper (mi 2 rfl) ?_
  refine ex_bipush ok_X12_keeper (mi 3 rfl) ?_
  refine ex_callSr (As := [_, _, _]) ok_X12_keeper (mi 4 rfl) rfl (m_in1 hst (by decide) (by decide)) rfl rfl rfl (by decide) (Nat.le_of_ble_eq_true rfl) (by decide) ?_
  refine ex_if_eq (tgt := 25) ok_X12_keeper (mi 5 rfl) rfl (fun hn => absurd hn (by decide)) (fun _ => ?_)
  refine ex_iload_n ok_X12_keeper (mi 6 rfl) rfl ?_
  refine ex_iconst ok_X12_keeper (mi 7 rfl) ?_
  refine ex_bipush ok_X12_keeper (mi 8 rfl) ?_
  refine ex_callSr (As := [_, _, _]) ok_X12_keeper (mi 9 rfl) rfl (m_in1 hst (by decide) (by decide)) rfl rfl rfl (by decide) (Nat.le_of_ble_eq_true rfl) (by decide) ?_
  refine ex_if_eq (tgt := 25) ok_X12_keeper (mi 10 rfl) rfl (fun hn => absurd hn (by decide)) (fun _ => ?_)
  refine ex_iconst ok_X12_keeper (mi 11 rfl) ?_
  refine ex_goto (tgt := 26) ok_X12_keeper (mi 12 rfl) rfl ?_
  refine ex_iconst ok_X12_keeper (mi 14 rfl) ?_
  refine ex_iconst ok_X12_keeper (mi 15 rfl) ?_
  refine ex_callVr (As := [_, _, _]) (v := some (.int (nI 0))) (g1 := (ap x [(0, 0, 1200, 0, (nI 0))] h)) ok_X12_keeper (mi 16 rfl) rfl (m_ref111 (ws := []) hst f.1) rfl (fk f.1 0 rfl) rfl rfl (by decide) (by decide) (Nat.le_of_ble_eq_true rfl) (by decide) ?_
  refine ex_if_eq (tgt := 36) ok_X12_keeper (mi 17 rfl) rfl (fun _ => ?_) (fun hn => absurd (by decide) hn)
  refine ex_iload_n ok_X12_keeper (mi 20 rfl) rfl ?_
  refine ex_tblk (tgt := 101) ok_X12_keeper (mi 21 rfl) (by decide) (by decide) (by decide) (by decide) ?_
  refine ex_aload_n ok_X12_keeper (mi 37 rfl) rfl ?_
  refine ex_iload_n ok_X12_keeper (mi 38 rfl) rfl ?_
  refine ex_callVr (As := [_]) ok_X12_keeper (mi 39 rfl) rfl (m_cent2 hst (shq apq f.1) (ap_tG0 rfl f.2.2.2)) rfl (kq apq (fk f.1 0 rfl)) rfl rfl (by decide) (by decide) (Nat.le_of_ble_eq_true rfl) (by decide) ?_
  refine ex_iret ok_X12_keeper (mi 40 rfl) rfl ?_
  exact ⟨_, rfl, fun _ => by decide, apI (a := 0) rfl, kq apq (fk f.1 0 rfl), kp_ap rfl⟩
theorem d_keeper_2_4 {G : GE} (hst : (ge_l G).stackTraces = false) {x : Nat}  : MM G 2 0 0 my_X12_keeper x [.int (nI 2), .int (nI 4)] 0 ((-1)) := by
  intro h f
  refine ex_M_of ok_X12_keeper cw_X12_keeper rfl hst (Nat.le_of_ble_eq_true rfl) ?_
  refine ex_aload_n ok_X12_keeper (mi 0 rfl) rfl ?_
  refine ex_iload_n ok_X12_keeper (mi 1 rfl) rfl ?_
  refine ex_iconst ok_X12_keeper (mi 2 rfl) ?_
  refine ex_bipush ok_X12_keeper (mi 3 rfl) ?_
  refine ex_callSr (As := [_, _, _]) ok_X12_keeper (mi 4 rfl) rfl (m_in1 hst (by decide) (by decide)) rfl rfl rfl (by decide) (Nat.le_of_ble_eq_true rfl) (by decide) ?_
  refine ex_if_eq (tgt := 25) ok_X12_keeper (mi 5 rfl) rfl (fun hn => absurd hn (by decide)) (fun _ => ?_)
  refine ex_iload_n ok_X12_keeper (mi 6 rfl) rfl ?_
  refine ex_iconst ok_X12_keeper (mi 7 rfl) ?_
  refine ex_bipush ok_X12_keeper (mi 8 rfl) ?_
  refine ex_callSr (As := [_, _, _]) ok_X12_keeper (mi 9 rfl) rfl (m_in1 hst (by decide) (by decide)) rfl rfl rfl (by decide) (Nat.le_of_ble_eq_true rfl) (by decide) ?_
  refine ex_if_eq (tgt := 25) ok_X12_keeper (mi 10 rfl) rfl (fun hn => absurd hn (by decide)) (fun _ => ?_)
  refine ex_iconst ok_X12_keeper (mi 11 rfl) ?_
  refine ex_goto (tgt := 26) ok_X12_keeper (mi 12 rfl) rfl ?_
  refine ex_iconst ok_X12_keeper (mi 14 rfl) ?_
  refine ex_iconst ok_X12_keeper (mi 15 rfl) ?_
  refine ex_callVr (As := [_, _, _]) (v := some (.int (nI 0))) (g1 := (ap x [(0, 0, 1200, 0, (nI 0))] h)) ok_X12_keeper (mi 16 rfl) rfl (m_ref111 (ws := []) hst f.1) rfl (fk f.1 0 rfl) rfl rfl (by decide) (by decide) (Nat.le_of_ble_eq_true rfl) (by decide) ?_
  refine ex_if_eq (tgt := 36) ok_X12_keeper (mi 17 rfl) rfl (fun _ => ?_) (fun hn => absurd (by decide) hn)
  refine ex_iload_n ok_X12_keeper (mi 20 rfl) rfl ?_
  refine ex_tblk (tgt := 107) ok_X12_keeper (mi 21 rfl) (by decide) (by decide) (by decide) (by decide) ?_
  refine ex_aload_n ok_X12_keeper (mi 41 rfl) rfl ?_
  refine ex_getRx ok_X12_keeper (mi 42 rfl) rfl rfl (kq apq (fk f.1 0 rfl)) (rq apq (fr f.1 38 rfl)) (kq apq (fk f.1 39 rfl)) (by decide) ?_
  refine ex_iload_n ok_X12_keeper (mi 43 rfl) rfl ?_
  refine ex_ialdx ok_X12_keeper (mi 44 rfl) (Or.inl (kq apq (fk f.1 39 rfl))) (nq apq (fn f.1 39 rfl)) (pk_in 2 9 (by decide)) (apA0 (j := 2) rfl (fe f.2.2.1 75 rfl)) ?_
  refine ex_iret ok_X12_keeper (mi 45 rfl) rfl ?_
  exact ⟨_, rfl, fun _ => by decide, apI (a := 0) rfl, kq apq (fk f.1 0 rfl), kp_ap rfl⟩
theorem d_keeper_2_5 {G : GE} (hst : (ge_l G).stackTraces = false) {x : Nat}  : MM G 2 0 0 my_X12_keeper x [.int (nI 2), .int (nI 5)] 0 ((-1)) := by
  intro h f
  refine ex_M_of ok_X12_keeper cw_X12_keeper rfl hst (Nat.le_of_ble_eq_true rfl) ?_
  refine ex_aload_n ok_X12_keeper (mi 0 rfl) rfl ?_
  refine ex_iload_n ok_X12_keeper (mi 1 rfl) rfl ?_
  refine ex_iconst ok_X12_keeper (mi 2 rfl) ?_
  refine ex_bipush ok_X12_keeper (mi 3 rfl) ?_
  refine ex_callSr (As := [_, _, _]) ok_X12_keeper (mi 4 rfl) rfl (m_in1 hst (by decide) (by decide)) rfl rfl rfl (by decide) (Nat.le_of_ble_eq_true rfl) (by decide) ?_
  refine ex_if_eq (tgt := 25) ok_X12_keeper (mi 5 rfl) rfl (fun hn => absurd hn (by decide)) (fun _ => ?_)
  refine ex_iload_n ok_X12_keeper (mi 6 rfl) rfl ?_
  refine ex_iconst ok_X12_keeper (mi 7 rfl) ?_
  refine ex_bipush ok_X12_keeper (mi 8 rfl) ?_
  refine ex_callSr (As := [_, _, _]) ok_X12_keeper (mi 9 rfl) rfl (m_in1 hst (by decide) (by decide)) rfl rfl rfl (by decide) (Nat.le_of_ble_eq_true rfl) (by decide) ?_
  refine ex_if_eq (tgt := 25) ok_X12_keeper (mi 10 rfl) rfl (fun hn => absurd hn (by decide)) (fun _ => ?_)
  refine ex_iconst ok_X12_keeper (mi 11 rfl) ?_
  refine ex_goto (tgt := 26) ok_X12_keeper (mi 12 rfl) rfl ?_
  refine ex_iconst ok_X12_keeper (mi 14 rfl) ?_
  refine ex_iconst ok_X12_keeper (mi 15 rfl) ?_
  refine ex_callVr (As := [_, _, _]) (v := some (.int (nI 0))) (g1 := (ap x [(0, 0, 1200, 0, (nI 0))] h)) ok_X12_keeper (mi 16 rfl) rfl (m_ref111 (ws := []) hst f.1) rfl (fk f.1 0 rfl) rfl rfl (by decide) (by decide) (Nat.le_of_ble_eq_true rfl) (by decide) ?_
  refine ex_if_eq (tgt := 36) ok_X12_keeper (mi 17 rfl) rfl (fun _ => ?_) (fun hn => absurd (by decide) hn)
  refine ex_iload_n ok_X12_keeper (mi 20 rfl) rfl ?_
  refine ex_tblk (tgt := 114) ok_X12_keeper (mi 21 rfl) (by decide) (by decide) (by decide) (by decide) ?_
  refine ex_aload_n ok_X12_keeper (mi 46 rfl) rfl ?_
  refine ex_getRx ok_X12_keeper (mi 47 rfl) rfl rfl (kq apq (fk f.1 0 rfl)) (rq apq (fr f.1 39 rfl)) (kq apq (fk f.1 40 rfl)) (by decide) ?_
  refine ex_iload_n ok_X12_keeper (mi 48 rfl) rfl ?_
  refine ex_ialdx ok_X12_keeper (mi 49 rfl) (Or.inl (kq apq (fk f.1 40 rfl))) (nq apq (fn f.1 40 rfl)) (pk_in 2 9 (by decide)) (apA0 (j := 2) rfl (fe f.2.2.1 74 rfl)) ?_
  refine ex_iret ok_X12_keeper (mi 50 rfl) rfl ?_
  exact ⟨_, rfl, fun _ => by decide, apI (a := 0) rfl, kq apq (fk f.1 0 rfl), kp_ap rfl⟩
theorem d_keeper_2_6 {G : GE} (hst : (ge_l G).stackTraces = false) {x : Nat}  : MM G 2 0 0 my_X12_keeper x [.int (nI 2), .int (nI 6)] 0 (nI 0) := by
  intro h f
  refine ex_M_of ok_X12_keeper cw_X12_keeper rfl hst (Nat.le_of_ble_eq_true rfl) ?_
  refine ex_aload_n ok_X12_keeper (mi 0 rfl) rfl ?_
  refine ex_iload_n ok_X12_keeper (mi 1 rfl) rfl ?_
  refine ex_iconst ok_X12_keeper (mi 2 rfl) ?_
  refine ex_bipush ok_X12_keeper (mi 3 rfl) ?_
  refine ex_callSr (As := [_, _, _]) ok_X12_keeper (mi 4 rfl) rfl (m_in1 hst (by decide) (by decide)) rfl rfl rfl (by decide) (Nat.le_of_ble_eq_true rfl) (by decide) ?_
  refine ex_if_eq (tgt := 25) ok_X12_keeper (mi 5 rfl) rfl (fun hn => absurd hn (by decide)) (fun _ => ?_)
  refine ex_iload_n ok_X12_keeper (mi 6 rfl) rfl ?_
  refine ex_iconst ok_X12_keeper (mi 7 rfl) ?_
  refine ex_bipush ok_X12_keeper (mi 8 rfl) ?_
  refine ex_callSr (As := [_, _, _]) ok_X12_keeper (mi 9 rfl) rfl (m_in1 hst (by decide) (by decide)) rfl rfl rfl (by decide) (Nat.le_of_ble_eq_true rfl) (by decide) ?_
  refine ex_if_eq (tgt := 25) ok_X12_keeper (mi 10 rfl) rfl (fun hn => absurd hn (by decide)) (fun _ => ?_)
  refine ex_iconst ok_X12_keeper (mi 11 rfl) ?_
  refine ex_goto (tgt := 26) ok_X12_keeper (mi 12 rfl) rfl ?_
  refine ex_iconst ok_X12_keeper (mi 14 rfl) ?_
  refine ex_iconst ok_X12_keeper (mi 15 rfl) ?_
  refine ex_callVr (As := [_, _, _]) (v := some (.int (nI 0))) (g1 := (ap x [(0, 0, 1200, 0, (nI 0))] h)) ok_X12_keeper (mi 16 rfl) rfl (m_ref111 (ws := []) hst f.1) rfl (fk f.1 0 rfl) rfl rfl (by decide) (by decide) (Nat.le_of_ble_eq_true rfl) (by decide) ?_
  refine ex_if_eq (tgt := 36) ok_X12_keeper (mi 17 rfl) rfl (fun _ => ?_) (fun hn => absurd (by decide) hn)
  refine ex_iload_n ok_X12_keeper (mi 20 rfl) rfl ?_
  refine ex_tblk (tgt := 121) ok_X12_keeper (mi 21 rfl) (by decide) (by decide) (by decide) (by decide) ?_
  refine ex_aload_n ok_X12_keeper (mi 51 rfl) rfl ?_
  refine ex_getRx ok_X12_keeper (mi 52 rfl) rfl rfl (kq apq (fk f.1 0 rfl)) (rq apq (fr f.1 40 rfl)) (kq apq (fk f.1 41 rfl)) (by decide) ?_
  refine ex_iload_n ok_X12_keeper (mi 53 rfl) rfl ?_
  refine ex_ialdx ok_X12_keeper (mi 54 rfl) (Or.inl (kq apq (fk f.1 41 rfl))) (nq apq (fn f.1 41 rfl)) (pk_in 2 9 (by decide)) (apA0 (j := 2) rfl (fe f.2.2.1 73 rfl)) ?_
  refine ex_iret ok_X12_keeper (mi 55 rfl) rfl ?_
  exact ⟨_, rfl, fun _ => by decide, apI (a := 0) rfl, kq apq (fk f.1 0 rfl), kp_ap rfl⟩
theorem d_keeper_2_7 {G : GE} (hst : (ge_l G).stackTraces = false) {x : Nat}  : MM G 2 0 0 my_X12_keeper x [.int (nI 2), .int (nI 7)] 0 (nI 0) := by
  intro h f
  refine ex_M_of ok_X12_keeper cw_X12_keeper rfl hst (Nat.le_of_ble_eq_true rfl) ?_
  refine ex_aload_n ok_X12_keeper (mi 0 rfl) rfl ?_
  refine ex_iload_n ok_X12_keeper (mi 1 rfl) rfl ?_
  refine ex_iconst ok_X12_keeper (mi 2 rfl) ?_
  refine ex_bipush ok_X12_keeper (mi 3 rfl) ?_
  refine ex_callSr (As := [_, _, _]) ok_X12_keeper (mi 4 rfl) rfl (m_in1 hst (by decide) (by decide)) rfl rfl rfl (by decide) (Nat.le_of_ble_eq_true rfl) (by decide) ?_
  refine ex_if_eq (tgt := 25) ok_X12_keeper (mi 5 rfl) rfl (fun hn => absurd hn (by decide)) (fun _ => ?_)
  refine ex_iload_n ok_X12_keeper (mi 6 rfl) rfl ?_
  refine ex_iconst ok_X12_keeper (mi 7 rfl) ?_
  refine ex_bipush ok_X12_keeper (mi 8 rfl) ?_
  refine ex_callSr (As := [_, _, _]) ok_X12_keeper (mi 9 rfl) rfl (m_in1 hst (by decide) (by decide)) rfl rfl rfl (by decide) (Nat.le_of_ble_eq_true rfl) (by decide) ?_
  refine ex_if_eq (tgt := 25) ok_X12_keeper (mi 10 rfl) rfl (fun hn => absurd hn (by decide)) (fun _ => ?_)
  refine ex_iconst ok_X12_keeper (mi 11 rfl) ?_
  refine ex_goto (tgt := 26) ok_X12_keeper (mi 12 rfl) rfl ?_
  refine ex_iconst ok_X12_keeper (mi 14 rfl) ?_
  refine ex_iconst ok_X12_keeper (mi 15 rfl) ?_
  refine ex_callVr (As := [_, _, _]) (v := some (.int (nI 0))) (g1 := (ap x [(0, 0, 1200, 0, (nI 0))] h)) ok_X12_keeper (mi 16 rfl) rfl (m_ref111 (ws := []) hst f.1) rfl (fk f.1 0 rfl) rfl rfl (by decide) (by decide) (Nat.le_of_ble_eq_true rfl) (by decide) ?_
  refine ex_if_eq (tgt := 36) ok_X12_keeper (mi 17 rfl) rfl (fun _ => ?_) (fun hn => absurd (by decide) hn)
  refine ex_iload_n ok_X12_keeper (mi 20 rfl) rfl ?_
  refine ex_tblk (tgt := 128) ok_X12_keeper (mi 21 rfl) (by decide) (by decide) (by decide) (by decide) ?_
  refine ex_aload_n ok_X12_keeper (mi 56 rfl) rfl ?_
  refine ex_getRx ok_X12_keeper (mi 57 rfl) rfl rfl (kq apq (fk f.1 0 rfl)) (rq apq (fr f.1 41 rfl)) (kq apq (fk f.1 42 rfl)) (by decide) ?_
  refine ex_iload_n ok_X12_keeper (mi 58 rfl) rfl ?_
  refine ex_ialdx ok_X12_keeper (mi 59 rfl) (Or.inl (kq apq (fk f.1 42 rfl))) (nq apq (fn f.1 42 rfl)) (pk_in 2 9 (by decide)) (apA0 (j := 2) rfl (fe f.2.2.1 72 rfl)) ?_
  refine ex_iret ok_X12_keeper (mi 60 rfl) rfl ?_
  exact ⟨_, rfl, fun _ => by decide, apI (a := 0) rfl, kq apq (fk f.1 0 rfl), kp_ap rfl⟩
theorem d_entry_2 {G : GE} (hst : (ge_l G).stackTraces = false) {x : Nat} {p1 p2 : Int32} : MM G 2 0 0 my_X12_entry x [.int (nI 2), .int p1, .int p2] 1 (nI 0) := by
  intro h f
  refine ex_M_of ok_X12_entry cw_X12_entry rfl hst (Nat.le_of_ble_eq_true rfl) ?_
  refine ex_iload_n ok_X12_entry (mi 0 rfl) rfl ?_
  refine ex_iconst ok_X12_entry (mi 1 rfl) ?_
  refine ex_bipush ok_X12_entry (mi 2 rfl) ?_
  refine ex_callSr (As := [_, _, _]) ok_X12_entry (mi 3 rfl) rfl (m_in1 hst (by decide) (by decide)) rfl rfl rfl (by decide) (Nat.le_of_ble_eq_true rfl) (by decide) ?_
  refine ex_istore ok_X12_entry (mi 4 rfl) ?_
  refine ex_aload_n ok_X12_entry (mi 5 rfl) rfl ?_
  refine ex_iload ok_X12_entry (mi 6 rfl) rfl ?_
  refine ex_if_eq (tgt := 34) ok_X12_entry (mi 7 rfl) rfl (fun hn => absurd hn (by decide)) (fun _ => ?_)
  refine ex_iload_n ok_X12_entry (mi 8 rfl) rfl ?_
  refine ex_iconst ok_X12_entry (mi 9 rfl) ?_
  refine ex_aload_n ok_X12_entry (mi 10 rfl) rfl ?_
  refine ex_iload_n ok_X12_entry (mi 11 rfl) rfl ?_
  refine ex_callVr (As := [_]) ok_X12_entry (mi 12 rfl) rfl (m_cent2 hst f.1 f.2.2.2) rfl (fk f.1 0 rfl) rfl rfl (by decide) (by decide) (Nat.le_of_ble_eq_true rfl) (by decide) ?_
  refine ex_iconst ok_X12_entry (mi 13 rfl) ?_
  refine ex_isub ok_X12_entry (mi 14 rfl) ?_
  refine ex_top (w := (-1)) (by decide) ?_
  refine ex_callSr (As := [_, _, _]) ok_X12_entry (mi 15 rfl) rfl (m_in0 hst (fun k => absurd (Int32.le_trans k.1 k.2) (by decide))) rfl rfl rfl (by decide) (Nat.le_of_ble_eq_true rfl) (by decide) ?_
  refine ex_if_eq (tgt := 34) ok_X12_entry (mi 16 rfl) rfl (fun _ => ?_) (fun hn => absurd (by decide) hn)
  refine ex_iconst ok_X12_entry (mi 19 rfl) ?_
  refine ex_iconst ok_X12_entry (mi 20 rfl) ?_
  refine ex_iconst ok_X12_entry (mi 21 rfl) ?_
  refine ex_callVr (As := [_, _, _]) (v := some (.int (nI 1))) (g1 := (ap x [(0, 0, 1200, 0, (nI 1))] h)) ok_X12_entry (mi 22 rfl) rfl (m_ref011 (ws := []) hst f.1) rfl (fk f.1 0 rfl) rfl rfl (by decide) (by decide) (Nat.le_of_ble_eq_true rfl) (by decide) ?_
  refine ex_if_eq (tgt := 45) ok_X12_entry (mi 23 rfl) rfl (fun hn => absurd hn (by decide)) (fun _ => ?_)
  refine ex_iconst ok_X12_entry (mi 24 rfl) ?_
  refine ex_iret ok_X12_entry (mi 25 rfl) rfl ?_
  exact ⟨_, rfl, fun e => absurd e (by decide), apI (a := 0) rfl, kq apq (fk f.1 0 rfl), kp_ap rfl⟩
theorem d_keeper_3_0 {G : GE} (hst : (ge_l G).stackTraces = false) {x : Nat}  : MM G 2 0 0 my_X12_keeper x [.int (nI 3), .int (nI 0)] 0 (nI 0) := by
  intro h f
  refine ex_M_of ok_X12_keeper cw_X12_keeper rfl hst (Nat.le_of_ble_eq_true rfl) ?_
  refine ex_aload_n ok_X12_keeper (mi 0 rfl) rfl ?_
  refine ex_iload_n ok_X12_keeper (mi 1 rfl) rfl ?_
  refine ex_iconst ok_X12_keeper (mi 2 rfl) ?_
  refine ex_bipush ok_X12_keeper (mi 3 rfl) ?_
  refine ex_callSr (As := [_, _, _]) ok_X12_keeper (mi 4 rfl) rfl (m_in1 hst (by decide) (by decide)) rfl rfl rfl (by decide) (Nat.le_of_ble_eq_true rfl) (by decide) ?_
  refine ex_if_eq (tgt := 25) ok_X12_keeper (mi 5 rfl) rfl (fun hn => absurd hn (by decide)) (fun _ => ?_)
  refine ex_iload_n ok_X12_keeper (mi 6 rfl) rfl ?_
  refine ex_iconst ok_X12_keeper (mi 7 rfl) ?_
  refine ex_bipush ok_X12_keeper (mi 8 rfl) ?_
  refine ex_callSr (As := [_, _, _]) ok_X12_keeper (mi 9 rfl) rfl (m_in1 hst (by decide) (by decide)) rfl rfl rfl (by decide) (Nat.le_of_ble_eq_true rfl) (by decide) ?_
  refine ex_if_eq (tgt := 25) ok_X12_keeper (mi 10 rfl) rfl (fun hn => absurd hn (by decide)) (fun _ => ?_)
  refine ex_iconst ok_X12_keeper (mi 11 rfl) ?_
  refine ex_goto (tgt := 26) ok_X12_keeper (mi 12 rfl) rfl ?_
  refine ex_iconst ok_X12_keeper (mi 14 rfl) ?_
  refine ex_iconst ok_X12_keeper (mi 15 rfl) ?_
  refine ex_callVr (As := [_, _, _]) (v := some (.int (nI 0))) (g1 := (ap x [(0, 0, 1200, 0, (nI 0))] h)) ok_X12_keeper (mi 16 rfl) rfl (m_ref111 (ws := []) hst f.1) rfl (fk f.1 0 rfl) rfl rfl (by decide) (by decide) (Nat.le_of_ble_eq_true rfl) (by decide) ?_
  refine ex_if_eq (tgt := 36) ok_X12_keeper (mi 17 rfl) rfl (fun _ => ?_) (fun hn => absurd (by decide) hn)
  refine ex_iload_n ok_X12_keeper (mi 20 rfl) rfl ?_
  refine ex_tblk (tgt := 80) ok_X12_keeper (mi 21 rfl) (by decide) (by decide) (by decide) (by decide) ?_
  refine ex_aload_n ok_X12_keeper (mi 22 rfl) rfl ?_
  refine ex_getRx ok_X12_keeper (mi 23 rfl) rfl rfl (kq apq (fk f.1 0 rfl)) (rq apq (fr f.1 33 rfl)) (kq apq (fk f.1 34 rfl)) (by decide) ?_
  refine ex_iload_n ok_X12_keeper (mi 24 rfl) rfl ?_
  refine ex_ialdx ok_X12_keeper (mi 25 rfl) (Or.inl (kq apq (fk f.1 34 rfl))) (nq apq (fn f.1 34 rfl)) (pk_in 3 9 (by decide)) (apA0 (j := 3) rfl (fe f.2.2.1 71 rfl)) ?_
  refine ex_iret ok_X12_keeper (mi 26 rfl) rfl ?_
  exact ⟨_, rfl, fun _ => by decide, apI (a := 0) rfl, kq apq (fk f.1 0 rfl), kp_ap rfl⟩
theorem d_keeper_3_1 {G : GE} (hst : (ge_l G).stackTraces = false) {x : Nat}  : MM G 2 0 0 my_X12_keeper x [.int (nI 3), .int (nI 1)] 0 ((-1)) := by
  intro h f
  refine ex_M_of ok_X12_keeper cw_X12_keeper rfl hst (Nat.le_of_ble_eq_true rfl) ?_
  refine ex_aload_n ok_X12_keeper (mi 0 rfl) rfl ?_
  refine ex_iload_n ok_X12_keeper (mi 1 rfl) rfl ?_
  refine ex_iconst ok_X12_keeper (mi 2 rfl) ?_
  refine ex_bipush ok_X12_keeper (mi 3 rfl) ?_
  refine ex_callSr (As := [_, _, _]) ok_X12_keeper (mi 4 rfl) rfl (m_in1 hst (by decide) (by decide)) rfl rfl rfl (by decide) (Nat.le_of_ble_eq_true rfl) (by decide) ?_
  refine ex_if_eq (tgt := 25) ok_X12_keeper (mi 5 rfl) rfl (fun hn => absurd hn (by decide)) (fun _ => ?_)
  refine ex_iload_n ok_X12_keeper (mi 6 rfl) rfl ?_
  refine ex_iconst ok_X12_keeper (mi 7 rfl) ?_
  refine ex_bipush ok_X12_keeper (mi 8 rfl) ?_
  refine ex_callSr (As := [_, _, _]) ok_X12_keeper (mi 9 rfl) rfl (m_in1 hst (by decide) (by decide)) rfl rfl rfl (by decide) (Nat.le_of_ble_eq_true rfl) (by decide) ?_
  refine ex_if_eq (tgt := 25) ok_X12_keeper (mi 10 rfl) rfl (fun hn => absurd hn (by decide)) (fun _ => ?_)
  refine ex_iconst ok_X12_keeper (mi 11 rfl) ?_
  refine ex_goto (tgt := 26) ok_X12_keeper (mi 12 rfl) rfl ?_
  refine ex_iconst ok_X12_keeper (mi 14 rfl) ?_
  refine ex_iconst ok_X12_keeper (mi 15 rfl) ?_
  refine ex_callVr (As := [_, _, _]) (v := some (.int (nI 0))) (g1 := (ap x [(0, 0, 1200, 0, (nI 0))] h)) ok_X12_keeper (mi 16 rfl) rfl (m_ref111 (ws := []) hst f.1) rfl (fk f.1 0 rfl) rfl rfl (by decide) (by decide) (Nat.le_of_ble_eq_true rfl) (by decide) ?_
  refine ex_if_eq (tgt := 36) ok_X12_keeper (mi 17 rfl) rfl (fun _ => ?_) (fun hn => absurd (by decide) hn)
  refine ex_iload_n ok_X12_keeper (mi 20 rfl) rfl ?_
  refine ex_tblk (tgt := 87) ok_X12_keeper (mi 21 rfl) (by decide) (by decide) (by decide) (by decide) ?_
  refine ex_aload_n ok_X12_keeper (mi 27 rfl) rfl ?_
  refine ex_getRx ok_X12_keeper (mi 28 rfl) rfl rfl (kq apq (fk f.1 0 rfl)) (rq apq (fr f.1 34 rfl)) (kq apq (fk f.1 35 rfl)) (by decide) ?_
  refine ex_iload_n ok_X12_keeper (mi 29 rfl) rfl ?_
  refine ex_ialdx ok_X12_keeper (mi 30 rfl) (Or.inl (kq apq (fk f.1 35 rfl))) (nq apq (fn f.1 35 rfl)) (pk_in 3 9 (by decide)) (apA0 (j := 3) rfl (fe f.2.2.1 70 rfl)) ?_
  refine ex_iret ok_X12_keeper (mi 31 rfl) rfl ?_
  exact ⟨_, rfl, fun _ => by decide, apI (a := 0) rfl, kq apq (fk f.1 0 rfl), kp_ap rfl⟩
theorem d_keeper_3_2 {G : GE} (hst : (ge_l G).stackTraces = false) {x : Nat}  : MM G 2 0 0 my_X12_keeper x [.int (nI 3), .int (nI 2)] 0 (nI 0) := by
  intro h f
  refine ex_M_of ok_X12_keeper cw_X12_keeper rfl hst (Nat.le_of_ble_eq_true rfl) ?_
  refine ex_aload_n ok_X12_keeper (mi 0 rfl) rfl ?_
  refine ex_iload_n ok_X12_keeper (mi 1 rfl) rfl ?_
  refine ex_iconst ok_X12_keeper (mi 2 rfl) ?_
  refine ex_bipush ok_X12_keeper (mi 3 rfl) ?_
  refine ex_callSr (As := [_, _, _]) ok_X12_keeper (mi 4 rfl) rfl (m_in1 hst (by decide) (by decide)) rfl rfl rfl (by decide) (Nat.le_of_ble_eq_true rfl) (by decide) ?_
  refine ex_if_eq (tgt := 25) ok_X12_keeper (mi 5 rfl) rfl (fun hn => absurd hn (by decide)) (fun _ => ?_)
  refine ex_iload_n ok_X12_keeper (mi 6 rfl) rfl ?_
  refine ex_iconst ok_X12_keeper (mi 7 rfl) ?_
  refine ex_bipush ok_X12_keeper (mi 8 rfl) ?_
  refine ex_callSr (As := [_, _, _]) ok_X12_keeper (mi 9 rfl) rfl (m_in1 hst (by decide) (by decide)) rfl rfl rfl (by decide) (Nat.le_of_ble_eq_true rfl) (by decide) ?_
  refine ex_if_eq (tgt := 25) ok_X12_keeper (mi 10 rfl) rfl (fun hn => absurd hn (by decide)) (fun _ => ?_)
  refine ex_iconst ok_X12_keeper (mi 11 rfl) ?_
  refine ex_goto (tgt := 26) ok_X12_keeper (mi 12 rfl) rfl ?_
  refine ex_iconst ok_X12_keeper (mi 14 rfl) ?_
  refine ex_iconst ok_X12_keeper (mi 15 rfl) ?_
  refine ex_callVr (As := [_, _, _]) (v := some (.int (nI 0))) (g1 := (ap x [(0, 0, 1200, 0, (nI 0))] h)) ok_X12_keeper (mi 16 rfl) rfl (m_ref111 (ws := []) hst f.1) rfl (fk f.1 0 rfl) rfl rfl (by decide) (by decide) (Nat.le_of_ble_eq_true rfl) (by decide) ?_
  refine ex_if_eq (tgt := 36) ok_X12_keeper (mi 17 rfl) rfl (fun _ => ?_) (fun hn => absurd (by decide) hn)
  refine ex_iload_n ok_X12_keeper (mi 20 rfl) rfl ?_
  refine ex_tblk (tgt := 94) ok_X12_keeper (mi 21 rfl) (by decide) (by decide) (by decide) (by decide) ?_
  refine ex_aload_n ok_X12_keeper (mi 32 rfl) rfl ?_
  refine ex_getRx ok_X12_keeper (mi 33 rfl) rfl rfl (kq apq (fk f.1 0 rfl)) (rq apq (fr f.1 36 rfl)) (kq apq (fk f.1 37 rfl)) (by decide) ?_
  refine ex_iload_n ok_X12_keeper (mi 34 rfl) rfl ?_
  refine ex_ialdx ok_X12_keeper (mi 35 rfl) (Or.inl (kq apq (fk f.1 37 rfl))) (nq apq (fn f.1 37 rfl)) (pk_in 3 9 (by decide)) (apA0 (j := 3) rfl (fe f.2.2.1 68 rfl)) ?_
  refine ex_iret ok_X12_keeper (mi 36 rfl) rfl ?_
  exact ⟨_, rfl, fun _ => by decide, apI (a := 0) rfl, kq apq (fk f.1 0 rfl), kp_ap rfl⟩
theorem d_keeper_3_3 {G : GE} (hst : (ge_l G).stackTraces = false) {x : Nat}  : MM G 2 0 0 my_X12_keeper x [.int (nI 3), .int (nI 3)] 0 (nI 0) := by
  intro h f
  refine ex_M_of ok_X12_keeper cw_X12_keeper rfl hst (Nat.le_of_ble_eq_true rfl) ?_
  refine ex_aload_n ok_X12_keeper (mi 0 rfl) rfl ?_
  refine ex_iload_n ok_X12_keeper (mi 1 rfl) rfl ?_
  refine ex_iconst ok_X12_keeper (mi 2 rfl) ?_
  refine ex_bipush ok_X12_keeper (mi 3 rfl) ?_
  refine ex_callSr (As := [_, _, _]) ok_X12_keeper (mi 4 rfl) rfl (m_in1 hst (by decide) (by decide)) rfl rfl rfl (by decide) (Nat.le_of_ble_eq_true rfl) (by decide) ?_
  refine ex_if_eq (tgt := 25) ok_X12_keeper (mi 5 rfl) rfl (fun hn => absurd hn (by decide)) (fun _ => ?_)
  refine ex_iload_n ok_X12_keeper (mi 6 rfl) rfl ?_
  refine ex_iconst ok_X12_keeper (mi 7 rfl) ?_
  refine ex_bipush ok_X12_keeper (mi 8 rfl) ?_
  refine ex_callSr (As := [_, _, _]) ok_X12_keeper (mi 9 rfl) rfl (m_in1 hst (by decide) (by decide)) rfl rfl rfl (by decide) (Nat.le_of_ble_eq_true rfl) (by decide) ?_
  refine ex_if_eq (tgt := 25) ok_X12_keeper (mi 10 rfl) rfl (fun hn => absurd hn (by decide)) (fun _ => ?_)
  refine ex_iconst ok_X12_keeper (mi 11 rfl) ?_
  refine ex_goto (tgt := 26) ok_X12_keeper (mi 12 rfl) rfl ?_
  refine ex_iconst ok_X12_keeper (mi 14 rfl) ?_
  refine ex_iconst ok_X12_keeper (mi 15 rfl) ?_
  refine ex_callVr (As := [_, _, _]) (v := some (.int (nI 0))) (g1 := (ap x [(0, 0, 1200, 0, (nI 0))] h)) ok_X12_keeper (mi 16 rfl) rfl (m_ref111 (ws := []) hst f.1) rfl (fk f.1 0 rfl) rfl rfl (by decide) (by decide) (Nat.le_of_ble_eq_true rfl) (by decide) ?_
  refine ex_if_eq (tgt := 36) ok_X12_keeper (mi 17 rfl) rfl (fun _ => ?_) (fun hn => absurd (by decide) hn)
  refine ex_iload_n ok_X12_keeper (mi 20 rfl) rfl ?_
  refine ex_tblk (tgt := 101) ok_X12_keeper (mi 21 rfl) (by decide) (by decide) (by decide) (by decide) ?_
  refine ex_aload_n ok_X12_keeper (mi 37 rfl) rfl ?_
  refine ex_iload_n ok_X12_keeper (mi 38 rfl) rfl ?_
  refine ex_callVr (As := [_]) ok_X12_keeper (mi 39 rfl) rfl (m_cent3 hst (shq apq f.1) (ap_tG0 rfl f.2.2.2)) rfl (kq apq (fk f.1 0 rfl)) rfl rfl (by decide) (by decide) (Nat.le_of_ble_eq_true rfl) (by decide) ?_
  refine ex_iret ok_X12_keeper (mi 40 rfl) rfl ?_
  exact ⟨_, rfl, fun _ => by decide, apI (a := 0) rfl, kq apq (fk f.1 0 rfl), kp_ap rfl⟩
theorem d_keeper_3_4 {G : GE} (hst : (ge_l G).stackTraces = false) {x : Nat}  : MM G 2 0 0 my_X12_keeper x [.int (nI 3), .int (nI 4)] 0 ((-1)) := by
  intro h f
  refine ex_M_of ok_X12_keeper cw_X12_keeper rfl hst (Nat.le_of_ble_eq_true rfl) ?_
  refine ex_aload_n ok_X12_keeper (mi 0 rfl) rfl ?_
  refine ex_iload_n ok_X12_keeper (mi 1 rfl) rfl ?_
  refine ex_iconst ok_X12_keeper (mi 2 rfl) ?_
  refine ex_bipush ok_X12_keeper (mi 3 rfl) ?_
  refine ex_callSr (As := [_, _, _]) ok_X12_keeper (mi 4 rfl) rfl (m_in1 hst (by decide) (by decide)) rfl rfl rfl (by decide) (Nat.le_of_ble_eq_true rfl) (by decide) ?_
  refine ex_if_eq (tgt := 25) ok_X12_keeper (mi 5 rfl) rfl (fun hn => absurd hn (by decide)) (fun _ => ?_)
  refine ex_iload_n ok_X12_keeper (mi 6 rfl) rfl ?_
  refine ex_iconst ok_X12_keeper (mi 7 rfl) ?_
  refine ex_bipush ok_X12_keeper (mi 8 rfl) ?_
  refine ex_callSr (As := [_, _, _]) ok_X12_keeper (mi 9 rfl) rfl (m_in1 hst (by decide) (by decide)) rfl rfl rfl (by decide) (Nat.le_of_ble_eq_true rfl) (by decide) ?_
  refine ex_if_eq (tgt := 25) ok_X12_keeper (mi 10 rfl) rfl (fun hn => absurd hn (by decide)) (fun _ => ?_)
  refine ex_iconst ok_X12_keeper (mi 11 rfl) ?_
  refine ex_goto (tgt := 26) ok_X12_keeper (mi 12 rfl) rfl ?_
  refine ex_iconst ok_X12_keeper (mi 14 rfl) ?_
  refine ex_iconst ok_X12_keeper (mi 15 rfl) ?_
  refine ex_callVr (As := [_, _, _]) (v := some (.int (nI 0))) (g1 := (ap x [(0, 0, 1200, 0, (nI 0))] h)) ok_X12_keeper (mi 16 rfl) rfl (m_ref111 (ws := []) hst f.1) rfl (fk f.1 0 rfl) rfl rfl (by decide) (by decide) (Nat.le_of_ble_eq_true rfl) (by decide) ?_
  refine ex_if_eq (tgt := 36) ok_X12_keeper (mi 17 rfl) rfl (fun _ => ?_) (fun hn => absurd (by decide) hn)
  refine ex_iload_n ok_X12_keeper (mi 20 rfl) rfl ?_
  refine ex_tblk (tgt := 107) ok_X12_keeper (mi 21 rfl) (by decide) (by decide) (by decide) (by decide) ?_
  refine ex_aload_n ok_X12_keeper (mi 41 rfl) rfl ?_
  refine ex_getRx ok_X12_keeper (mi 42 rfl) rfl rfl (kq apq (fk f.1 0 rfl)) (rq apq (fr f.1 38 rfl)) (kq apq (fk f.1 39 rfl)) (by decide) ?_
  refine ex_iload_n ok_X12_keeper (mi 43 rfl) rfl ?_
  refine ex_ialdx ok_X12_keeper (mi 44 rfl) (Or.inl (kq apq (fk f.1 39 rfl))) (nq apq (fn f.1 39 rfl)) (pk_in 3 9 (by decide)) (apA0 (j := 3) rfl (fe f.2.2.1 67 rfl)) ?_
  refine ex_iret ok_X12_keeper (mi 45 rfl) rfl ?_
  exact ⟨_, rfl, fun _ => by decide, apI (a := 0) rfl, kq apq (fk f.1 0 rfl), kp_ap rfl⟩
theorem d_keeper_3_5 {G : GE} (hst : (ge_l G).stackTraces = false) {x : Nat}  : MM G 2 0 0 my_X12_keeper x [.int (nI 3), .int (nI 5)] 0 ((-1)) := by
  intro h f
  refine ex_M_of ok_X12_keeper cw_X12_keeper rfl hst (Nat.le_of_ble_eq_true rfl) ?_
  refine ex_aload_n ok_X12_keeper (mi 0 rfl) rfl ?_
  refine ex_iload_n ok_X12_keeper (mi 1 rfl) rfl ?_
  refine ex_iconst ok_X12_keeper (mi 2 rfl) ?_
  refine ex_bipush ok_X12_keeper (mi 3 rfl) ?_
  refine ex_callSr (As := [_, _, _]) ok_X12_keeper (mi 4 rfl) rfl (m_in1 hst (by decide) (by decide)) rfl rfl rfl (by decide) (Nat.le_of_ble_eq_true rfl) (by decide) ?_
  refine ex_if_eq (tgt := 25) ok_X12_keeper (mi 5 rfl) rfl (fun hn => absurd hn (by decide)) (fun _ => ?_)
  refine ex_iload_n ok_X12_keeper (mi 6 rfl) rfl ?_
  refine ex_iconst ok_X12_keeper (mi 7 rfl) ?_
  refine ex_bipush ok_X12_keeper (mi 8 rfl) ?_
  refine ex_callSr (As := [_, _, _]) ok_X12_keeper (mi 9 rfl) rfl (m_in1 hst (by decide) (by decide)) rfl rfl rfl (by decide) (Nat.le_of_ble_eq_true rfl) (by decide) ?_
  refine ex_if_eq (tgt := 25) ok_X12_keeper (mi 10 rfl) rfl (fun hn => absurd hn (by decide)) (fun _ => ?_)
  refine ex_iconst ok_X12_keeper (mi 11 rfl) ?_
  refine ex_goto (tgt := 26) ok_X12_keeper (mi 12 rfl) rfl ?_
  refine ex_iconst ok_X12_keeper (mi 14 rfl) ?_
  refine ex_iconst ok_X12_keeper (mi 15 rfl) ?_
  refine ex_callVr (As := [_, _, _]) (v := some (.int (nI 0))) (g1 := (ap x [(0, 0, 1200, 0, (nI 0))] h)) ok_X12_keeper (mi 16 rfl) rfl (m_ref111 (ws := []) hst f.1) rfl (fk f.1 0 rfl) rfl rfl (by decide) (by decide) (Nat.le_of_ble_eq_true rfl) (by decide) ?_
  refine ex_if_eq (tgt := 36) ok_X12_keeper (mi 17 rfl) rfl (fun _ => ?_) (fun hn => absurd (by decide) hn)
  refine ex_iload_n ok_X12_keeper (mi 20 rfl) rfl ?_
  refine ex_tblk (tgt := 114) ok_X12_keeper (mi 21 rfl) (by decide) (by decide) (by decide) (by decide) ?_
  refine ex_aload_n ok_X12_keeper (mi 46 rfl) rfl ?_
  refine ex_getRx ok_X12_keeper (mi 47 rfl) rfl rfl (kq apq (fk f.1 0 rfl)) (rq apq (fr f.1 39 rfl)) (kq apq (fk f.1 40 rfl)) (by decide) ?_
  refine ex_iload_n ok_X12_keeper (mi 48 rfl) rfl ?_
  refine ex_ialdx ok_X12_keeper (mi 49 rfl) (Or.inl (kq apq (fk f.1 40 rfl))) (nq apq (fn f.1 40 rfl)) (pk_in 3 9 (by decide)) (apA0 (j := 3) rfl (fe f.2.2.1 66 rfl)) ?_
  refine ex_iret ok_X12_keeper (mi 50 rfl) rfl ?_
  exact ⟨_, rfl, fun _ => by decide, apI (a := 0) rfl, kq apq (fk f.1 0 rfl), kp_ap rfl⟩
theorem d_keeper_3_6 {G : GE} (hst : (ge_l G).stackTraces = false) {x : Nat}  : MM G 2 0 0 my_X12_keeper x [.int (nI 3), .int (nI 6)] 0 (nI 0) := by
  intro h f
  refine ex_M_of ok_X12_keeper cw_X12_keeper rfl hst (Nat.le_of_ble_eq_true rfl) ?_
  refine ex_aload_n ok_X12_keeper (mi 0 rfl) rfl ?_
  refine ex_iload_n ok_X12_keeper (mi 1 rfl) rfl ?_
  refine ex_iconst ok_X12_keeper (mi 2 rfl) ?_
  refine ex_bipush ok_X12_keeper (mi 3 rfl) ?_
  refine ex_callSr (As := [_, _, _]) ok_X12_keeper (mi 4 rfl) rfl (m_in1 hst (by decide) (by decide)) rfl rfl rfl (by decide) (Nat.le_of_ble_eq_true rfl) (by decide) ?_
  refine ex_if_eq (tgt := 25) ok_X12_keeper (mi 5 rfl) rfl (fun hn => absurd hn (by decide)) (fun _ => ?_)
  refine ex_iload_n ok_X12_keeper (mi 6 rfl) rfl ?_
  refine ex_iconst ok_X12_keeper (mi 7 rfl) ?_
  refine ex_bipush ok_X12_keeper (mi 8 rfl) ?_
  refine ex_callSr (As := [_, _, _]) ok_X12_keeper (mi 9 rfl) rfl (m_in1 hst (by decide) (by decide)) rfl rfl rfl (by decide) (Nat.le_of_ble_eq_true rfl) (by decide) ?_
  refine ex_if_eq (tgt := 25) ok_X12_keeper (mi 10 rfl) rfl (fun hn => absurd hn (by decide)) (fun _ => ?_)
  refine ex_iconst ok_X12_keeper (mi 11 rfl) ?_
  refine ex_goto (tgt := 26) ok_X12_keeper (mi 12 rfl) rfl ?_
  refine ex_iconst ok_X12_keeper (mi 14 rfl) ?_
  refine ex_iconst ok_X12_keeper (mi 15 rfl) ?_
  refine ex_callVr (As := [_, _, _]) (v := some (.int (nI 0))) (g1 := (ap x [(0, 0, 1200, 0, (nI 0))] h)) ok_X12_keeper (mi 16 rfl) rfl (m_ref111 (ws := []) hst f.1) rfl (fk f.1 0 rfl) rfl rfl (by decide) (by decide) (Nat.le_of_ble_eq_true rfl) (by decide) ?_
  refine ex_if_eq (tgt := 36) ok_X12_keeper (mi 17 rfl) rfl (fun _ => ?_) (fun hn => absurd (by decide) hn)
  refine ex_iload_n ok_X12_keeper (mi 20 rfl) rfl ?_
  refine ex_tblk (tgt := 121) ok_X12_keeper (mi 21 rfl) (by decide) (by decide) (by decide) (by decide) ?_
  refine ex_aload_n ok_X12_keeper (mi 51 rfl) rfl ?_
  refine ex_getRx ok_X12_keeper (mi 52 rfl) rfl rfl (kq apq (fk f.1 0 rfl)) (rq apq (fr f.1 40 rfl)) (kq apq (fk f.1 41 rfl)) (by decide) ?_
  refine ex_iload_n ok_X12_keeper (mi 53 rfl) rfl ?_
  refine ex_ialdx ok_X12_keeper (mi 54 rfl) (Or.inl (kq apq (fk f.1 41 rfl))) (nq apq (fn f.1 41 rfl)) (pk_in 3 9 (by decide)) (apA0 (j := 3) rfl (fe f.2.2.1 65 rfl)) ?_
  refine ex_iret ok_X12_keeper (mi 55 rfl) rfl ?_
  exact ⟨_, rfl, fun _ => by decide, apI (a := 0) rfl, kq apq (fk f.1 0 rfl), kp_ap rfl⟩
theorem d_keeper_3_7 {G : GE} (hst : (ge_l G).stackTraces = false) {x : Nat}  : MM G 2 0 0 my_X12_keeper x [.int (nI 3), .int (nI 7)] 0 (nI 0) := by
  intro h f
  refine ex_M_of ok_X12_keeper cw_X12_keeper rfl hst (Nat.le_of_ble_eq_true rfl) ?_
  refine ex_aload_n ok_X12_keeper (mi 0 rfl) rfl ?_
  refine ex_iload_n ok_X12_keeper (mi 1 rfl) rfl ?_
  refine ex_iconst ok_X12_keeper (mi 2 rfl) ?_
  refine ex_bipush ok_X12_keeper (mi 3 rfl) ?_
  refine ex_callSr (As := [_, _, _]) ok_X12_keeper (mi 4 rfl) rfl (m_in1 hst (by decide) (by decide)) rfl rfl rfl (by decide) (Nat.le_of_ble_eq_true rfl) (by decide) ?_
  refine ex_if_eq (tgt := 25) ok_X12_keeper (mi 5 rfl) rfl (fun hn => absurd hn (by decide)) (fun _ => ?_)
  refine ex_iload_n ok_X12_keeper (mi 6 rfl) rfl ?_
  refine ex_iconst ok_X12_keeper (mi 7 rfl) ?_
  refine ex_bipush ok_X12_keeper (mi 8 rfl) ?_
  refine ex_callSr (As := [_, _, _]) ok_X12_keeper (mi 9 rfl) rfl (m_in1 hst (by decide) (by decide)) rfl rfl rfl (by decide) (Nat.le_of_ble_eq_true rfl) (by decide) ?_
  refine ex_if_eq (tgt := 25) ok_X12_keeper (mi 10 rfl) rfl (fun hn => absurd hn (by decide)) (fun _ => ?_)
  refine ex_iconst ok_X12_keeper (mi 11 rfl) ?_
  refine ex_goto (tgt := 26) ok_X12_keeper (mi 12 rfl) rfl ?_
  refine ex_iconst ok_X12_keeper (mi 14 rfl) ?_
  refine ex_iconst ok_X12_keeper (mi 15 rfl) ?_
  refine ex_callVr (As := [_, _, _]) (v := some (.int (nI 0))) (g1 := (ap x [(0, 0, 1200, 0, (nI 0))] h)) ok_X12_keeper (mi 16 rfl) rfl (m_ref111 (ws := []) hst f.1) rfl (fk f.1 0 rfl) rfl rfl (by decide) (by decide) (Nat.le_of_ble_eq_true rfl) (by decide) ?_
  refine ex_if_eq (tgt := 36) ok_X12_keeper (mi 17 rfl) rfl (fun _ => ?_) (fun hn => absurd (by decide) hn)
  refine ex_iload_n ok_X12_keeper (mi 20 rfl) rfl ?_
  refine ex_tblk (tgt := 128) ok_X12_keeper (mi 21 rfl) (by decide) (by decide) (by decide) (by decide) ?_
  refine ex_aload_n ok_X12_keeper (mi 56 rfl) rfl ?_
  refine ex_getRx ok_X12_keeper (mi 57 rfl) rfl rfl (kq apq (fk f.1 0 rfl)) (rq apq (fr f.1 41 rfl)) (kq apq (fk f.1 42 rfl)) (by decide) ?_
  refine ex_iload_n ok_X12_keeper (mi 58 rfl) rfl ?_
  refine ex_ialdx ok_X12_keeper (mi 59 rfl) (Or.inl (kq apq (fk f.1 42 rfl))) (nq apq (fn f.1 42 rfl)) (pk_in 3 9 (by decide)) (apA0 (j := 3) rfl (fe f.2.2.1 64 rfl)) ?_
  refine ex_iret ok_X12_keeper (mi 60 rfl) rfl ?_
  exact ⟨_, rfl, fun _ => by decide, apI (a := 0) rfl, kq apq (fk f.1 0 rfl), kp_ap rfl⟩
theorem d_entry_3 {G : GE} (hst : (ge_l G).stackTraces = false) {x : Nat} {p1 p2 : Int32} : MM G 2 0 0 my_X12_entry x [.int (nI 3), .int p1, .int p2] 1 (nI 0) := by
  intro h f
  refine ex_M_of ok_X12_entry cw_X12_entry rfl hst (Nat.le_of_ble_eq_true rfl) ?_
  refine ex_iload_n ok_X12_entry (mi 0 rfl) rfl ?_
  refine ex_iconst ok_X12_entry (mi 1 rfl) ?_
  refine ex_bipush ok_X12_entry (mi 2 rfl) ?_
  refine ex_callSr (As := [_, _, _]) ok_X12_entry (mi 3 rfl) rfl (m_in1 hst (by decide) (by decide)) rfl rfl rfl (by decide) (Nat.le_of_ble_eq_true rfl) (by decide) ?_
  refine ex_istore ok_X12_entry (mi 4 rfl) ?_
  refine ex_aload_n ok_X12_entry (mi 5 rfl) rfl ?_
  refine ex_iload ok_X12_entry (mi 6 rfl) rfl ?_
  refine ex_if_eq (tgt := 34) ok_X12_entry (mi 7 rfl) rfl (fun hn => absurd hn (by decide)) (fun _ => ?_)
  refine ex_iload_n ok_X12_entry (mi 8 rfl) rfl ?_
  refine ex_iconst ok_X12_entry (mi 9 rfl) ?_
  refine ex_aload_n ok_X12_entry (mi 10 rfl) rfl ?_
  refine ex_iload_n ok_X12_entry (mi 11 rfl) rfl ?_
  refine ex_callVr (As := [_]) ok_X12_entry (mi 12 rfl) rfl (m_cent3 hst f.1 f.2.2.2) rfl (fk f.1 0 rfl) rfl rfl (by decide) (by decide) (Nat.le_of_ble_eq_true rfl) (by decide) ?_
  refine ex_iconst ok_X12_entry (mi 13 rfl) ?_
  refine ex_isub ok_X12_entry (mi 14 rfl) ?_
  refine ex_top (w := (-1)) (by decide) ?_
  refine ex_callSr (As := [_, _, _]) ok_X12_entry (mi 15 rfl) rfl (m_in0 hst (fun k => absurd (Int32.le_trans k.1 k.2) (by decide))) rfl rfl rfl (by decide) (Nat.le_of_ble_eq_true rfl) (by decide) ?_
  refine ex_if_eq (tgt := 34) ok_X12_entry (mi 16 rfl) rfl (fun _ => ?_) (fun hn => absurd (by decide) hn)
  refine ex_iconst ok_X12_entry (mi 19 rfl) ?_
  refine ex_iconst ok_X12_entry (mi 20 rfl) ?_
  refine ex_iconst ok_X12_entry (mi 21 rfl) ?_
  refine ex_callVr (As := [_, _, _]) (v := some (.int (nI 1))) (g1 := (ap x [(0, 0, 1200, 0, (nI 1))] h)) ok_X12_entry (mi 22 rfl) rfl (m_ref011 (ws := []) hst f.1) rfl (fk f.1 0 rfl) rfl rfl (by decide) (by decide) (Nat.le_of_ble_eq_true rfl) (by decide) ?_
  refine ex_if_eq (tgt := 45) ok_X12_entry (mi 23 rfl) rfl (fun hn => absurd hn (by decide)) (fun _ => ?_)
  refine ex_iconst ok_X12_entry (mi 24 rfl) ?_
  refine ex_iret ok_X12_entry (mi 25 rfl) rfl ?_
  exact ⟨_, rfl, fun e => absurd e (by decide), apI (a := 0) rfl, kq apq (fk f.1 0 rfl), kp_ap rfl⟩
theorem d_keeper_4_0 {G : GE} (hst : (ge_l G).stackTraces = false) {x : Nat}  : MM G 2 0 0 my_X12_keeper x [.int (nI 4), .int (nI 0)] 0 (nI 0) := by
  intro h f
  refine ex_M_of ok_X12_keeper cw_X12_keeper rfl hst (Nat.le_of_ble_eq_true rfl) ?_
  refine ex_aload_n ok_X12_keeper (mi 0 rfl) rfl ?_
  refine ex_iload_n ok_X12_keeper (mi 1 rfl) rfl ?_
  refine ex_iconst ok_X12_keeper (mi 2 rfl) ?_
  refine ex_bipush ok_X12_keeper (mi 3 rfl) ?_
  refine ex_callSr (As := [_, _, _]) ok_X12_keeper (mi 4 rfl) rfl (m_in1 hst (by decide) (by decide)) rfl rfl rfl (by decide) (Nat.le_of_ble_eq_true rfl) (by decide) ?_
  refine ex_if_eq (tgt := 25) ok_X12_keeper (mi 5 rfl) rfl (fun hn => absurd hn (by decide)) (fun _ => ?_)
  refine ex_iload_n ok_X12_keeper (mi 6 rfl) rfl ?_
  refine ex_iconst ok_X12_keeper (mi 7 rfl) ?_
  refine ex_bipush ok_X12_keeper (mi 8 rfl) ?_
  refine ex_callSr (As := [_, _, _]) ok_X12_keeper (mi 9 rfl) rfl (m_in1 hst (by decide) (by decide)) rfl rfl rfl (by decide) (Nat.le_of_ble_eq_true rfl) (by decide) ?_
  refine ex_if_eq (tgt := 25) ok_X12_keeper (mi 10 rfl) rfl (fun hn => absurd hn (by decide)) (fun _ => ?_)
  refine ex_iconst ok_X12_keeper (mi 11 rfl) ?_
  refine ex_goto (tgt := 26) ok_X12_keeper (mi 12 rfl) rfl ?_
  refine ex_iconst ok_X12_keeper (mi 14 rfl) ?_
  refine ex_iconst ok_X12_keeper (mi 15 rfl) ?_
  refine ex_callVr (As := [_, _, _]) (v := some (.int (nI 0))) (g1 := (ap x [(0, 0, 1200, 0, (nI 0))] h)) ok_X12_keeper (mi 16 rfl) rfl (m_ref111 (ws := []) hst f.1) rfl (fk f.1 0 rfl) rfl rfl (by decide) (by decide) (Nat.le_of_ble_eq_true rfl) (by decide) ?_
  refine ex_if_eq (tgt := 36) ok_X12_keeper (mi 17 rfl) rfl (fun _ => ?_) (fun hn => absurd (by decide) hn)
  refine ex_iload_n ok_X12_keeper (mi 20 rfl) rfl ?_
  refine ex_tblk (tgt := 80) ok_X12_keeper (mi 21 rfl) (by decide) (by decide) (by decide) (by decide) ?_
  refine ex_aload_n ok_X12_keeper (mi 22 rfl) rfl ?_
  refine ex_getRx ok_X12_keeper (mi 23 rfl) rfl rfl (kq apq (fk f.1 0 rfl)) (rq apq (fr f.1 33 rfl)) (kq apq (fk f.1 34 rfl)) (by decide) ?_
  refine ex_iload_n ok_X12_keeper (mi 24 rfl) rfl ?_
  refine ex_ialdx ok_X12_keeper (mi 25 rfl) (Or.inl (kq apq (fk f.1 34 rfl))) (nq apq (fn f.1 34 rfl)) (pk_in 4 9 (by decide)) (apA0 (j := 4) rfl (fe f.2.2.1 63 rfl)) ?_
  refine ex_iret ok_X12_keeper (mi 26 rfl) rfl ?_
  exact ⟨_, rfl, fun _ => by decide, apI (a := 0) rfl, kq apq (fk f.1 0 rfl), kp_ap rfl⟩
theorem d_keeper_4_1 {G : GE} (hst : (ge_l G).stackTraces = false) {x : Nat}  : MM G 2 0 0 my_X12_keeper x [.int (nI 4), .int (nI 1)] 0 ((-1)) := by
  intro h f
  refine ex_M_of ok_X12_keeper cw_X12_keeper rfl hst (Nat.le_of_ble_eq_true rfl) ?_
  refine ex_aload_n ok_X12_keeper (mi 0 rfl) rfl ?_
  refine ex_iload_n ok_X12_keeper (mi 1 rfl) rfl ?_
  refine ex_iconst ok_X12_keeper (mi 2 rfl) ?_
  refine ex_bipush ok_X12_keeper (mi 3 rfl) ?_
  refine ex_callSr (As := [_, _, _]) ok_X12_keeper (mi 4 rfl) rfl (m_in1 hst (by decide) (by decide)) rfl rfl rfl (by decide) (Nat.le_of_ble_eq_true rfl) (by decide) ?_
  refine ex_if_eq (tgt := 25) ok_X12_keeper (mi 5 rfl) rfl (fun hn => absurd hn (by decide)) (fun _ => ?_)
  refine ex_iload_n ok_X12_keeper (mi 6 rfl) rfl ?_
  refine ex_iconst ok_X12_keeper (mi 7 rfl) ?_
  refine ex_bipush ok_X12_keeper (mi 8 rfl) ?_
  refine ex_callSr (As := [_, _, _]) ok_X12_keeper (mi 9 rfl) rfl (m_in1 hst (by decide) (by decide)) rfl rfl rfl (by decide) (Nat.le_of_ble_eq_true rfl) (by decide) ?_
  refine ex_if_eq (tgt := 25) ok_X12_keeper (mi 10 rfl) rfl (fun hn => absurd hn (by decide)) (fun _ => ?_)
  refine ex_iconst ok_X12_keeper (mi 11 rfl) ?_
  refine ex_goto (tgt := 26) ok_X12_keeper (mi 12 rfl) rfl ?_
  refine ex_iconst ok_X12_keeper (mi 14 rfl) ?_
  refine ex_iconst ok_X12_keeper (mi 15 rfl) ?_
  refine ex_callVr (As := [_, _, _]) (v := some (.int (nI 0))) (g1 := (ap x [(0, 0, 1200, 0, (nI 0))] h)) ok_X12_keeper (mi 16 rfl) rfl (m_ref111 (ws := []) hst f.1) rfl (fk f.1 0 rfl) rfl rfl (by decide) (by decide) (Nat.le_of_ble_eq_true rfl) (by decide) ?_
  refine ex_if_eq (tgt := 36) ok_X12_keeper (mi 17 rfl) rfl (fun _ => ?_) (fun hn => absurd (by decide) hn)
  refine ex_iload_n ok_X12_keeper (mi 20 rfl) rfl ?_
  refine ex_tblk (tgt := 87) ok_X12_keeper (mi 21 rfl) (by decide) (by decide) (by decide) (by decide) ?_
  refine ex_aload_n ok_X12_keeper (mi 27 rfl) rfl ?_
  refine ex_getRx ok_X12_keeper (mi 28 rfl) rfl rfl (kq apq (fk f.1 0 rfl)) (rq apq (fr f.1 34 rfl)) (kq apq (fk f.1 35 rfl)) (by decide) ?_
  refine ex_iload_n ok_X12_keeper (mi 29 rfl) rfl ?_
  refine ex_ialdx ok_X12_keeper (mi 30 rfl) (Or.inl (kq apq (fk f.1 35 rfl))) (nq apq (fn f.1 35 rfl)) (pk_in 4 9 (by decide)) (apA0 (j := 4) rfl (fe f.2.2.1 62 rfl)) ?_
  refine ex_iret ok_X12_keeper (mi 31 rfl) rfl ?_
  exact ⟨_, rfl, fun _ => by decide, apI (a := 0) rfl, kq apq (fk f.1 0 rfl), kp_ap rfl⟩
theorem d_keeper_4_2 {G : GE} (hst : (ge_l G).stackTraces = false) {x : Nat}  : MM G 2 0 0 my_X12_keeper x [.int (nI 4), .int (nI 2)] 0 (nI 0) := by
  intro h f
  refine ex_M_of ok_X12_keeper cw_X12_keeper rfl hst (Nat.le_of_ble_eq_true rfl) ?_
  refine ex_aload_n ok_X12_keeper (mi 0 rfl) rfl ?_
  refine ex_iload_n ok_X12_keeper (mi 1 rfl) rfl ?_
  refine ex_iconst ok_X12_keeper (mi 2 rfl) ?_
  refine ex_bipush ok_X12_keeper (mi 3 rfl) ?_
  refine ex_callSr (As := [_, _, _]) ok_X12_keeper (mi 4 rfl) rfl (m_in1 hst (by decide) (by decide)) rfl rfl rfl (by decide) (Nat.le_of_ble_eq_true rfl) (by decide) ?_
  refine ex_if_eq (tgt := 25) ok_X12_keeper (mi 5 rfl) rfl (fun hn => absurd hn (by decide)) (fun _ => ?_)
  refine ex_iload_n ok_X12_keeper (mi 6 rfl) rfl ?_
  refine ex_iconst ok_X12_keeper (mi 7 rfl) ?_
  refine ex_bipush ok_X12_keeper (mi 8 rfl) ?_
  refine ex_callSr (As := [_, _, _]) ok_X12_keeper (mi 9 rfl) rfl (m_in1 hst (by decide) (by decide)) rfl rfl rfl (by decide) (Nat.le_of_ble_eq_true rfl) (by decide) ?_
  refine ex_if_eq (tgt := 25) ok_X12_keeper (mi 10 rfl) rfl (fun hn => absurd hn (by decide)) (fun _ => ?_)
  refine ex_iconst ok_X12_keeper (mi 11 rfl) ?_
  refine ex_goto (tgt := 26) ok_X12_keeper (mi 12 rfl) rfl ?_
  refine ex_iconst ok_X12_keeper (mi 14 rfl) ?_
  refine ex_iconst ok_X12_keeper (mi 15 rfl) ?_
  refine ex_callVr (As := [_, _, _]) (v := some (.int (nI 0))) (g1 := (ap x [(0, 0, 1200, 0, (nI 0))] h)) ok_X12_keeper (mi 16 rfl) rfl (m_ref111 (ws := []) hst f.1) rfl (fk f.1 0 rfl) rfl rfl (by decide) (by decide) (Nat.le_of_ble_eq_true rfl) (by decide) ?_
  refine ex_if_eq (tgt := 36) ok_X12_keeper (mi 17 rfl) rfl (fun _ => ?_) (fun hn => absurd (by decide) hn)
  refine ex_iload_n ok_X12_keeper (mi 20 rfl) rfl ?_
  refine ex_tblk (tgt := 94) ok_X12_keeper (mi 21 rfl) (by decide) (by decide) (by decide) (by decide) ?_
  refine ex_aload_n ok_X12_keeper (mi 32 rfl) rfl ?_
  refine ex_getRx ok_X12_keeper (mi 33 rfl) rfl rfl (kq apq (fk f.1 0 rfl)) (rq apq (fr f.1 36 rfl)) (kq apq (fk f.1 37 rfl)) (by decide) ?_
  refine ex_iload_n ok_X12_keeper (mi 34 rfl) rfl ?_
  refine ex_ialdx ok_X12_keeper (mi 35 rfl) (Or.inl (kq apq (fk f.1 37 rfl))) (nq apq (fn f.1 37 rfl)) (pk_in 4 9 (by decide)) (apA0 (j := 4) rfl (fe f.2.2.1 60 rfl)) ?_
  refine ex_iret ok_X12_keeper (mi 36 rfl) rfl ?_
  exact ⟨_, rfl, fun _ => by decide, apI (a := 0) rfl, kq apq (fk f.1 0 rfl), kp_ap rfl⟩
theorem d_keeper_4_3 {G : GE} (hst : (ge_l G).stackTraces = false) {x : Nat}  : MM G 2 0 0 my_X12_keeper x [.int (nI 4), .int (nI 3)] 0 (nI 0) := by
  intro h f
  refine ex_M_of ok_X12_keeper cw_X12_keeper rfl hst (Nat.le_of_ble_eq_true rfl) ?_
  refine ex_aload_n ok_X12_keeper (mi 0 rfl) rfl ?_
  refine ex_iload_n ok_X12_keeper (mi 1 rfl) rfl ?_
  refine ex_iconst ok_X12_keeper (mi 2 rfl) ?_
  refine ex_bipush ok_X12_keeper (mi 3 rfl) ?_
  refine ex_callSr (As := [_, _, _]) ok_X12_keeper (mi 4 rfl) rfl (m_in1 hst (by decide) (by decide)) rfl rfl rfl (by decide) (Nat.le_of_ble_eq_true rfl) (by decide) ?_
  refine ex_if_eq (tgt := 25) ok_X12_keeper (mi 5 rfl) rfl (fun hn => absurd hn (by decide)) (fun _ => ?_)
  refine ex_iload_n ok_X12_keeper (mi 6 rfl) rfl ?_
  refine ex_iconst ok_X12_keeper (mi 7 rfl) ?_
  refine ex_bipush ok_X12_keeper (mi 8 rfl) ?_
  refine ex_callSr (As := [_, _, _]) ok_X12_keeper (mi 9 rfl) rfl (m_in1 hst (by decide) (by decide)) rfl rfl rfl (by decide) (Nat.le_of_ble_eq_true rfl) (by decide) ?_
  refine ex_if_eq (tgt := 25) ok_X12_keeper (mi 10 rfl) rfl (fun hn => absurd hn (by decide)) (fun _ => ?_)
  refine ex_iconst ok_X12_keeper (mi 11 rfl) ?_
  refine ex_goto (tgt := 26) ok_X12_keeper (mi 12 rfl) rfl ?_
  refine ex_iconst ok_X12_keeper (mi 14 rfl) ?_
  refine ex_iconst ok_X12_keeper (mi 15 rfl) ?_
  refine ex_callVr (As := [_, _, _]) (v := some (.int (nI 0))) (g1 := (ap x [(0, 0, 1200, 0, (nI 0))] h)) ok_X12_keeper (mi 16 rfl) rfl (m_ref111 (ws := []) hst f.1) rfl (fk f.1 0 rfl) rfl rfl (by decide) (by decide) (Nat.le_of_ble_eq_true rfl) (by decide) ?_
  refine ex_if_eq (tgt := 36) ok_X12_keeper (mi 17 rfl) rfl (fun _ => ?_) (fun hn => absurd (by decide) hn)
  refine ex_iload_n ok_X12_keeper (mi 20 rfl) rfl ?_
  refine ex_tblk (tgt := 101) ok_X12_keeper (mi 21 rfl) (by decide) (by decide) (by decide) (by decide) ?_
  refine ex_aload_n ok_X12_keeper (mi 37 rfl) rfl ?_
  refine ex_iload_n ok_X12_keeper (mi 38 rfl) rfl ?_
  refine ex_callVr (As := [_]) ok_X12_keeper (mi 39 rfl) rfl (m_cent4 hst (shq apq f.1) (ap_tG0 rfl f.2.2.2)) rfl (kq apq (fk f.1 0 rfl)) rfl rfl (by decide) (by decide) (Nat.le_of_ble_eq_true rfl) (by decide) ?_
  refine ex_iret ok_X12_keeper (mi 40 rfl) rfl ?_
  exact ⟨_, rfl, fun _ => by decide, apI (a := 0) rfl, kq apq (fk f.1 0 rfl), kp_ap rfl⟩
theorem d_keeper_4_4 {G : GE} (hst : (ge_l G).stackTraces = false) {x : Nat}  : MM G 2 0 0 my_X12_keeper x [.int (nI 4), .int (nI 4)] 0 ((-1)) := by
  intro h f
  refine ex_M_of ok_X12_keeper cw_X12_keeper rfl hst (Nat.le_of_ble_eq_true rfl) ?_
  refine ex_aload_n ok_X12_keeper (mi 0 rfl) rfl ?_
  refine ex_iload_n ok_X12_keeper (mi 1 rfl) rfl ?_
  refine ex_iconst ok_X12_keeper (mi 2 rfl) ?_
  refine ex_bipush ok_X12_keeper (mi 3 rfl) ?_
  refine ex_callSr (As := [_, _, _]) ok_X12_keeper (mi 4 rfl) rfl (m_in1 hst (by decide) (by decide)) rfl rfl rfl (by decide) (Nat.le_of_ble_eq_true rfl) (by decide) ?_
  refine ex_if_eq (tgt := 25) ok_X12_keeper (mi 5 rfl) rfl (fun hn => absurd hn (by decide)) (fun _ => ?_)
  refine ex_iload_n ok_X12_keeper (mi 6 rfl) rfl ?_
  refine ex_iconst ok_X12_keeper (mi 7 rfl) ?_
  refine ex_bipush ok_X12_keeper (mi 8 rfl) ?_
  refine ex_callSr (As := [_, _, _]) ok_X12_keeper (mi 9 rfl) rfl (m_in1 hst (by decide) (by decide)) rfl rfl rfl (by decide) (Nat.le_of_ble_eq_true rfl) (by decide) ?_
  refine ex_if_eq (tgt := 25) ok_X12_keeper (mi 10 rfl) rfl (fun hn => absurd hn (by decide)) (fun _ => ?_)
  refine ex_iconst ok_X12_keeper (mi 11 rfl) ?_
  refine ex_goto (tgt := 26) ok_X12_keeper (mi 12 rfl) rfl ?_
  refine ex_iconst ok_X12_keeper (mi 14 rfl) ?_
  refine ex_iconst ok_X12_keeper (mi 15 rfl) ?_
  refine ex_callVr (As := [_, _, _]) (v := some (.int (nI 0))) (g1 := (ap x [(0, 0, 1200, 0, (nI 0))] h)) ok_X12_keeper (mi 16 rfl) rfl (m_ref111 (ws := []) hst f.1) rfl (fk f.1 0 rfl) rfl rfl (by decide) (by decide) (Nat.le_of_ble_eq_true rfl) (by decide) ?_
  refine ex_if_eq (tgt := 36) ok_X12_keeper (mi 17 rfl) rfl (fun _ => ?_) (fun hn => absurd (by decide) hn)
  refine ex_iload_n ok_X12_keeper (mi 20 rfl) rfl ?_
  refine ex_tblk (tgt := 107) ok_X12_keeper (mi 21 rfl) (by decide) (by decide) (by decide) (by decide) ?_
  refine ex_aload_n ok_X12_keeper (mi 41 rfl) rfl ?_
  refine ex_getRx ok_X12_keeper (mi 42 rfl) rfl rfl (kq apq (fk f.1 0 rfl)) (rq apq (fr f.1 38 rfl)) (kq apq (fk f.1 39 rfl)) (by decide) ?_
  refine ex_iload_n ok_X12_keeper (mi 43 rfl) rfl ?_
  refine ex_ialdx ok_X12_keeper (mi 44 rfl) (Or.inl (kq apq (fk f.1 39 rfl))) (nq apq (fn f.1 39 rfl)) (pk_in 4 9 (by decide)) (apA0 (j := 4) rfl (fe f.2.2.1 59 rfl)) ?_
  refine ex_iret ok_X12_keeper (mi 45 rfl) rfl ?_
  exact ⟨_, rfl, fun _ => by decide, apI (a := 0) rfl, kq apq (fk f.1 0 rfl), kp_ap rfl⟩
theorem d_keeper_4_5 {G : GE} (hst : (ge_l G).stackTraces = false) {x : Nat}  : MM G 2 0 0 my_X12_keeper x [.int (nI 4), .int (nI 5)] 0 ((-1)) := by
  intro h f
  refine ex_M_of ok_X12_keeper cw_X12_keeper rfl hst (Nat.le_of_ble_eq_true rfl) ?_
  refine ex_aload_n ok_X12_keeper (mi 0 rfl) rfl ?_
  refine ex_iload_n ok_X12_keeper (mi 1 rfl) rfl ?_
  refine ex_iconst ok_X12_keeper (mi 2 rfl) ?_
  refine ex_bipush ok_X12_keeper (mi 3 rfl) ?_
  refine ex_callSr (As := [_, _, _]) ok_X12_keeper (mi 4 rfl) rfl (m_in1 hst (by decide) (by decide)) rfl rfl rfl (by decide) (Nat.le_of_ble_eq_true rfl) (by decide) ?_
  refine ex_if_eq (tgt := 25) ok_X12_keeper (mi 5 rfl) rfl (fun hn => absurd hn (by decide)) (fun _ => ?_)
  refine ex_iload_n ok_X12_keeper (mi 6 rfl) rfl ?_
  refine ex_iconst ok_X12_keeper (mi 7 rfl) ?_
  refine ex_bipush ok_X12_keeper (mi 8 rfl) ?_
  refine ex_callSr (As := [_, _, _]) ok_X12_keeper (mi 9 rfl) rfl (m_in1 hst (by decide) (by decide)) rfl rfl rfl (by decide) (Nat.le_of_ble_eq_true rfl) (by decide) ?_
  refine ex_if_eq (tgt := 25) ok_X12_keeper (mi 10 rfl) rfl (fun hn => absurd hn (by decide)) (fun _ => ?_)
  refine ex_iconst ok_X12_keeper (mi 11 rfl) ?_
  refine ex_goto (tgt := 26) ok_X12_keeper (mi 12 rfl) rfl ?_
  refine ex_iconst ok_X12_keeper (mi 14 rfl) ?_
  refine ex_iconst ok_X12_keeper (mi 15 rfl) ?_
  refine ex_callVr (As := [_, _, _]) (v := some (.int (nI 0))) (g1 := (ap x [(0, 0, 1200, 0, (nI 0))] h)) ok_X12_keeper (mi 16 rfl) rfl (m_ref111 (ws := []) hst f.1) rfl (fk f.1 0 rfl) rfl rfl (by decide) (by decide) (Nat.le_of_ble_eq_true rfl) (by decide) ?_
  refine ex_if_eq (tgt := 36) ok_X12_keeper (mi 17 rfl) rfl (fun _ => ?_) (fun hn => absurd (by decide) hn)
  refine ex_iload_n ok_X12_keeper (mi 20 rfl) rfl ?_
  refine ex_tblk (tgt := 114) ok_X12_keeper (mi 21 rfl) (by decide) (by decide) (by decide) (by decide) ?_
  refine ex_aload_n ok_X12_keeper (mi 46 rfl) rfl ?_
  refine ex_getRx ok_X12_keeper (mi 47 rfl) rfl rfl (kq apq (fk f.1 0 rfl)) (rq apq (fr f.1 39 rfl)) (kq apq (fk f.1 40 rfl)) (by decide) ?_
  refine ex_iload_n ok_X12_keeper (mi 48 rfl) rfl ?_
  refine ex_ialdx ok_X12_keeper (mi 49 rfl) (Or.inl (kq apq (fk f.1 40 rfl))) (nq apq (fn f.1 40 rfl)) (pk_in 4 9 (by decide)) (apA0 (j := 4) rfl (fe f.2.2.1 58 rfl)) ?_
  refine ex_iret ok_X12_keeper (mi 50 rfl) rfl ?_
  exact ⟨_, rfl, fun _ => by decide, apI (a := 0) rfl, kq apq (fk f.1 0 rfl), kp_ap rfl⟩
