theorem d_leader_0_b1 {G : GE} (hst : (ge_l G).stackTraces = false) {x : Nat} {p1 : Int32} (c1 : ¬ vp_in p1 14) : MM G 2 0 0 my_X12_leader x [.int (nI 0), .int p1] 1 (nI 0) := by
  intro h f
  refine ex_M_of ok_X12_leader cw_X12_leader rfl hst (Nat.le_of_ble_eq_true rfl) ?_
  refine ex_aload_n ok_X12_leader (mi 0 rfl) rfl ?_
  refine ex_iload_n ok_X12_leader (mi 1 rfl) rfl ?_
  refine ex_iconst ok_X12_leader (mi 2 rfl) ?_
  refine ex_iconst ok_X12_leader (mi 3 rfl) ?_
  refine ex_callSr (As := [_, _, _]) ok_X12_leader (mi 4 rfl) rfl (m_in1 hst (by decide) (by decide)) rfl rfl rfl (by decide) (Nat.le_of_ble_eq_true rfl) (by decide) ?_
  refine ex_if_eq (tgt := 24) ok_X12_leader (mi 5 rfl) rfl (fun hn => absurd hn (by decide)) (fun _ => ?_)
  refine ex_iload_n ok_X12_leader (mi 6 rfl) rfl ?_
  refine ex_iconst ok_X12_leader (mi 7 rfl) ?_
  refine ex_bipush ok_X12_leader (mi 8 rfl) ?_
  refine ex_callSr (As := [_, _, _]) ok_X12_leader (mi 9 rfl) rfl (m_in0 hst (vbad c1 (by decide))) rfl rfl rfl (by decide) (Nat.le_of_ble_eq_true rfl) (by decide) ?_
  refine ex_if_eq (tgt := 24) ok_X12_leader (mi 10 rfl) rfl (fun _ => ?_) (fun hn => absurd (by decide) hn)
  refine ex_iconst ok_X12_leader (mi 13 rfl) ?_
  refine ex_iconst ok_X12_leader (mi 14 rfl) ?_
  refine ex_iconst ok_X12_leader (mi 15 rfl) ?_
  refine ex_callVr (As := [_, _, _]) (v := some (.int (nI 1))) (g1 := (ap x [(0, 0, 1200, 0, (nI 1))] h)) ok_X12_leader (mi 16 rfl) rfl (m_ref011 (ws := []) hst f.1) rfl (fk f.1 0 rfl) rfl rfl (by decide) (by decide) (Nat.le_of_ble_eq_true rfl) (by decide) ?_
  refine ex_if_eq (tgt := 35) ok_X12_leader (mi 17 rfl) rfl (fun hn => absurd hn (by decide)) (fun _ => ?_)
  refine ex_iconst ok_X12_leader (mi 18 rfl) ?_
  refine ex_iret ok_X12_leader (mi 19 rfl) rfl ?_
  exact ⟨_, rfl, fun e => absurd e (by decide), apI (a := 0) rfl, kq apq (fk f.1 0 rfl), kp_ap rfl⟩
theorem d_leader_0_0 {G : GE} (hst : (ge_l G).stackTraces = false) {x : Nat}  : MM G 2 0 0 my_X12_leader x [.int (nI 0), .int (nI 0)] 0 (nI 0) := by
  intro h f
  refine ex_M_of ok_X12_leader cw_X12_leader rfl hst (Nat.le_of_ble_eq_true rfl) ?_
  refine ex_aload_n ok_X12_leader (mi 0 rfl) rfl ?_
  refine ex_iload_n ok_X12_leader (mi 1 rfl) rfl ?_
  refine ex_iconst ok_X12_leader (mi 2 rfl) ?_
  refine ex_iconst ok_X12_leader (mi 3 rfl) ?_
  refine ex_callSr (As := [_, _, _]) ok_X12_leader (mi 4 rfl) rfl (m_in1 hst (by decide) (by decide)) rfl rfl rfl (by decide) (Nat.le_of_ble_eq_true rfl) (by decide) ?_
  refine ex_if_eq (tgt := 24) ok_X12_leader (mi 5 rfl) rfl (fun hn => absurd hn (by decide)) (fun _ => ?_)
  refine ex_iload_n ok_X12_leader (mi 6 rfl) rfl ?_
  refine ex_iconst ok_X12_leader (mi 7 rfl) ?_
  refine ex_bipush ok_X12_leader (mi 8 rfl) ?_
  refine ex_callSr (As := [_, _, _]) ok_X12_leader (mi 9 rfl) rfl (m_in1 hst (by decide) (by decide)) rfl rfl rfl (by decide) (Nat.le_of_ble_eq_true rfl) (by decide) ?_
  refine ex_if_eq (tgt := 24) ok_X12_leader (mi 10 rfl) rfl (fun hn => absurd hn (by decide)) (fun _ => ?_)
  refine ex_iconst ok_X12_leader (mi 11 rfl) ?_
  refine ex_goto (tgt := 25) ok_X12_leader (mi 12 rfl) rfl ?_
  refine ex_iconst ok_X12_leader (mi 14 rfl) ?_
  refine ex_iconst ok_X12_leader (mi 15 rfl) ?_
  refine ex_callVr (As := [_, _, _]) (v := some (.int (nI 0))) (g1 := (ap x [(0, 0, 1200, 0, (nI 0))] h)) ok_X12_leader (mi 16 rfl) rfl (m_ref111 (ws := []) hst f.1) rfl (fk f.1 0 rfl) rfl rfl (by decide) (by decide) (Nat.le_of_ble_eq_true rfl) (by decide) ?_
  refine ex_if_eq (tgt := 35) ok_X12_leader (mi 17 rfl) rfl (fun _ => ?_) (fun hn => absurd (by decide) hn)
  refine ex_aload_n ok_X12_leader (mi 20 rfl) rfl ?_
  refine ex_getRx ok_X12_leader (mi 21 rfl) rfl rfl (kq apq (fk f.1 0 rfl)) (rq apq (fr f.1 1 rfl)) (kq apq (fk f.1 2 rfl)) (by decide) ?_
  refine ex_iload_n ok_X12_leader (mi 22 rfl) rfl ?_
  refine ex_ialdx ok_X12_leader (mi 23 rfl) (Or.inl (kq apq (fk f.1 2 rfl))) (nq apq (fn f.1 2 rfl)) (pk_in 0 3 (by decide)) (apA0 (j := 0) rfl (fe f.2.2.1 167 rfl)) ?_
  refine ex_iconst ok_X12_leader (mi 24 rfl) ?_
  refine ex_icmp_ne (tgt := 49) ok_X12_leader (mi 25 rfl) rfl (fun _ => ?_) (fun hn => absurd hn (by decide))
  refine ex_iconst ok_X12_leader (mi 28 rfl) ?_
  refine ex_istore_n ok_X12_leader (mi 29 rfl) ?_
  refine ex_iload_n ok_X12_leader (mi 30 rfl) rfl ?_
  refine ex_tblk (tgt := 120) ok_X12_leader (mi 31 rfl) (by decide) (by decide) (by decide) (by decide) ?_
  refine ex_aload_n ok_X12_leader (mi 32 rfl) rfl ?_
  refine ex_getRx ok_X12_leader (mi 33 rfl) rfl rfl (kq apq (fk f.1 0 rfl)) (rq apq (fr f.1 1 rfl)) (kq apq (fk f.1 2 rfl)) (by decide) ?_
  refine ex_iload_n ok_X12_leader (mi 34 rfl) rfl ?_
  refine ex_ialdx ok_X12_leader (mi 35 rfl) (Or.inl (kq apq (fk f.1 2 rfl))) (nq apq (fn f.1 2 rfl)) (pk_in 0 3 (by decide)) (apA0 (j := 0) rfl (fe f.2.2.1 167 rfl)) ?_
  refine ex_iret ok_X12_leader (mi 36 rfl) rfl ?_
  exact ⟨_, rfl, fun _ => by decide, apI (a := 0) rfl, kq apq (fk f.1 0 rfl), kp_ap rfl⟩
theorem d_leader_0_1 {G : GE} (hst : (ge_l G).stackTraces = false) {x : Nat}  : MM G 2 0 0 my_X12_leader x [.int (nI 0), .int (nI 1)] 0 ((-1)) := by
  intro h f
  refine ex_M_of ok_X12_leader cw_X12_leader rfl hst (Nat.le_of_ble_eq_true rfl) ?_
  refine ex_aload_n ok_X12_leader (mi 0 rfl) rfl ?_
  refine ex_iload_n ok_X12_leader (mi 1 rfl) rfl ?_
  refine ex_iconst ok_X12_leader (mi 2 rfl) ?_
  refine ex_iconst ok_X12_leader (mi 3 rfl) ?_
  refine ex_callSr (As := [_, _, _]) ok_X12_leader (mi 4 rfl) rfl (m_in1 hst (by decide) (by decide)) rfl rfl rfl (by decide) (Nat.le_of_ble_eq_true rfl) (by decide) ?_
  refine ex_if_eq (tgt := 24) ok_X12_leader (mi 5 rfl) rfl (fun hn => absurd hn (by decide)) (fun _ => ?_)
  refine ex_iload_n ok_X12_leader (mi 6 rfl) rfl ?_
  refine ex_iconst ok_X12_leader (mi 7 rfl) ?_
  refine ex_bipush ok_X12_leader (mi 8 rfl) ?_
  refine ex_callSr (As := [_, _, _]) ok_X12_leader (mi 9 rfl) rfl (m_in1 hst (by decide) (by decide)) rfl rfl rfl (by decide) (Nat.le_of_ble_eq_true rfl) (by decide) ?_
  refine ex_if_eq (tgt := 24) ok_X12_leader (mi 10 rfl) rfl (fun hn => absurd hn (by decide)) (fun _ => ?_)
  refine ex_iconst ok_X12_leader (mi 11 rfl) ?_
  refine ex_goto (tgt := 25) ok_X12_leader (mi 12 rfl) rfl ?_
  refine ex_iconst ok_X12_leader (mi 14 rfl) ?_
  refine ex_iconst ok_X12_leader (mi 15 rfl) ?_
  refine ex_callVr (As := [_, _, _]) (v := some (.int (nI 0))) (g1 := (ap x [(0, 0, 1200, 0, (nI 0))] h)) ok_X12_leader (mi 16 rfl) rfl (m_ref111 (ws := []) hst f.1) rfl (fk f.1 0 rfl) rfl rfl (by decide) (by decide) (Nat.le_of_ble_eq_true rfl) (by decide) ?_
  refine ex_if_eq (tgt := 35) ok_X12_leader (mi 17 rfl) rfl (fun _ => ?_) (fun hn => absurd (by decide) hn)
  refine ex_aload_n ok_X12_leader (mi 20 rfl) rfl ?_
  refine ex_getRx ok_X12_leader (mi 21 rfl) rfl rfl (kq apq (fk f.1 0 rfl)) (rq apq (fr f.1 1 rfl)) (kq apq (fk f.1 2 rfl)) (by decide) ?_
  refine ex_iload_n ok_X12_leader (mi 22 rfl) rfl ?_
  refine ex_ialdx ok_X12_leader (mi 23 rfl) (Or.inl (kq apq (fk f.1 2 rfl))) (nq apq (fn f.1 2 rfl)) (pk_in 0 3 (by decide)) (apA0 (j := 0) rfl (fe f.2.2.1 167 rfl)) ?_
  refine ex_iconst ok_X12_leader (mi 24 rfl) ?_
  refine ex_icmp_ne (tgt := 49) ok_X12_leader (mi 25 rfl) rfl (fun _ => ?_) (fun hn => absurd hn (by decide))
  refine ex_iconst ok_X12_leader (mi 28 rfl) ?_
  refine ex_istore_n ok_X12_leader (mi 29 rfl) ?_
  refine ex_iload_n ok_X12_leader (mi 30 rfl) rfl ?_
  refine ex_tblk (tgt := 127) ok_X12_leader (mi 31 rfl) (by decide) (by decide) (by decide) (by decide) ?_
  refine ex_aload_n ok_X12_leader (mi 37 rfl) rfl ?_
  refine ex_getRx ok_X12_leader (mi 38 rfl) rfl rfl (kq apq (fk f.1 0 rfl)) (rq apq (fr f.1 2 rfl)) (kq apq (fk f.1 3 rfl)) (by decide) ?_
  refine ex_iload_n ok_X12_leader (mi 39 rfl) rfl ?_
  refine ex_ialdx ok_X12_leader (mi 40 rfl) (Or.inl (kq apq (fk f.1 3 rfl))) (nq apq (fn f.1 3 rfl)) (pk_in 0 3 (by decide)) (apA0 (j := 0) rfl (fe f.2.2.1 166 rfl)) ?_
  refine ex_iret ok_X12_leader (mi 41 rfl) rfl ?_
  exact ⟨_, rfl, fun _ => by decide, apI (a := 0) rfl, kq apq (fk f.1 0 rfl), kp_ap rfl⟩
theorem d_leader_0_2 {G : GE} (hst : (ge_l G).stackTraces = false) {x : Nat}  : MM G 2 0 0 my_X12_leader x [.int (nI 0), .int (nI 2)] 0 (nI 0) := by
  intro h f
  refine ex_M_of ok_X12_leader cw_X12_leader rfl hst (Nat.le_of_ble_eq_true rfl) ?_
  refine ex_aload_n ok_X12_leader (mi 0 rfl) rfl ?_
  refine ex_iload_n ok_X12_leader (mi 1 rfl) rfl ?_
  refine ex_iconst ok_X12_leader (mi 2 rfl) ?_
  refine ex_iconst ok_X12_leader (mi 3 rfl) ?_
  refine ex_callSr (As := [_, _, _]) ok_X12_leader (mi 4 rfl) rfl (m_in1 hst (by decide) (by decide)) rfl rfl rfl (by decide) (Nat.le_of_ble_eq_true rfl) (by decide) ?_
  refine ex_if_eq (tgt := 24) ok_X12_leader (mi 5 rfl) rfl (fun hn => absurd hn (by decide)) (fun _ => ?_)
  refine ex_iload_n ok_X12_leader (mi 6 rfl) rfl ?_
  refine ex_iconst ok_X12_leader (mi 7 rfl) ?_
  refine ex_bipush ok_X12_leader (mi 8 rfl) ?_
  refine ex_callSr (As := [_, _, _]) ok_X12_leader (mi 9 rfl) rfl (m_in1 hst (by decide) (by decide)) rfl rfl rfl (by decide) (Nat.le_of_ble_eq_true rfl) (by decide) ?_
  refine ex_if_eq (tgt := 24) ok_X12_leader (mi 10 rfl) rfl (fun hn => absurd hn (by decide)) (fun _ => ?_)
  refine ex_iconst ok_X12_leader (mi 11 rfl) ?_
  refine ex_goto (tgt := 25) ok_X12_leader (mi 12 rfl) rfl ?_
  refine ex_iconst ok_X12_leader (mi 14 rfl) ?_
  refine ex_iconst ok_X12_leader (mi 15 rfl) ?_
  refine ex_callVr (As := [_, _, _]) (v := some (.int (nI 0))) (g1 := (ap x [(0, 0, 1200, 0, (nI 0))] h)) ok_X12_leader (mi 16 rfl) rfl (m_ref111 (ws := []) hst f.1) rfl (fk f.1 0 rfl) rfl rfl (by decide) (by decide) (Nat.le_of_ble_eq_true rfl) (by decide) ?_
  refine ex_if_eq (tgt := 35) ok_X12_leader (mi 17 rfl) rfl (fun _ => ?_) (fun hn => absurd (by decide) hn)
  refine ex_aload_n ok_X12_leader (mi 20 rfl) rfl ?_
  refine ex_getRx ok_X12_leader (mi 21 rfl) rfl rfl (kq apq (fk f.1 0 rfl)) (rq apq (fr f.1 1 rfl)) (kq apq (fk f.1 2 rfl)) (by decide) ?_
  refine ex_iload_n ok_X12_leader (mi 22 rfl) rfl ?_
  refine ex_ialdx ok_X12_leader (mi 23 rfl) (Or.inl (kq apq (fk f.1 2 rfl))) (nq apq (fn f.1 2 rfl)) (pk_in 0 3 (by decide)) (apA0 (j := 0) rfl (fe f.2.2.1 167 rfl)) ?_
  refine ex_iconst ok_X12_leader (mi 24 rfl) ?_
  refine ex_icmp_ne (tgt := 49) ok_X12_leader (mi 25 rfl) rfl (fun _ => ?_) (fun hn => absurd hn (by decide))
  refine ex_iconst ok_X12_leader (mi 28 rfl) ?_
  refine ex_istore_n ok_X12_leader (mi 29 rfl) ?_
  refine ex_iload_n ok_X12_leader (mi 30 rfl) rfl ?_
  refine ex_tblk (tgt := 134) ok_X12_leader (mi 31 rfl) (by decide) (by decide) (by decide) (by decide) ?_
  refine ex_aload_n ok_X12_leader (mi 42 rfl) rfl ?_
  refine ex_getRx ok_X12_leader (mi 43 rfl) rfl rfl (kq apq (fk f.1 0 rfl)) (rq apq (fr f.1 3 rfl)) (kq apq (fk f.1 4 rfl)) (by decide) ?_
  refine ex_iload_n ok_X12_leader (mi 44 rfl) rfl ?_
  refine ex_ialdx ok_X12_leader (mi 45 rfl) (Or.inl (kq apq (fk f.1 4 rfl))) (nq apq (fn f.1 4 rfl)) (pk_in 0 3 (by decide)) (apA0 (j := 0) rfl (fe f.2.2.1 165 rfl)) ?_
  refine ex_iret ok_X12_leader (mi 46 rfl) rfl ?_
  exact ⟨_, rfl, fun _ => by decide, apI (a := 0) rfl, kq apq (fk f.1 0 rfl), kp_ap rfl⟩
theorem d_leader_0_3 {G : GE} (hst : (ge_l G).stackTraces = false) {x : Nat}  : MM G 2 0 0 my_X12_leader x [.int (nI 0), .int (nI 3)] 0 (nI 0) := by
  intro h f
  refine ex_M_of ok_X12_leader cw_X12_leader rfl hst (Nat.le_of_ble_eq_true rfl) ?_
  refine ex_aload_n ok_X12_leader (mi 0 rfl) rfl ?_
  refine ex_iload_n ok_X12_leader (mi 1 rfl) rfl ?_
  refine ex_iconst ok_X12_leader (mi 2 rfl) ?_
  refine ex_iconst ok_X12_leader (mi 3 rfl) ?_
  refine ex_callSr (As := [_, _, _]) ok_X12_leader (mi 4 rfl) rfl (m_in1 hst (by decide) (by decide)) rfl rfl rfl (by decide) (Nat.le_of_ble_eq_true rfl) (by decide) ?_
  refine ex_if_eq (tgt := 24) ok_X12_leader (mi 5 rfl) rfl (fun hn => absurd hn (by decide)) (fun _ => ?_)
  refine ex_iload_n ok_X12_leader (mi 6 rfl) rfl ?_
  refine ex_iconst ok_X12_leader (mi 7 rfl) ?_
  refine ex_bipush ok_X12_leader (mi 8 rfl) ?_
  refine ex_callSr (As := [_, _, _]) ok_X12_leader (mi 9 rfl) rfl (m_in1 hst (by decide) (by decide)) rfl rfl rfl (by decide) (Nat.le_of_ble_eq_true rfl) (by decide) ?_
  refine ex_if_eq (tgt := 24) ok_X12_leader (mi 10 rfl) rfl (fun hn => absurd hn (by decide)) (fun _ => ?_)
  refine ex_iconst ok_X12_leader (mi 11 rfl) ?_
  refine ex_goto (tgt := 25) ok_X12_leader (mi 12 rfl) rfl ?_
  refine ex_iconst ok_X12_leader (mi 14 rfl) ?_
  refine ex_iconst ok_X12_leader (mi 15 rfl) ?_
  refine ex_callVr (As := [_, _, _]) (v := some (.int (nI 0))) (g1 := (ap x [(0, 0, 1200, 0, (nI 0))] h)) ok_X12_leader (mi 16 rfl) rfl (m_ref111 (ws := []) hst f.1) rfl (fk f.1 0 rfl) rfl rfl (by decide) (by decide) (Nat.le_of_ble_eq_true rfl) (by decide) ?_
  refine ex_if_eq (tgt := 35) ok_X12_leader (mi 17 rfl) rfl (fun _ => ?_) (fun hn => absurd (by decide) hn)
  refine ex_aload_n ok_X12_leader (mi 20 rfl) rfl ?_
  refine ex_getRx ok_X12_leader (mi 21 rfl) rfl rfl (kq apq (fk f.1 0 rfl)) (rq apq (fr f.1 1 rfl)) (kq apq (fk f.1 2 rfl)) (by decide) ?_
  refine ex_iload_n ok_X12_leader (mi 22 rfl) rfl ?_
  refine ex_ialdx ok_X12_leader (mi 23 rfl) (Or.inl (kq apq (fk f.1 2 rfl))) (nq apq (fn f.1 2 rfl)) (pk_in 0 3 (by decide)) (apA0 (j := 0) rfl (fe f.2.2.1 167 rfl)) ?_
  refine ex_iconst ok_X12_leader (mi 24 rfl) ?_
  refine ex_icmp_ne (tgt := 49) ok_X12_leader (mi 25 rfl) rfl (fun _ => ?_) (fun hn => absurd hn (by decide))
  refine ex_iconst ok_X12_leader (mi 28 rfl) ?_
  refine ex_istore_n ok_X12_leader (mi 29 rfl) ?_
  refine ex_iload_n ok_X12_leader (mi 30 rfl) rfl ?_
  refine ex_tblk (tgt := 141) ok_X12_leader (mi 31 rfl) (by decide) (by decide) (by decide) (by decide) ?_
  refine ex_aload_n ok_X12_leader (mi 47 rfl) rfl ?_
  refine ex_getRx ok_X12_leader (mi 48 rfl) rfl rfl (kq apq (fk f.1 0 rfl)) (rq apq (fr f.1 4 rfl)) (kq apq (fk f.1 5 rfl)) (by decide) ?_
  refine ex_iload_n ok_X12_leader (mi 49 rfl) rfl ?_
  refine ex_ialdx ok_X12_leader (mi 50 rfl) (Or.inl (kq apq (fk f.1 5 rfl))) (nq apq (fn f.1 5 rfl)) (pk_in 0 3 (by decide)) (apA0 (j := 0) rfl (fe f.2.2.1 164 rfl)) ?_
  refine ex_iret ok_X12_leader (mi 51 rfl) rfl ?_
  exact ⟨_, rfl, fun _ => by decide, apI (a := 0) rfl, kq apq (fk f.1 0 rfl), kp_ap rfl⟩
theorem d_leader_0_4 {G : GE} (hst : (ge_l G).stackTraces = false) {x : Nat}  : MM G 2 0 0 my_X12_leader x [.int (nI 0), .int (nI 4)] 0 (nI 7) := by
  intro h f
  refine ex_M_of ok_X12_leader cw_X12_leader rfl hst (Nat.le_of_ble_eq_true rfl) ?_
  refine ex_aload_n ok_X12_leader (mi 0 rfl) rfl ?_
  refine ex_iload_n ok_X12_leader (mi 1 rfl) rfl ?_
  refine ex_iconst ok_X12_leader (mi 2 rfl) ?_
  refine ex_iconst ok_X12_leader (mi 3 rfl) ?_
  refine ex_callSr (As := [_, _, _]) ok_X12_leader (mi 4 rfl) rfl (m_in1 hst (by decide) (by decide)) rfl rfl rfl (by decide) (Nat.le_of_ble_eq_true rfl) (by decide) ?_
  refine ex_if_eq (tgt := 24) ok_X12_leader (mi 5 rfl) rfl (fun hn => absurd hn (by decide)) (fun _ => ?_)
  refine ex_iload_n ok_X12_leader (mi 6 rfl) rfl ?_
  refine ex_iconst ok_X12_leader (mi 7 rfl) ?_
  refine ex_bipush ok_X12_leader (mi 8 rfl) ?_
  refine ex_callSr (As := [_, _, _]) ok_X12_leader (mi 9 rfl) rfl (m_in1 hst (by decide) (by decide)) rfl rfl rfl (by decide) (Nat.le_of_ble_eq_true rfl) (by decide) ?_
  refine ex_if_eq (tgt := 24) ok_X12_leader (mi 10 rfl) rfl (fun hn => absurd hn (by decide)) (fun _ => ?_)
  refine ex_iconst ok_X12_leader (mi 11 rfl) ?_
  refine ex_goto (tgt := 25) ok_X12_leader (mi 12 rfl) rfl ?_
  refine ex_iconst ok_X12_leader (mi 14 rfl) ?_
  refine ex_iconst ok_X12_leader (mi 15 rfl) ?_
  refine ex_callVr (As := [_, _, _]) (v := some (.int (nI 0))) (g1 := (ap x [(0, 0, 1200, 0, (nI 0))] h)) ok_X12_leader (mi 16 rfl) rfl (m_ref111 (ws := []) hst f.1) rfl (fk f.1 0 rfl) rfl rfl (by decide) (by decide) (Nat.le_of_ble_eq_true rfl) (by decide) ?_
  refine ex_if_eq (tgt := 35) ok_X12_leader (mi 17 rfl) rfl (fun _ => ?_) (fun hn => absurd (by decide) hn)
  refine ex_aload_n ok_X12_leader (mi 20 rfl) rfl ?_
  refine ex_getRx ok_X12_leader (mi 21 rfl) rfl rfl (kq apq (fk f.1 0 rfl)) (rq apq (fr f.1 1 rfl)) (kq apq (fk f.1 2 rfl)) (by decide) ?_
  refine ex_iload_n ok_X12_leader (mi 22 rfl) rfl ?_
  refine ex_ialdx ok_X12_leader (mi 23 rfl) (Or.inl (kq apq (fk f.1 2 rfl))) (nq apq (fn f.1 2 rfl)) (pk_in 0 3 (by decide)) (apA0 (j := 0) rfl (fe f.2.2.1 167 rfl)) ?_
  refine ex_iconst ok_X12_leader (mi 24 rfl) ?_
  refine ex_icmp_ne (tgt := 49) ok_X12_leader (mi 25 rfl) rfl (fun _ => ?_) (fun hn => absurd hn (by decide))
  refine ex_iconst ok_X12_leader (mi 28 rfl) ?_
  refine ex_istore_n ok_X12_leader (mi 29 rfl) ?_
  refine ex_iload_n ok_X12_leader (mi 30 rfl) rfl ?_
  refine ex_tblk (tgt := 148) ok_X12_leader (mi 31 rfl) (by decide) (by decide) (by decide) (by decide) ?_
  refine ex_aload_n ok_X12_leader (mi 52 rfl) rfl ?_
  refine ex_getRx ok_X12_leader (mi 53 rfl) rfl rfl (kq apq (fk f.1 0 rfl)) (rq apq (fr f.1 5 rfl)) (kq apq (fk f.1 6 rfl)) (by decide) ?_
  refine ex_iload_n ok_X12_leader (mi 54 rfl) rfl ?_
  refine ex_ialdx ok_X12_leader (mi 55 rfl) (Or.inl (kq apq (fk f.1 6 rfl))) (nq apq (fn f.1 6 rfl)) (pk_in 0 3 (by decide)) (apA0 (j := 0) rfl (fe f.2.2.1 163 rfl)) ?_
  refine ex_iret ok_X12_leader (mi 56 rfl) rfl ?_
  exact ⟨_, rfl, fun _ => by decide, apI (a := 0) rfl, kq apq (fk f.1 0 rfl), kp_ap rfl⟩
theorem d_leader_0_5 {G : GE} (hst : (ge_l G).stackTraces = false) {x : Nat}  : MM G 2 0 0 my_X12_leader x [.int (nI 0), .int (nI 5)] 0 (nI 0) := by
  intro h f
  refine ex_M_of ok_X12_leader cw_X12_leader rfl hst (Nat.le_of_ble_eq_true rfl) ?_
  refine ex_aload_n ok_X12_leader (mi 0 rfl) rfl ?_
  refine ex_iload_n ok_X12_leader (mi 1 rfl) rfl ?_
  refine ex_iconst ok_X12_leader (mi 2 rfl) ?_
  refine ex_iconst ok_X12_leader (mi 3 rfl) ?_
  refine ex_callSr (As := [_, _, _]) ok_X12_leader (mi 4 rfl) rfl (m_in1 hst (by decide) (by decide)) rfl rfl rfl (by decide) (Nat.le_of_ble_eq_true rfl) (by decide) ?_
  refine ex_if_eq (tgt := 24) ok_X12_leader (mi 5 rfl) rfl (fun hn => absurd hn (by decide)) (fun _ => ?_)
  refine ex_iload_n ok_X12_leader (mi 6 rfl) rfl ?_
  refine ex_iconst ok_X12_leader (mi 7 rfl) ?_
  refine ex_bipush ok_X12_leader (mi 8 rfl) ?_
  refine ex_callSr (As := [_, _, _]) ok_X12_leader (mi 9 rfl) rfl (m_in1 hst (by decide) (by decide)) rfl rfl rfl (by decide) (Nat.le_of_ble_eq_true rfl) (by decide) ?_
  refine ex_if_eq (tgt := 24) ok_X12_leader (mi 10 rfl) rfl (fun hn => absurd hn (by decide)) (fun _ => ?_)
  refine ex_iconst ok_X12_leader (mi 11 rfl) ?_
  refine ex_goto (tgt := 25) ok_X12_leader (mi 12 rfl) rfl ?_
  refine ex_iconst ok_X12_leader (mi 14 rfl) ?_
  refine ex_iconst ok_X12_leader (mi 15 rfl) ?_
  refine ex_callVr (As := [_, _, _]) (v := some (.int (nI 0))) (g1 := (ap x [(0, 0, 1200, 0, (nI 0))] h)) ok_X12_leader (mi 16 rfl) rfl (m_ref111 (ws := []) hst f.1) rfl (fk f.1 0 rfl) rfl rfl (by decide) (by decide) (Nat.le_of_ble_eq_true rfl) (by decide) ?_
  refine ex_if_eq (tgt := 35) ok_X12_leader (mi 17 rfl) rfl (fun _ => ?_) (fun hn => absurd (by decide) hn)
  refine ex_aload_n ok_X12_leader (mi 20 rfl) rfl ?_
  refine ex_getRx ok_X12_leader (mi 21 rfl) rfl rfl (kq apq (fk f.1 0 rfl)) (rq apq (fr f.1 1 rfl)) (kq apq (fk f.1 2 rfl)) (by decide) ?_
  refine ex_iload_n ok_X12_leader (mi 22 rfl) rfl ?_
  refine ex_ialdx ok_X12_leader (mi 23 rfl) (Or.inl (kq apq (fk f.1 2 rfl))) (nq apq (fn f.1 2 rfl)) (pk_in 0 3 (by decide)) (apA0 (j := 0) rfl (fe f.2.2.1 167 rfl)) ?_
  refine ex_iconst ok_X12_leader (mi 24 rfl) ?_
  refine ex_icmp_ne (tgt := 49) ok_X12_leader (mi 25 rfl) rfl (fun _ => ?_) (fun hn => absurd hn (by decide))
  refine ex_iconst ok_X12_leader (mi 28 rfl) ?_
  refine ex_istore_n ok_X12_leader (mi 29 rfl) ?_
  refine ex_iload_n ok_X12_leader (mi 30 rfl) rfl ?_
  refine ex_tblk (tgt := 155) ok_X12_leader (mi 31 rfl) (by decide) (by decide) (by decide) (by decide) ?_
  refine ex_aload_n ok_X12_leader (mi 57 rfl) rfl ?_
  refine ex_iload_n ok_X12_leader (mi 58 rfl) rfl ?_
  refine ex_callVr (As := [_]) ok_X12_leader (mi 59 rfl) rfl (m_hist0 hst (shq apq f.1) (ap_tG0 rfl f.2.2.2)) rfl (kq apq (fk f.1 0 rfl)) rfl rfl (by decide) (by decide) (Nat.le_of_ble_eq_true rfl) (by decide) ?_
  refine ex_iret ok_X12_leader (mi 60 rfl) rfl ?_
  exact ⟨_, rfl, fun _ => by decide, apI (a := 0) rfl, kq apq (fk f.1 0 rfl), kp_ap rfl⟩
theorem d_leader_0_6 {G : GE} (hst : (ge_l G).stackTraces = false) {x : Nat}  : MM G 2 0 0 my_X12_leader x [.int (nI 0), .int (nI 6)] 0 (nI 0) := by
  intro h f
  refine ex_M_of ok_X12_leader cw_X12_leader rfl hst (Nat.le_of_ble_eq_true rfl) ?_
  refine ex_aload_n ok_X12_leader (mi 0 rfl) rfl ?_
  refine ex_iload_n ok_X12_leader (mi 1 rfl) rfl ?_
  refine ex_iconst ok_X12_leader (mi 2 rfl) ?_
  refine ex_iconst ok_X12_leader (mi 3 rfl) ?_
  refine ex_callSr (As := [_, _, _]) ok_X12_leader (mi 4 rfl) rfl (m_in1 hst (by decide) (by decide)) rfl rfl rfl (by decide) (Nat.le_of_ble_eq_true rfl) (by decide) ?_
  refine ex_if_eq (tgt := 24) ok_X12_leader (mi 5 rfl) rfl (fun hn => absurd hn (by decide)) (fun _ => ?_)
  refine ex_iload_n ok_X12_leader (mi 6 rfl) rfl ?_
  refine ex_iconst ok_X12_leader (mi 7 rfl) ?_
  refine ex_bipush ok_X12_leader (mi 8 rfl) ?_
  refine ex_callSr (As := [_, _, _]) ok_X12_leader (mi 9 rfl) rfl (m_in1 hst (by decide) (by decide)) rfl rfl rfl (by decide) (Nat.le_of_ble_eq_true rfl) (by decide) ?_
  refine ex_if_eq (tgt := 24) ok_X12_leader (mi 10 rfl) rfl (fun hn => absurd hn (by decide)) (fun _ => ?_)
  refine ex_iconst ok_X12_leader (mi 11 rfl) ?_
  refine ex_goto (tgt := 25) ok_X12_leader (mi 12 rfl) rfl ?_
  refine ex_iconst ok_X12_leader (mi 14 rfl) ?_
  refine ex_iconst ok_X12_leader (mi 15 rfl) ?_
  refine ex_callVr (As := [_, _, _]) (v := some (.int (nI 0))) (g1 := (ap x [(0, 0, 1200, 0, (nI 0))] h)) ok_X12_leader (mi 16 rfl) rfl (m_ref111 (ws := []) hst f.1) rfl (fk f.1 0 rfl) rfl rfl (by decide) (by decide) (Nat.le_of_ble_eq_true rfl) (by decide) ?_
  refine ex_if_eq (tgt := 35) ok_X12_leader (mi 17 rfl) rfl (fun _ => ?_) (fun hn => absurd (by decide) hn)
  refine ex_aload_n ok_X12_leader (mi 20 rfl) rfl ?_
  refine ex_getRx ok_X12_leader (mi 21 rfl) rfl rfl (kq apq (fk f.1 0 rfl)) (rq apq (fr f.1 1 rfl)) (kq apq (fk f.1 2 rfl)) (by decide) ?_
  refine ex_iload_n ok_X12_leader (mi 22 rfl) rfl ?_
  refine ex_ialdx ok_X12_leader (mi 23 rfl) (Or.inl (kq apq (fk f.1 2 rfl))) (nq apq (fn f.1 2 rfl)) (pk_in 0 3 (by decide)) (apA0 (j := 0) rfl (fe f.2.2.1 167 rfl)) ?_
  refine ex_iconst ok_X12_leader (mi 24 rfl) ?_
  refine ex_icmp_ne (tgt := 49) ok_X12_leader (mi 25 rfl) rfl (fun _ => ?_) (fun hn => absurd hn (by decide))
  refine ex_iconst ok_X12_leader (mi 28 rfl) ?_
  refine ex_istore_n ok_X12_leader (mi 29 rfl) ?_
  refine ex_iload_n ok_X12_leader (mi 30 rfl) rfl ?_
  refine ex_tblk (tgt := 161) ok_X12_leader (mi 31 rfl) (by decide) (by decide) (by decide) (by decide) ?_
  refine ex_iload_n ok_X12_leader (mi 61 rfl) rfl ?_
  refine ex_if_eq (tgt := 174) ok_X12_leader (mi 62 rfl) rfl (fun _ => ?_) (fun hn => absurd (by decide) hn)
  refine ex_iconst ok_X12_leader (mi 68 rfl) ?_
  refine ex_iret ok_X12_leader (mi 69 rfl) rfl ?_
  exact ⟨_, rfl, fun _ => by decide, apI (a := 0) rfl, kq apq (fk f.1 0 rfl), kp_ap rfl⟩
theorem d_leader_0_7 {G : GE} (hst : (ge_l G).stackTraces = false) {x : Nat}  : MM G 2 0 0 my_X12_leader x [.int (nI 0), .int (nI 7)] 0 (nI 0) := by
  intro h f
  refine ex_M_of ok_X12_leader cw_X12_leader rfl hst (Nat.le_of_ble_eq_true rfl) ?_
  refine ex_aload_n ok_X12_leader (mi 0 rfl) rfl ?_
  refine ex_iload_n ok_X12_leader (mi 1 rfl) rfl ?_
  refine ex_iconst ok_X12_leader (mi 2 rfl) ?_
  refine ex_iconst ok_X12_leader (mi 3 rfl) ?_
  refine ex_callSr (As := [_, _, _]) ok_X12_leader (mi 4 rfl) rfl (m_in1 hst (by decide) (by decide)) rfl rfl rfl (by decide) (Nat.le_of_ble_eq_true rfl) (by decide) ?_
  refine ex_if_eq (tgt := 24) ok_X12_leader (mi 5 rfl) rfl (fun hn => absurd hn (by decide)) (fun _ => ?_)
  refine ex_iload_n ok_X12_leader (mi 6 rfl) rfl ?_
  refine ex_iconst ok_X12_leader (mi 7 rfl) ?_
  refine ex_bipush ok_X12_leader (mi 8 rfl) ?_
  refine ex_callSr (As := [_, _, _]) ok_X12_leader (mi 9 rfl) rfl (m_in1 hst (by decide) (by decide)) rfl rfl rfl (by decide) (Nat.le_of_ble_eq_true rfl) (by decide) ?_
  refine ex_if_eq (tgt := 24) ok_X12_leader (mi 10 rfl) rfl (fun hn => absurd hn (by decide)) (fun _ => ?_)
  refine ex_iconst ok_X12_leader (mi 11 rfl) ?_
  refine ex_goto (tgt := 25) ok_X12_leader (mi 12 rfl) rfl ?_
  refine ex_iconst ok_X12_leader (mi 14 rfl) ?_
  refine ex_iconst ok_X12_leader (mi 15 rfl) ?_
  refine ex_callVr (As := [_, _, _]) (v := some (.int (nI 0))) (g1 := (ap x [(0, 0, 1200, 0, (nI 0))] h)) ok_X12_leader (mi 16 rfl) rfl (m_ref111 (ws := []) hst f.1) rfl (fk f.1 0 rfl) rfl rfl (by decide) (by decide) (Nat.le_of_ble_eq_true rfl) (by decide) ?_
  refine ex_if_eq (tgt := 35) ok_X12_leader (mi 17 rfl) rfl (fun _ => ?_) (fun hn => absurd (by decide) hn)
  refine ex_aload_n ok_X12_leader (mi 20 rfl) rfl ?_
  refine ex_getRx ok_X12_leader (mi 21 rfl) rfl rfl (kq apq (fk f.1 0 rfl)) (rq apq (fr f.1 1 rfl)) (kq apq (fk f.1 2 rfl)) (by decide) ?_
  refine ex_iload_n ok_X12_leader (mi 22 rfl) rfl ?_
  refine ex_ialdx ok_X12_leader (mi 23 rfl) (Or.inl (kq apq (fk f.1 2 rfl))) (nq apq (fn f.1 2 rfl)) (pk_in 0 3 (by decide)) (apA0 (j := 0) rfl (fe f.2.2.1 167 rfl)) ?_
  refine ex_iconst ok_X12_leader (mi 24 rfl) ?_
  refine ex_icmp_ne (tgt := 49) ok_X12_leader (mi 25 rfl) rfl (fun _ => ?_) (fun hn => absurd hn (by decide))
  refine ex_iconst ok_X12_leader (mi 28 rfl) ?_
  refine ex_istore_n ok_X12_leader (mi 29 rfl) ?_
  refine ex_iload_n ok_X12_leader (mi 30 rfl) rfl ?_
  refine ex_tblk (tgt := 176) ok_X12_leader (mi 31 rfl) (by decide) (by decide) (by decide) (by decide) ?_
  refine ex_iload_n ok_X12_leader (mi 70 rfl) rfl ?_
  refine ex_if_eq (tgt := 189) ok_X12_leader (mi 71 rfl) rfl (fun _ => ?_) (fun hn => absurd (by decide) hn)
  refine ex_iconst ok_X12_leader (mi 77 rfl) ?_
  refine ex_iret ok_X12_leader (mi 78 rfl) rfl ?_
  exact ⟨_, rfl, fun _ => by decide, apI (a := 0) rfl, kq apq (fk f.1 0 rfl), kp_ap rfl⟩
theorem d_leader_0_8 {G : GE} (hst : (ge_l G).stackTraces = false) {x : Nat}  : MM G 2 0 0 my_X12_leader x [.int (nI 0), .int (nI 8)] 0 (nI 0) := by
  intro h f
  refine ex_M_of ok_X12_leader cw_X12_leader rfl hst (Nat.le_of_ble_eq_true rfl) ?_
  refine ex_aload_n ok_X12_leader (mi 0 rfl) rfl ?_
  refine ex_iload_n ok_X12_leader (mi 1 rfl) rfl ?_
  refine ex_iconst ok_X12_leader (mi 2 rfl) ?_
  refine ex_iconst ok_X12_leader (mi 3 rfl) ?_
  refine ex_callSr (As := [_, _, _]) ok_X12_leader (mi 4 rfl) rfl (m_in1 hst (by decide) (by decide)) rfl rfl rfl (by decide) (Nat.le_of_ble_eq_true rfl) (by decide) ?_
  refine ex_if_eq (tgt := 24) ok_X12_leader (mi 5 rfl) rfl (fun hn => absurd hn (by decide)) (fun _ => ?_)
  refine ex_iload_n ok_X12_leader (mi 6 rfl) rfl ?_
  refine ex_iconst ok_X12_leader (mi 7 rfl) ?_
  refine ex_bipush ok_X12_leader (mi 8 rfl) ?_
  refine ex_callSr (As := [_, _, _]) ok_X12_leader (mi 9 rfl) rfl (m_in1 hst (by decide) (by decide)) rfl rfl rfl (by decide) (Nat.le_of_ble_eq_true rfl) (by decide) ?_
  refine ex_if_eq (tgt := 24) ok_X12_leader (mi 10 rfl) rfl (fun hn => absurd hn (by decide)) (fun _ => ?_)
  refine ex_iconst ok_X12_leader (mi 11 rfl) ?_
  refine ex_goto (tgt := 25) ok_X12_leader (mi 12 rfl) rfl ?_
  refine ex_iconst ok_X12_leader (mi 14 rfl) ?_
  refine ex_iconst ok_X12_leader (mi 15 rfl) ?_
  refine ex_callVr (As := [_, _, _]) (v := some (.int (nI 0))) (g1 := (ap x [(0, 0, 1200, 0, (nI 0))] h)) ok_X12_leader (mi 16 rfl) rfl (m_ref111 (ws := []) hst f.1) rfl (fk f.1 0 rfl) rfl rfl (by decide) (by decide) (Nat.le_of_ble_eq_true rfl) (by decide) ?_
  refine ex_if_eq (tgt := 35) ok_X12_leader (mi 17 rfl) rfl (fun _ => ?_) (fun hn => absurd (by decide) hn)
  refine ex_aload_n ok_X12_leader (mi 20 rfl) rfl ?_
  refine ex_getRx ok_X12_leader (mi 21 rfl) rfl rfl (kq apq (fk f.1 0 rfl)) (rq apq (fr f.1 1 rfl)) (kq apq (fk f.1 2 rfl)) (by decide) ?_
  refine ex_iload_n ok_X12_leader (mi 22 rfl) rfl ?_
  refine ex_ialdx ok_X12_leader (mi 23 rfl) (Or.inl (kq apq (fk f.1 2 rfl))) (nq apq (fn f.1 2 rfl)) (pk_in 0 3 (by decide)) (apA0 (j := 0) rfl (fe f.2.2.1 167 rfl)) ?_
  refine ex_iconst ok_X12_leader (mi 24 rfl) ?_
  refine ex_icmp_ne (tgt := 49) ok_X12_leader (mi 25 rfl) rfl (fun _ => ?_) (fun hn => absurd hn (by decide))
  refine ex_iconst ok_X12_leader (mi 28 rfl) ?_
  refine ex_istore_n ok_X12_leader (mi 29 rfl) ?_
  refine ex_iload_n ok_X12_leader (mi 30 rfl) rfl ?_
  refine ex_tblk (tgt := 191) ok_X12_leader (mi 31 rfl) (by decide) (by decide) (by decide) (by decide) ?_
  refine ex_iload_n ok_X12_leader (mi 79 rfl) rfl ?_
  refine ex_if_eq (tgt := 204) ok_X12_leader (mi 80 rfl) rfl (fun _ => ?_) (fun hn => absurd (by decide) hn)
  refine ex_iconst ok_X12_leader (mi 86 rfl) ?_
  refine ex_iret ok_X12_leader (mi 87 rfl) rfl ?_
  exact ⟨_, rfl, fun _ => by decide, apI (a := 0) rfl, kq apq (fk f.1 0 rfl), kp_ap rfl⟩
theorem d_leader_0_9 {G : GE} (hst : (ge_l G).stackTraces = false) {x : Nat}  : MM G 2 0 0 my_X12_leader x [.int (nI 0), .int (nI 9)] 0 (nI 0) := by
  intro h f
  refine ex_M_of ok_X12_leader cw_X12_leader rfl hst (Nat.le_of_ble_eq_true rfl) ?_
  refine ex_aload_n ok_X12_leader (mi 0 rfl) rfl ?_
  refine ex_iload_n ok_X12_leader (mi 1 rfl) rfl ?_
  refine ex_iconst ok_X12_leader (mi 2 rfl) ?_
  refine ex_iconst ok_X12_leader (mi 3 rfl) ?_
  refine ex_callSr (As := [_, _, _]) ok_X12_leader (mi 4 rfl) rfl (m_in1 hst (by decide) (by decide)) rfl rfl rfl (by decide) (Nat.le_of_ble_eq_true rfl) (by decide) ?_
  refine ex_if_eq (tgt := 24) ok_X12_leader (mi 5 rfl) rfl (fun hn => absurd hn (by decide)) (fun _ => ?_)
  refine ex_iload_n ok_X12_leader (mi 6 rfl) rfl ?_
  refine ex_iconst ok_X12_leader (mi 7 rfl) ?_
  refine ex_bipush ok_X12_leader (mi 8 rfl) ?_
  refine ex_callSr (As := [_, _, _]) ok_X12_leader (mi 9 rfl) rfl (m_in1 hst (by decide) (by decide)) rfl rfl rfl (by decide) (Nat.le_of_ble_eq_true rfl) (by decide) ?_
  refine ex_if_eq (tgt := 24) ok_X12_leader (mi 10 rfl) rfl (fun hn => absurd hn (by decide)) (fun _ => ?_)
  refine ex_iconst ok_X12_leader (mi 11 rfl) ?_
  refine ex_goto (tgt := 25) ok_X12_leader (mi 12 rfl) rfl ?_
  refine ex_iconst ok_X12_leader (mi 14 rfl) ?_
  refine ex_iconst ok_X12_leader (mi 15 rfl) ?_
  refine ex_callVr (As := [_, _, _]) (v := some (.int (nI 0))) (g1 := (ap x [(0, 0, 1200, 0, (nI 0))] h)) ok_X12_leader (mi 16 rfl) rfl (m_ref111 (ws := []) hst f.1) rfl (fk f.1 0 rfl) rfl rfl (by decide) (by decide) (Nat.le_of_ble_eq_true rfl) (by decide) ?_
  refine ex_if_eq (tgt := 35) ok_X12_leader (mi 17 rfl) rfl (fun _ => ?_) (fun hn => absurd (by decide) hn)
  refine ex_aload_n ok_X12_leader (mi 20 rfl) rfl ?_
  refine ex_getRx ok_X12_leader (mi 21 rfl) rfl rfl (kq apq (fk f.1 0 rfl)) (rq apq (fr f.1 1 rfl)) (kq apq (fk f.1 2 rfl)) (by decide) ?_
  refine ex_iload_n ok_X12_leader (mi 22 rfl) rfl ?_
  refine ex_ialdx ok_X12_leader (mi 23 rfl) (Or.inl (kq apq (fk f.1 2 rfl))) (nq apq (fn f.1 2 rfl)) (pk_in 0 3 (by decide)) (apA0 (j := 0) rfl (fe f.2.2.1 167 rfl)) ?_
  refine ex_iconst ok_X12_leader (mi 24 rfl) ?_
  refine ex_icmp_ne (tgt := 49) ok_X12_leader (mi 25 rfl) rfl (fun _ => ?_) (fun hn => absurd hn (by decide))
  refine ex_iconst ok_X12_leader (mi 28 rfl) ?_
  refine ex_istore_n ok_X12_leader (mi 29 rfl) ?_
  refine ex_iload_n ok_X12_leader (mi 30 rfl) rfl ?_
  refine ex_tblk (tgt := 206) ok_X12_leader (mi 31 rfl) (by decide) (by decide) (by decide) (by decide) ?_
  refine ex_iload_n ok_X12_leader (mi 88 rfl) rfl ?_
  refine ex_if_eq (tgt := 218) ok_X12_leader (mi 89 rfl) rfl (fun _ => ?_) (fun hn => absurd (by decide) hn)
  refine ex_iconst ok_X12_leader (mi 94 rfl) ?_
  refine ex_iret ok_X12_leader (mi 95 rfl) rfl ?_
  exact ⟨_, rfl, fun _ => by decide, apI (a := 0) rfl, kq apq (fk f.1 0 rfl), kp_ap rfl⟩
theorem d_leader_0_10 {G : GE} (hst : (ge_l G).stackTraces = false) {x : Nat}  : MM G 2 0 0 my_X12_leader x [.int (nI 0), .int (nI 10)] 0 (nI 0) := by
  intro h f
  refine ex_M_of ok_X12_leader cw_X12_leader rfl hst (Nat.le_of_ble_eq_true rfl) ?_
  refine ex_aload_n ok_X12_leader (mi 0 rfl) rfl ?_
  refine ex_iload_n ok_X12_leader (mi 1 rfl) rfl ?_
  refine ex_iconst ok_X12_leader (mi 2 rfl) ?_
  refine ex_iconst ok_X12_leader (mi 3 rfl) ?_
  refine ex_callSr (As := [_, _, _]) ok_X12_leader (mi 4 rfl) rfl (m_in1 hst (by decide) (by decide)) rfl rfl rfl (by decide) (Nat.le_of_ble_eq_true rfl) (by decide) ?_
  refine ex_if_eq (tgt := 24) ok_X12_leader (mi 5 rfl) rfl (fun hn => absurd hn (by decide)) (fun _ => ?_)
  refine ex_iload_n ok_X12_leader (mi 6 rfl) rfl ?_
  refine ex_iconst ok_X12_leader (mi 7 rfl) ?_
  refine ex_bipush ok_X12_leader (mi 8 rfl) ?_
  refine ex_callSr (As := [_, _, _]) ok_X12_leader (mi 9 rfl) rfl (m_in1 hst (by decide) (by decide)) rfl rfl rfl (by decide) (Nat.le_of_ble_eq_true rfl) (by decide) ?_
  refine ex_if_eq (tgt := 24) ok_X12_leader (mi 10 rfl) rfl (fun hn => absurd hn (by decide)) (fun _ => ?_)
  refine ex_iconst ok_X12_leader (mi 11 rfl) ?_
  refine ex_goto (tgt := 25) ok_X12_leader (mi 12 rfl) rfl ?_
  refine ex_iconst ok_X12_leader (mi 14 rfl) ?_
  refine ex_iconst ok_X12_leader (mi 15 rfl) ?_
  refine ex_callVr (As := [_, _, _]) (v := some (.int (nI 0))) (g1 := (ap x [(0, 0, 1200, 0, (nI 0))] h)) ok_X12_leader (mi 16 rfl) rfl (m_ref111 (ws := []) hst f.1) rfl (fk f.1 0 rfl) rfl rfl (by decide) (by decide) (Nat.le_of_ble_eq_true rfl) (by decide) ?_
  refine ex_if_eq (tgt := 35) ok_X12_leader (mi 17 rfl) rfl (fun _ => ?_) (fun hn => absurd (by decide) hn)
  refine ex_aload_n ok_X12_leader (mi 20 rfl) rfl ?_
  refine ex_getRx ok_X12_leader (mi 21 rfl) rfl rfl (kq apq (fk f.1 0 rfl)) (rq apq (fr f.1 1 rfl)) (kq apq (fk f.1 2 rfl)) (by decide) ?_
  refine ex_iload_n ok_X12_leader (mi 22 rfl) rfl ?_
  refine ex_ialdx ok_X12_leader (mi 23 rfl) (Or.inl (kq apq (fk f.1 2 rfl))) (nq apq (fn f.1 2 rfl)) (pk_in 0 3 (by decide)) (apA0 (j := 0) rfl (fe f.2.2.1 167 rfl)) ?_
  refine ex_iconst ok_X12_leader (mi 24 rfl) ?_
  refine ex_icmp_ne (tgt := 49) ok_X12_leader (mi 25 rfl) rfl (fun _ => ?_) (fun hn => absurd hn (by decide))
  refine ex_iconst ok_X12_leader (mi 28 rfl) ?_
  refine ex_istore_n ok_X12_leader (mi 29 rfl) ?_
  refine ex_iload_n ok_X12_leader (mi 30 rfl) rfl ?_
  refine ex_tblk (tgt := 220) ok_X12_leader (mi 31 rfl) (by decide) (by decide) (by decide) (by decide) ?_
  refine ex_aload_n ok_X12_leader (mi 96 rfl) rfl ?_
  refine ex_getRx ok_X12_leader (mi 97 rfl) rfl rfl (kq apq (fk f.1 0 rfl)) (rq apq (fr f.1 19 rfl)) (kq apq (fk f.1 20 rfl)) (by decide) ?_
  refine ex_iload_n ok_X12_leader (mi 98 rfl) rfl ?_
  refine ex_ialdx ok_X12_leader (mi 99 rfl) (Or.inl (kq apq (fk f.1 20 rfl))) (nq apq (fn f.1 20 rfl)) (pk_in 0 3 (by decide)) (apA0 (j := 0) rfl (fe f.2.2.1 156 rfl)) ?_
  refine ex_iret ok_X12_leader (mi 100 rfl) rfl ?_
  exact ⟨_, rfl, fun _ => by decide, apI (a := 0) rfl, kq apq (fk f.1 0 rfl), kp_ap rfl⟩
theorem d_leader_0_11 {G : GE} (hst : (ge_l G).stackTraces = false) {x : Nat}  : MM G 2 0 0 my_X12_leader x [.int (nI 0), .int (nI 11)] 0 (nI 0) := by
  intro h f
  refine ex_M_of ok_X12_leader cw_X12_leader rfl hst (Nat.le_of_ble_eq_true rfl) ?_
  refine ex_aload_n ok_X12_leader (mi 0 rfl) rfl ?_
  refine ex_iload_n ok_X12_leader (mi 1 rfl) rfl ?_
  refine ex_iconst ok_X12_leader (mi 2 rfl) ?_
  refine ex_iconst ok_X12_leader (mi 3 rfl) ?_
  refine ex_callSr (As := [_, _, _]) ok_X12_leader (mi 4 rfl) rfl (m_in1 hst (by decide) (by decide)) rfl rfl rfl (by decide) (Nat.le_of_ble_eq_true rfl) (by decide) ?_
  refine ex_if_eq (tgt := 24) ok_X12_leader (mi 5 rfl) rfl (fun hn => absurd hn (by decide)) (fun _ => ?_)
  refine ex_iload_n ok_X12_leader (mi 6 rfl) rfl ?_
  refine ex_iconst ok_X12_leader (mi 7 rfl) ?_
  refine ex_bipush ok_X12_leader (mi 8 rfl) ?_
  refine ex_callSr (As := [_, _, _]) ok_X12_leader (mi 9 rfl) rfl (m_in1 hst (by decide) (by decide)) rfl rfl rfl (by decide) (Nat.le_of_ble_eq_true rfl) (by decide) ?_
  refine ex_if_eq (tgt := 24) ok_X12_leader (mi 10 rfl) rfl (fun hn => absurd hn (by decide)) (fun _ => ?_)
  refine ex_iconst ok_X12_leader (mi 11 rfl) ?_
  refine ex_goto (tgt := 25) ok_X12_leader (mi 12 rfl) rfl ?_
  refine ex_iconst ok_X12_leader (mi 14 rfl) ?_
  refine ex_iconst ok_X12_leader (mi 15 rfl) ?_
  refine ex_callVr (As := [_, _, _]) (v := some (.int (nI 0))) (g1 := (ap x [(0, 0, 1200, 0, (nI 0))] h)) ok_X12_leader (mi 16 rfl) rfl (m_ref111 (ws := []) hst f.1) rfl (fk f.1 0 rfl) rfl rfl (by decide) (by decide) (Nat.le_of_ble_eq_true rfl) (by decide) ?_
  refine ex_if_eq (tgt := 35) ok_X12_leader (mi 17 rfl) rfl (fun _ => ?_) (fun hn => absurd (by decide) hn)
  refine ex_aload_n ok_X12_leader (mi 20 rfl) rfl ?_
  refine ex_getRx ok_X12_leader (mi 21 rfl) rfl rfl (kq apq (fk f.1 0 rfl)) (rq apq (fr f.1 1 rfl)) (kq apq (fk f.1 2 rfl)) (by decide) ?_
  refine ex_iload_n ok_X12_leader (mi 22 rfl) rfl ?_
  refine ex_ialdx ok_X12_leader (mi 23 rfl) (Or.inl (kq apq (fk f.1 2 rfl))) (nq apq (fn f.1 2 rfl)) (pk_in 0 3 (by decide)) (apA0 (j := 0) rfl (fe f.2.2.1 167 rfl)) ?_
  refine ex_iconst ok_X12_leader (mi 24 rfl) ?_
  refine ex_icmp_ne (tgt := 49) ok_X12_leader (mi 25 rfl) rfl (fun _ => ?_) (fun hn => absurd hn (by decide))
  refine ex_iconst ok_X12_leader (mi 28 rfl) ?_
  refine ex_istore_n ok_X12_leader (mi 29 rfl) ?_
  refine ex_iload_n ok_X12_leader (mi 30 rfl) rfl ?_
  refine ex_tblk (tgt := 227) ok_X12_leader (mi 31 rfl) (by decide) (by decide) (by decide) (by decide) ?_
  refine ex_aload_n ok_X12_leader (mi 101 rfl) rfl ?_
  refine ex_getRx ok_X12_leader (mi 102 rfl) rfl rfl (kq apq (fk f.1 0 rfl)) (rq apq (fr f.1 25 rfl)) (kq apq (fk f.1 26 rfl)) (by decide) ?_
  refine ex_iload_n ok_X12_leader (mi 103 rfl) rfl ?_
  refine ex_ialdx ok_X12_leader (mi 104 rfl) (Or.inl (kq apq (fk f.1 26 rfl))) (nq apq (fn f.1 26 rfl)) (pk_in 0 3 (by decide)) (apA0 (j := 0) rfl (fe f.2.2.1 150 rfl)) ?_
  refine ex_iret ok_X12_leader (mi 105 rfl) rfl ?_
  exact ⟨_, rfl, fun _ => by decide, apI (a := 0) rfl, kq apq (fk f.1 0 rfl), kp_ap rfl⟩
theorem d_leader_0_12 {G : GE} (hst : (ge_l G).stackTraces = false) {x : Nat}  : MM G 2 0 0 my_X12_leader x [.int (nI 0), .int (nI 12)] 0 (nI 0) := by
  intro h f
  refine ex_M_of ok_X12_leader cw_X12_leader rfl hst (Nat.le_of_ble_eq_true rfl) ?_
  refine ex_aload_n ok_X12_leader (mi 0 rfl) rfl ?_
  refine ex_iload_n ok_X12_leader (mi 1 rfl) rfl ?_
  refine ex_iconst ok_X12_leader (mi 2 rfl) ?_
  refine ex_iconst ok_X12_leader (mi 3 rfl) ?_
  refine ex_callSr (As := [_, _, _]) ok_X12_leader (mi 4 rfl) rfl (m_in1 hst (by decide) (by decide)) rfl rfl rfl (by decide) (Nat.le_of_ble_eq_true rfl) (by decide) ?_
  refine ex_if_eq (tgt := 24) ok_X12_leader (mi 5 rfl) rfl (fun hn => absurd hn (by decide)) (fun _ => ?_)
  refine ex_iload_n ok_X12_leader (mi 6 rfl) rfl ?_
  refine ex_iconst ok_X12_leader (mi 7 rfl) ?_
  refine ex_bipush ok_X12_leader (mi 8 rfl) ?_
  refine ex_callSr (As := [_, _, _]) ok_X12_leader (mi 9 rfl) rfl (m_in1 hst (by decide) (by decide)) rfl rfl rfl (by decide) (Nat.le_of_ble_eq_true rfl) (by decide) ?_
  refine ex_if_eq (tgt := 24) ok_X12_leader (mi 10 rfl) rfl (fun hn => absurd hn (by decide)) (fun _ => ?_)
  refine ex_iconst ok_X12_leader (mi 11 rfl) ?_
  refine ex_goto (tgt := 25) ok_X12_leader (mi 12 rfl) rfl ?_
  refine ex_iconst ok_X12_leader (mi 14 rfl) ?_
  refine ex_iconst ok_X12_leader (mi 15 rfl) ?_
  refine ex_callVr (As := [_, _, _]) (v := some (.int (nI 0))) (g1 := (ap x [(0, 0, 1200, 0, (nI 0))] h)) ok_X12_leader (mi 16 rfl) rfl (m_ref111 (ws := []) hst f.1) rfl (fk f.1 0 rfl) rfl rfl (by decide) (by decide) (Nat.le_of_ble_eq_true rfl) (by decide) ?_
  refine ex_if_eq (tgt := 35) ok_X12_leader (mi 17 rfl) rfl (fun _ => ?_) (fun hn => absurd (by decide) hn)
  refine ex_aload_n ok_X12_leader (mi 20 rfl) rfl ?_
  refine ex_getRx ok_X12_leader (mi 21 rfl) rfl rfl (kq apq (fk f.1 0 rfl)) (rq apq (fr f.1 1 rfl)) (kq apq (fk f.1 2 rfl)) (by decide) ?_
  refine ex_iload_n ok_X12_leader (mi 22 rfl) rfl ?_
  refine ex_ialdx ok_X12_leader (mi 23 rfl) (Or.inl (kq apq (fk f.1 2 rfl))) (nq apq (fn f.1 2 rfl)) (pk_in 0 3 (by decide)) (apA0 (j := 0) rfl (fe f.2.2.1 167 rfl)) ?_
  refine ex_iconst ok_X12_leader (mi 24 rfl) ?_
  refine ex_icmp_ne (tgt := 49) ok_X12_leader (mi 25 rfl) rfl (fun _ => ?_) (fun hn => absurd hn (by decide))
  refine ex_iconst ok_X12_leader (mi 28 rfl) ?_
  refine ex_istore_n ok_X12_leader (mi 29 rfl) ?_
  refine ex_iload_n ok_X12_leader (mi 30 rfl) rfl ?_
  refine ex_tblk (tgt := 234) ok_X12_leader (mi 31 rfl) (by decide) (by decide) (by decide) (by decide) ?_
  refine ex_aload_n ok_X12_leader (mi 106 rfl) rfl ?_
  refine ex_getRx ok_X12_leader (mi 107 rfl) rfl rfl (kq apq (fk f.1 0 rfl)) (rq apq (fr f.1 26 rfl)) (kq apq (fk f.1 27 rfl)) (by decide) ?_
  refine ex_iload_n ok_X12_leader (mi 108 rfl) rfl ?_
  refine ex_ialdx ok_X12_leader (mi 109 rfl) (Or.inl (kq apq (fk f.1 27 rfl))) (nq apq (fn f.1 27 rfl)) (pk_in 0 3 (by decide)) (apA0 (j := 0) rfl (fe f.2.2.1 149 rfl)) ?_
  refine ex_iret ok_X12_leader (mi 110 rfl) rfl ?_
  exact ⟨_, rfl, fun _ => by decide, apI (a := 0) rfl, kq apq (fk f.1 0 rfl), kp_ap rfl⟩
theorem d_leader_0_13 {G : GE} (hst : (ge_l G).stackTraces = false) {x : Nat}  : MM G 2 0 0 my_X12_leader x [.int (nI 0), .int (nI 13)] 0 (nI 0) := by
  intro h f
  refine ex_M_of ok_X12_leader cw_X12_leader rfl hst (Nat.le_of_ble_eq_true rfl) ?_
  refine ex_aload_n ok_X12_leader (mi 0 rfl) rfl ?_
  refine ex_iload_n ok_X12_leader (mi 1 rfl) rfl ?_
  refine ex_iconst ok_X12_leader (mi 2 rfl) ?_
  refine ex_iconst ok_X12_leader (mi 3 rfl) ?_
  refine ex_callSr (As := [_, _, _]) ok_X12_leader (mi 4 rfl) rfl (m_in1 hst (by decide) (by decide)) rfl rfl rfl (by decide) (Nat.le_of_ble_eq_true rfl) (by decide) ?_
  refine ex_if_eq (tgt := 24) ok_X12_leader (mi 5 rfl) rfl (fun hn => absurd hn (by decide)) (fun _ => ?_)
  refine ex_iload_n ok_X12_leader (mi 6 rfl) rfl ?_
  refine ex_iconst ok_X12_leader (mi 7 rfl) ?_
  refine ex_bipush ok_X12_leader (mi 8 rfl) ?_
  refine ex_callSr (As := [_, _, _]) ok_X12_leader (mi 9 rfl) rfl (m_in1 hst (by decide) (by decide)) rfl rfl rfl (by decide) (Nat.le_of_ble_eq_true rfl) (by decide) ?_
  refine ex_if_eq (tgt := 24) ok_X12_leader (mi 10 rfl) rfl (fun hn => absurd hn (by decide)) (fun _ => ?_)
  refine ex_iconst ok_X12_leader (mi 11 rfl) ?_
  refine ex_goto (tgt := 25) ok_X12_leader (mi 12 rfl) rfl ?_
  refine ex_iconst ok_X12_leader (mi 14 rfl) ?_
  refine ex_iconst ok_X12_leader (mi 15 rfl) ?_
  refine ex_callVr (As := [_, _, _]) (v := some (.int (nI 0))) (g1 := (ap x [(0, 0, 1200, 0, (nI 0))] h)) ok_X12_leader (mi 16 rfl) rfl (m_ref111 (ws := []) hst f.1) rfl (fk f.1 0 rfl) rfl rfl (by decide) (by decide) (Nat.le_of_ble_eq_true rfl) (by decide) ?_
  refine ex_if_eq (tgt := 35) ok_X12_leader (mi 17 rfl) rfl (fun _ => ?_) (fun hn => absurd (by decide) hn)
  refine ex_aload_n ok_X12_leader (mi 20 rfl) rfl ?_
  refine ex_getRx ok_X12_leader (mi 21 rfl) rfl rfl (kq apq (fk f.1 0 rfl)) (rq apq (fr f.1 1 rfl)) (kq apq (fk f.1 2 rfl)) (by decide) ?_
  refine ex_iload_n ok_X12_leader (mi 22 rfl) rfl ?_
  refine ex_ialdx ok_X12_leader (mi 23 rfl) (Or.inl (kq apq (fk f.1 2 rfl))) (nq apq (fn f.1 2 rfl)) (pk_in 0 3 (by decide)) (apA0 (j := 0) rfl (fe f.2.2.1 167 rfl)) ?_
  refine ex_iconst ok_X12_leader (mi 24 rfl) ?_
  refine ex_icmp_ne (tgt := 49) ok_X12_leader (mi 25 rfl) rfl (fun _ => ?_) (fun hn => absurd hn (by decide))
  refine ex_iconst ok_X12_leader (mi 28 rfl) ?_
  refine ex_istore_n ok_X12_leader (mi 29 rfl) ?_
  refine ex_iload_n ok_X12_leader (mi 30 rfl) rfl ?_
  refine ex_tblk (tgt := 241) ok_X12_leader (mi 31 rfl) (by decide) (by decide) (by decide) (by decide) ?_
  refine ex_aload_n ok_X12_leader (mi 111 rfl) rfl ?_
  refine ex_getRx ok_X12_leader (mi 112 rfl) rfl rfl (kq apq (fk f.1 0 rfl)) (rq apq (fr f.1 19 rfl)) (kq apq (fk f.1 20 rfl)) (by decide) ?_
  refine ex_iload_n ok_X12_leader (mi 113 rfl) rfl ?_
  refine ex_ialdx ok_X12_leader (mi 114 rfl) (Or.inl (kq apq (fk f.1 20 rfl))) (nq apq (fn f.1 20 rfl)) (pk_in 0 3 (by decide)) (apA0 (j := 0) rfl (fe f.2.2.1 156 rfl)) ?_
  refine ex_iconst ok_X12_leader (mi 115 rfl) ?_
  refine ex_icmp_ne (tgt := 260) ok_X12_leader (mi 116 rfl) rfl (fun _ => ?_) (fun hn => absurd hn (by decide))
  refine ex_aload_n ok_X12_leader (mi 122 rfl) rfl ?_
  refine ex_getRx ok_X12_leader (mi 123 rfl) rfl rfl (kq apq (fk f.1 0 rfl)) (rq apq (fr f.1 9 rfl)) (kq apq (fk f.1 10 rfl)) (by decide) ?_
  refine ex_iload_n ok_X12_leader (mi 124 rfl) rfl ?_
  refine ex_ialdx ok_X12_leader (mi 125 rfl) (Or.inl (kq apq (fk f.1 10 rfl))) (nq apq (fn f.1 10 rfl)) (pk_in 0 3 (by decide)) (apA0 (j := 0) rfl (fe f.2.2.1 160 rfl)) ?_
  refine ex_iret ok_X12_leader (mi 126 rfl) rfl ?_
  exact ⟨_, rfl, fun _ => by decide, apI (a := 0) rfl, kq apq (fk f.1 0 rfl), kp_ap rfl⟩
theorem d_slot_0_b1 {G : GE} (hst : (ge_l G).stackTraces = false) {x : Nat} {p1 p2 : Int32} (c1 : ¬ vp_in p1 16) : MM G 2 0 0 my_X12_slot x [.int (nI 0), .int p1, .int p2] 1 (nI 0) := by
  intro h f
  refine ex_M_of ok_X12_slot cw_X12_slot rfl hst (Nat.le_of_ble_eq_true rfl) ?_
  refine ex_aload_n ok_X12_slot (mi 0 rfl) rfl ?_
  refine ex_iload_n ok_X12_slot (mi 1 rfl) rfl ?_
  refine ex_iconst ok_X12_slot (mi 2 rfl) ?_
  refine ex_iconst ok_X12_slot (mi 3 rfl) ?_
  refine ex_callSr (As := [_, _, _]) ok_X12_slot (mi 4 rfl) rfl (m_in1 hst (by decide) (by decide)) rfl rfl rfl (by decide) (Nat.le_of_ble_eq_true rfl) (by decide) ?_
  refine ex_if_eq (tgt := 33) ok_X12_slot (mi 5 rfl) rfl (fun hn => absurd hn (by decide)) (fun _ => ?_)
  refine ex_iload_n ok_X12_slot (mi 6 rfl) rfl ?_
  refine ex_iconst ok_X12_slot (mi 7 rfl) ?_
  refine ex_bipush ok_X12_slot (mi 8 rfl) ?_
  refine ex_callSr (As := [_, _, _]) ok_X12_slot (mi 9 rfl) rfl (m_in0 hst (vbad c1 (by decide))) rfl rfl rfl (by decide) (Nat.le_of_ble_eq_true rfl) (by decide) ?_
  refine ex_if_eq (tgt := 33) ok_X12_slot (mi 10 rfl) rfl (fun _ => ?_) (fun hn => absurd (by decide) hn)
  refine ex_iconst ok_X12_slot (mi 18 rfl) ?_
  refine ex_iconst ok_X12_slot (mi 19 rfl) ?_
  refine ex_iconst ok_X12_slot (mi 20 rfl) ?_
  refine ex_callVr (As := [_, _, _]) (v := some (.int (nI 1))) (g1 := (ap x [(0, 0, 1200, 0, (nI 1))] h)) ok_X12_slot (mi 21 rfl) rfl (m_ref011 (ws := []) hst f.1) rfl (fk f.1 0 rfl) rfl rfl (by decide) (by decide) (Nat.le_of_ble_eq_true rfl) (by decide) ?_
  refine ex_if_eq (tgt := 44) ok_X12_slot (mi 22 rfl) rfl (fun hn => absurd hn (by decide)) (fun _ => ?_)
  refine ex_iconst ok_X12_slot (mi 23 rfl) ?_
  refine ex_iret ok_X12_slot (mi 24 rfl) rfl ?_
  exact ⟨_, rfl, fun e => absurd e (by decide), apI (a := 0) rfl, kq apq (fk f.1 0 rfl), kp_ap rfl⟩
theorem d_slot_0_b2 {G : GE} (hst : (ge_l G).stackTraces = false) {x : Nat} {p1 p2 : Int32} (c1 : vp_in p1 16) (c2 : ¬ vp_in p2 4) : MM G 2 0 0 my_X12_slot x [.int (nI 0), .int p1, .int p2] 1 (nI 0) := by
  intro h f
  refine ex_M_of ok_X12_slot cw_X12_slot rfl hst (Nat.le_of_ble_eq_true rfl) ?_
  refine ex_aload_n ok_X12_slot (mi 0 rfl) rfl ?_
  refine ex_iload_n ok_X12_slot (mi 1 rfl) rfl ?_
  refine ex_iconst ok_X12_slot (mi 2 rfl) ?_
  refine ex_iconst ok_X12_slot (mi 3 rfl) ?_
  refine ex_callSr (As := [_, _, _]) ok_X12_slot (mi 4 rfl) rfl (m_in1 hst (by decide) (by decide)) rfl rfl rfl (by decide) (Nat.le_of_ble_eq_true rfl) (by decide) ?_
  refine ex_if_eq (tgt := 33) ok_X12_slot (mi 5 rfl) rfl (fun hn => absurd hn (by decide)) (fun _ => ?_)
  refine ex_iload_n ok_X12_slot (mi 6 rfl) rfl ?_
  refine ex_iconst ok_X12_slot (mi 7 rfl) ?_
  refine ex_bipush ok_X12_slot (mi 8 rfl) ?_
  refine ex_callSr (As := [_, _, _]) ok_X12_slot (mi 9 rfl) rfl (m_in1 hst (vlo c1 (by decide)) (vhi c1 (by decide))) rfl rfl rfl (by decide) (Nat.le_of_ble_eq_true rfl) (by decide) ?_
  refine ex_if_eq (tgt := 33) ok_X12_slot (mi 10 rfl) rfl (fun hn => absurd hn (by decide)) (fun _ => ?_)
  refine ex_iload_n ok_X12_slot (mi 11 rfl) rfl ?_
  refine ex_iconst ok_X12_slot (mi 12 rfl) ?_
  refine ex_iconst ok_X12_slot (mi 13 rfl) ?_
  refine ex_callSr (As := [_, _, _]) ok_X12_slot (mi 14 rfl) rfl (m_in0 hst (vbad c2 (by decide))) rfl rfl rfl (by decide) (Nat.le_of_ble_eq_true rfl) (by decide) ?_
  refine ex_if_eq (tgt := 33) ok_X12_slot (mi 15 rfl) rfl (fun _ => ?_) (fun hn => absurd (by decide) hn)
  refine ex_iconst ok_X12_slot (mi 18 rfl) ?_
  refine ex_iconst ok_X12_slot (mi 19 rfl) ?_
  refine ex_iconst ok_X12_slot (mi 20 rfl) ?_
  refine ex_callVr (As := [_, _, _]) (v := some (.int (nI 1))) (g1 := (ap x [(0, 0, 1200, 0, (nI 1))] h)) ok_X12_slot (mi 21 rfl) rfl (m_ref011 (ws := []) hst f.1) rfl (fk f.1 0 rfl) rfl rfl (by decide) (by decide) (Nat.le_of_ble_eq_true rfl) (by decide) ?_
  refine ex_if_eq (tgt := 44) ok_X12_slot (mi 22 rfl) rfl (fun hn => absurd hn (by decide)) (fun _ => ?_)
  refine ex_iconst ok_X12_slot (mi 23 rfl) ?_
  refine ex_iret ok_X12_slot (mi 24 rfl) rfl ?_
  exact ⟨_, rfl, fun e => absurd e (by decide), apI (a := 0) rfl, kq apq (fk f.1 0 rfl), kp_ap rfl⟩
theorem d_slot_0_0 {G : GE} (hst : (ge_l G).stackTraces = false) {x : Nat} {j : Nat} (hj : j < 16) : MM G 2 0 0 my_X12_slot x [.int (nI 0), .int (nI j), .int (nI 0)] 0 (nI 0) := by
  intro h f
  refine ex_M_of ok_X12_slot cw_X12_slot rfl hst (Nat.le_of_ble_eq_true rfl) ?_
  refine ex_aload_n ok_X12_slot (mi 0 rfl) rfl ?_
  refine ex_iload_n ok_X12_slot (mi 1 rfl) rfl ?_
  refine ex_iconst ok_X12_slot (mi 2 rfl) ?_
  refine ex_iconst ok_X12_slot (mi 3 rfl) ?_
  refine ex_callSr (As := [_, _, _]) ok_X12_slot (mi 4 rfl) rfl (m_in1 hst (by decide) (by decide)) rfl rfl rfl (by decide) (Nat.le_of_ble_eq_true rfl) (by decide) ?_
  refine ex_if_eq (tgt := 33) ok_X12_slot (mi 5 rfl) rfl (fun hn => absurd hn (by decide)) (fun _ => ?_)
  refine ex_iload_n ok_X12_slot (mi 6 rfl) rfl ?_
  refine ex_iconst ok_X12_slot (mi 7 rfl) ?_
  refine ex_bipush ok_X12_slot (mi 8 rfl) ?_
  refine ex_callSr (As := [_, _, _]) ok_X12_slot (mi 9 rfl) rfl (m_in1 hst (vlo (vp_in_nI hj (by decide)) (by decide)) (vhi (vp_in_nI hj (by decide)) (by decide))) rfl rfl rfl (by decide) (Nat.le_of_ble_eq_true rfl) (by decide) ?_
  refine ex_if_eq (tgt := 33) ok_X12_slot (mi 10 rfl) rfl (fun hn => absurd hn (by decide)) (fun _ => ?_)
  refine ex_iload_n ok_X12_slot (mi 11 rfl) rfl ?_
  refine ex_iconst ok_X12_slot (mi 12 rfl) ?_
  refine ex_iconst ok_X12_slot (mi 13 rfl) ?_
  refine ex_callSr (As := [_, _, _]) ok_X12_slot (mi 14 rfl) rfl (m_in1 hst (by decide) (by decide)) rfl rfl rfl (by decide) (Nat.le_of_ble_eq_true rfl) (by decide) ?_
  refine ex_if_eq (tgt := 33) ok_X12_slot (mi 15 rfl) rfl (fun hn => absurd hn (by decide)) (fun _ => ?_)
  refine ex_iconst ok_X12_slot (mi 16 rfl) ?_
  refine ex_goto (tgt := 34) ok_X12_slot (mi 17 rfl) rfl ?_
  refine ex_iconst ok_X12_slot (mi 19 rfl) ?_
  refine ex_iconst ok_X12_slot (mi 20 rfl) ?_
  refine ex_callVr (As := [_, _, _]) (v := some (.int (nI 0))) (g1 := (ap x [(0, 0, 1200, 0, (nI 0))] h)) ok_X12_slot (mi 21 rfl) rfl (m_ref111 (ws := []) hst f.1) rfl (fk f.1 0 rfl) rfl rfl (by decide) (by decide) (Nat.le_of_ble_eq_true rfl) (by decide) ?_
  refine ex_if_eq (tgt := 44) ok_X12_slot (mi 22 rfl) rfl (fun _ => ?_) (fun hn => absurd (by decide) hn)
  refine ex_aload_n ok_X12_slot (mi 25 rfl) rfl ?_
  refine ex_getRx ok_X12_slot (mi 26 rfl) rfl rfl (kq apq (fk f.1 0 rfl)) (rq apq (fr f.1 1 rfl)) (kq apq (fk f.1 2 rfl)) (by decide) ?_
  refine ex_iload_n ok_X12_slot (mi 27 rfl) rfl ?_
  refine ex_ialdx ok_X12_slot (mi 28 rfl) (Or.inl (kq apq (fk f.1 2 rfl))) (nq apq (fn f.1 2 rfl)) (pk_in 0 3 (by decide)) (apA0 (j := 0) rfl (fe f.2.2.1 167 rfl)) ?_
  refine ex_iconst ok_X12_slot (mi 29 rfl) ?_
  refine ex_icmp_ne (tgt := 58) ok_X12_slot (mi 30 rfl) rfl (fun _ => ?_) (fun hn => absurd hn (by decide))
  refine ex_iconst ok_X12_slot (mi 33 rfl) ?_
  refine ex_istore ok_X12_slot (mi 34 rfl) ?_
  refine ex_bipush ok_X12_slot (mi 35 rfl) ?_
  refine ex_iload_n ok_X12_slot (mi 36 rfl) rfl ?_
  refine ex_imul ok_X12_slot (mi 37 rfl) ?_
  refine ex_top (w := (nI 0)) (by decide) ?_
  refine ex_iload_n ok_X12_slot (mi 38 rfl) rfl ?_
  refine ex_iadd ok_X12_slot (mi 39 rfl) ?_
  refine ex_istore ok_X12_slot (mi 40 rfl) ?_
  refine ex_iload_n ok_X12_slot (mi 41 rfl) rfl ?_
  refine ex_iconst ok_X12_slot (mi 42 rfl) ?_
  refine ex_icmp_ne (tgt := 93) ok_X12_slot (mi 43 rfl) rfl (fun _ => ?_) (fun hn => absurd hn (by decide))
  refine ex_iload ok_X12_slot (mi 53 rfl) rfl ?_
  refine ex_if_ne (tgt := 102) ok_X12_slot (mi 54 rfl) rfl (fun hn => absurd (by decide) hn) (fun _ => ?_)
  refine ex_iconst ok_X12_slot (mi 55 rfl) ?_
  refine ex_goto (tgt := 138) ok_X12_slot (mi 56 rfl) rfl ?_
  refine ex_iret ok_X12_slot (mi 76 rfl) rfl ?_
  exact ⟨_, rfl, fun _ => by decide, apI (a := 0) rfl, kq apq (fk f.1 0 rfl), kp_ap rfl⟩
theorem d_slot_0_1 {G : GE} (hst : (ge_l G).stackTraces = false) {x : Nat} {j : Nat} (hj : j < 16) : MM G 2 0 0 my_X12_slot x [.int (nI 0), .int (nI j), .int (nI 1)] 0 ((-1)) := by
  intro h f
  refine ex_M_of ok_X12_slot cw_X12_slot rfl hst (Nat.le_of_ble_eq_true rfl) ?_
  refine ex_aload_n ok_X12_slot (mi 0 rfl) rfl ?_
  refine ex_iload_n ok_X12_slot (mi 1 rfl) rfl ?_
  refine ex_iconst ok_X12_slot (mi 2 rfl) ?_
  refine ex_iconst ok_X12_slot (mi 3 rfl) ?_
  refine ex_callSr (As := [_, _, _]) ok_X12_slot (mi 4 rfl) rfl (m_in1 hst (by decide) (by decide)) rfl rfl rfl (by decide) (Nat.le_of_ble_eq_true rfl) (by decide) ?_
  refine ex_if_eq (tgt := 33) ok_X12_slot (mi 5 rfl) rfl (fun hn => absurd hn (by decide)) (fun _ => ?_)
  refine ex_iload_n ok_X12_slot (mi 6 rfl) rfl ?_
  refine ex_iconst ok_X12_slot (mi 7 rfl) ?_
  refine ex_bipush ok_X12_slot (mi 8 rfl) ?_
  refine ex_callSr (As := [_, _, _]) ok_X12_slot (mi 9 rfl) rfl (m_in1 hst (vlo (vp_in_nI hj (by decide)) (by decide)) (vhi (vp_in_nI hj (by decide)) (by decide))) rfl rfl rfl (by decide) (Nat.le_of_ble_eq_true rfl) (by decide) ?_
  refine ex_if_eq (tgt := 33) ok_X12_slot (mi 10 rfl) rfl (fun hn => absurd hn (by decide)) (fun _ => ?_)
  refine ex_iload_n ok_X12_slot (mi 11 rfl) rfl ?_
  refine ex_iconst ok_X12_slot (mi 12 rfl) ?_
  refine ex_iconst ok_X12_slot (mi 13 rfl) ?_
  refine ex_callSr (As := [_, _, _]) ok_X12_slot (mi 14 rfl) rfl (m_in1 hst (by decide) (by decide)) rfl rfl rfl (by decide) (Nat.le_of_ble_eq_true rfl) (by decide) ?_
  refine ex_if_eq (tgt := 33) ok_X12_slot (mi 15 rfl) rfl (fun hn => absurd hn (by decide)) (fun _ => ?_)
  refine ex_iconst ok_X12_slot (mi 16 rfl) ?_
  refine ex_goto (tgt := 34) ok_X12_slot (mi 17 rfl) rfl ?_
  refine ex_iconst ok_X12_slot (mi 19 rfl) ?_
  refine ex_iconst ok_X12_slot (mi 20 rfl) ?_
  refine ex_callVr (As := [_, _, _]) (v := some (.int (nI 0))) (g1 := (ap x [(0, 0, 1200, 0, (nI 0))] h)) ok_X12_slot (mi 21 rfl) rfl (m_ref111 (ws := []) hst f.1) rfl (fk f.1 0 rfl) rfl rfl (by decide) (by decide) (Nat.le_of_ble_eq_true rfl) (by decide) ?_
  refine ex_if_eq (tgt := 44) ok_X12_slot (mi 22 rfl) rfl (fun _ => ?_) (fun hn => absurd (by decide) hn)
  refine ex_aload_n ok_X12_slot (mi 25 rfl) rfl ?_
  refine ex_getRx ok_X12_slot (mi 26 rfl) rfl rfl (kq apq (fk f.1 0 rfl)) (rq apq (fr f.1 1 rfl)) (kq apq (fk f.1 2 rfl)) (by decide) ?_
  refine ex_iload_n ok_X12_slot (mi 27 rfl) rfl ?_
  refine ex_ialdx ok_X12_slot (mi 28 rfl) (Or.inl (kq apq (fk f.1 2 rfl))) (nq apq (fn f.1 2 rfl)) (pk_in 0 3 (by decide)) (apA0 (j := 0) rfl (fe f.2.2.1 167 rfl)) ?_
  refine ex_iconst ok_X12_slot (mi 29 rfl) ?_
  refine ex_icmp_ne (tgt := 58) ok_X12_slot (mi 30 rfl) rfl (fun _ => ?_) (fun hn => absurd hn (by decide))
  refine ex_iconst ok_X12_slot (mi 33 rfl) ?_
  refine ex_istore ok_X12_slot (mi 34 rfl) ?_
  refine ex_bipush ok_X12_slot (mi 35 rfl) ?_
  refine ex_iload_n ok_X12_slot (mi 36 rfl) rfl ?_
  refine ex_imul ok_X12_slot (mi 37 rfl) ?_
  refine ex_top (w := (nI 0)) (by decide) ?_
  refine ex_iload_n ok_X12_slot (mi 38 rfl) rfl ?_
  refine ex_iadd ok_X12_slot (mi 39 rfl) ?_
  refine ex_istore ok_X12_slot (mi 40 rfl) ?_
  refine ex_iload_n ok_X12_slot (mi 41 rfl) rfl ?_
  refine ex_iconst ok_X12_slot (mi 42 rfl) ?_
  refine ex_icmp_ne (tgt := 93) ok_X12_slot (mi 43 rfl) rfl (fun hn => absurd (by decide) hn) (fun _ => ?_)
  refine ex_iload ok_X12_slot (mi 44 rfl) rfl ?_
  refine ex_if_eq (tgt := 89) ok_X12_slot (mi 45 rfl) rfl (fun _ => ?_) (fun hn => absurd (by decide) hn)
  refine ex_iconst ok_X12_slot (mi 51 rfl) ?_
  refine ex_goto (tgt := 138) ok_X12_slot (mi 52 rfl) rfl ?_
  refine ex_iret ok_X12_slot (mi 76 rfl) rfl ?_
  exact ⟨_, rfl, fun _ => by decide, apI (a := 0) rfl, kq apq (fk f.1 0 rfl), kp_ap rfl⟩
theorem d_slot_0_2 {G : GE} (hst : (ge_l G).stackTraces = false) {x : Nat} {j : Nat} (hj : j < 16) : MM G 2 0 0 my_X12_slot x [.int (nI 0), .int (nI j), .int (nI 2)] 0 (nI 0) := by
  intro h f
  refine ex_M_of ok_X12_slot cw_X12_slot rfl hst (Nat.le_of_ble_eq_true rfl) ?_
  refine ex_aload_n ok_X12_slot (mi 0 rfl) rfl ?_
  refine ex_iload_n ok_X12_slot (mi 1 rfl) rfl ?_
  refine ex_iconst ok_X12_slot (mi 2 rfl) ?_
  refine ex_iconst ok_X12_slot (mi 3 rfl) ?_
  refine ex_callSr (As := [_, _, _]) ok_X12_slot (mi 4 rfl) rfl (m_in1 hst (by decide) (by decide)) rfl rfl rfl (by decide) (Nat.le_of_ble_eq_true rfl) (by decide) ?_
  refine ex_if_eq (tgt := 33) ok_X12_slot (mi 5 rfl) rfl (fun hn => absurd hn (by decide)) (fun _ => ?_)
  refine ex_iload_n ok_X12_slot (mi 6 rfl) rfl ?_
  refine ex_iconst ok_X12_slot (mi 7 rfl) ?_
  refine ex_bipush ok_X12_slot (mi 8 rfl) ?_
  refine ex_callSr (As := [_, _, _]) ok_X12_slot (mi 9 rfl) rfl (m_in1 hst (vlo (vp_in_nI hj (by decide)) (by decide)) (vhi (vp_in_nI hj (by decide)) (by decide))) rfl rfl rfl (by decide) (Nat.le_of_ble_eq_true rfl) (by decide) ?_
  refine ex_if_eq (tgt := 33) ok_X12_slot (mi 10 rfl) rfl (fun hn => absurd hn (by decide)) (fun _ => ?_)
  refine ex_iload_n ok_X12_slot (mi 11 rfl) rfl ?_
  refine ex_iconst ok_X12_slot (mi 12 rfl) ?_
  refine ex_iconst ok_X12_slot (mi 13 rfl) ?_
  refine ex_callSr (As := [_, _, _]) ok_X12_slot (mi 14 rfl) rfl (m_in1 hst (by decide) (by decide)) rfl rfl rfl (by decide) (Nat.le_of_ble_eq_true rfl) (by decide) ?_
  refine ex_if_eq (tgt := 33) ok_X12_slot (mi 15 rfl) rfl (fun hn => absurd hn (by decide)) (fun _ => ?_)
  refine ex_iconst ok_X12_slot (mi 16 rfl) ?_
  refine ex_goto (tgt := 34) ok_X12_slot (mi 17 rfl) rfl ?_
  refine ex_iconst ok_X12_slot (mi 19 rfl) ?_
  refine ex_iconst ok_X12_slot (mi 20 rfl) ?_
  refine ex_callVr (As := [_, _, _]) (v := some (.int (nI 0))) (g1 := (ap x [(0, 0, 1200, 0, (nI 0))] h)) ok_X12_slot (mi 21 rfl) rfl (m_ref111 (ws := []) hst f.1) rfl (fk f.1 0 rfl) rfl rfl (by decide) (by decide) (Nat.le_of_ble_eq_true rfl) (by decide) ?_
  refine ex_if_eq (tgt := 44) ok_X12_slot (mi 22 rfl) rfl (fun _ => ?_) (fun hn => absurd (by decide) hn)
  refine ex_aload_n ok_X12_slot (mi 25 rfl) rfl ?_
  refine ex_getRx ok_X12_slot (mi 26 rfl) rfl rfl (kq apq (fk f.1 0 rfl)) (rq apq (fr f.1 1 rfl)) (kq apq (fk f.1 2 rfl)) (by decide) ?_
  refine ex_iload_n ok_X12_slot (mi 27 rfl) rfl ?_
  refine ex_ialdx ok_X12_slot (mi 28 rfl) (Or.inl (kq apq (fk f.1 2 rfl))) (nq apq (fn f.1 2 rfl)) (pk_in 0 3 (by decide)) (apA0 (j := 0) rfl (fe f.2.2.1 167 rfl)) ?_
  refine ex_iconst ok_X12_slot (mi 29 rfl) ?_
  refine ex_icmp_ne (tgt := 58) ok_X12_slot (mi 30 rfl) rfl (fun _ => ?_) (fun hn => absurd hn (by decide))
  refine ex_iconst ok_X12_slot (mi 33 rfl) ?_
  refine ex_istore ok_X12_slot (mi 34 rfl) ?_
  refine ex_bipush ok_X12_slot (mi 35 rfl) ?_
  refine ex_iload_n ok_X12_slot (mi 36 rfl) rfl ?_
  refine ex_imul ok_X12_slot (mi 37 rfl) ?_
  refine ex_top (w := (nI 0)) (by decide) ?_
  refine ex_iload_n ok_X12_slot (mi 38 rfl) rfl ?_
  refine ex_iadd ok_X12_slot (mi 39 rfl) ?_
  refine ex_istore ok_X12_slot (mi 40 rfl) ?_
  refine ex_iload_n ok_X12_slot (mi 41 rfl) rfl ?_
  refine ex_iconst ok_X12_slot (mi 42 rfl) ?_
  refine ex_icmp_ne (tgt := 93) ok_X12_slot (mi 43 rfl) rfl (fun _ => ?_) (fun hn => absurd hn (by decide))
  refine ex_iload ok_X12_slot (mi 53 rfl) rfl ?_
  refine ex_if_ne (tgt := 102) ok_X12_slot (mi 54 rfl) rfl (fun hn => absurd (by decide) hn) (fun _ => ?_)
  refine ex_iconst ok_X12_slot (mi 55 rfl) ?_
  refine ex_goto (tgt := 138) ok_X12_slot (mi 56 rfl) rfl ?_
  refine ex_iret ok_X12_slot (mi 76 rfl) rfl ?_
  exact ⟨_, rfl, fun _ => by decide, apI (a := 0) rfl, kq apq (fk f.1 0 rfl), kp_ap rfl⟩
