theorem d_slot_1_3 {G : GE} (hst : (ge_l G).stackTraces = false) {x : Nat} {j : Nat} (hj : j < 16) : MM G 2 0 0 my_X12_slot x [.int (nI 1), .int (nI j), .int (nI 3)] 0 (nI 0) := by
  intro h f
  refine ex_M_of ok_X12_slot cw_X12_slot rfl hst (Nat.le_of_ble_eq_true rfl) ?_
  refine ex_aload_n ok_X12_slot (mi 0 rfl) rfl ?_
  refine ex_iload_n ok_X12_slot (mi 1 rfl) rfl ?_
  refine ex_iconst ok_X12_slot (mi 2 rfl) ?_
  refine ex_iconst ok_X12_slot (mi 3 rfl) ?_
  refine ex_callSr (As := [_, _, _]) ok_X12_slot (mi 4 rfl) rfl (m_in1 hst (by decide) (by decide)) rfl rfl rfl (by decide) (Nat.le_of_ble_eq_true rfl) (by decide) ?_
  refine ex_if_eq (tgt := 33) ok_X12_slot (mi 5 rfl) rfl (fun hn => absurd hn (by decide)) (fun _ => ?_)
  refine ex_iload_n ok_X12_slot (mi 6 rfl) rfl ?_
  refine ex_iconst ok_X12_slot (mi 7 rfl) ?_
  refine ex_bipush ok_X12_slot (mi 8 rfl) ?_
  refine ex_callSr (As := [_, _, _]) ok_X12_slot (mi 9 rfl) rfl (m_in1 hst (vlo (vp_in_nI hj (by decide)) (by decide)) (vhi (vp_in_nI hj (by decide)) (by decide))) rfl rfl rfl (by decide) (Nat.le_of_ble_eq_true rfl) (by decide) ?_
  refine ex_if_eq (tgt := 33) ok_X12_slot (mi 10 rfl) rfl (fun hn => absurd hn (by decide)) (fun _ => ?_)
  refine ex_iload_n ok_X12_slot (mi 11 rfl) rfl ?_
  refine ex_iconst ok_X12_slot (mi 12 rfl) ?_
  refine ex_iconst ok_X12_slot (mi 13 rfl) ?_
  refine ex_callSr (As := [_, _, _]) ok_X12_slot (mi 14 rfl) rfl (m_in1 hst (by decide) (by decide)) rfl rfl rfl (by decide) (Nat.le_of_ble_eq_true rfl) (by decide) ?_
  refine ex_if_eq (tgt := 33) ok_X12_slot (mi 15 rfl) rfl (fun hn => absurd hn (by decide)) (fun _ => ?_)
  refine ex_iconst ok_X12_slot (mi 16 rfl) ?_
  refine ex_goto (tgt := 34) ok_X12_slot (mi 17 rfl) rfl ?_
  refine ex_iconst ok_X12_slot (mi 19 rfl) ?_
  refine ex_iconst ok_X12_slot (mi 20 rfl) ?_
  refine ex_callVr (As := [_, _, _]) (v := some (.int (nI 0))) (g1 := (ap x [(0, 0, 1200, 0, (nI 0))] h)) ok_X12_slot (mi 21 rfl) rfl (m_ref111 (ws := []) hst f.1) rfl (fk f.1 0 rfl) rfl rfl (by decide) (by decide) (Nat.le_of_ble_eq_true rfl) (by decide) ?_
  refine ex_if_eq (tgt := 44) ok_X12_slot (mi 22 rfl) rfl (fun _ => ?_) (fun hn => absurd (by decide) hn)
  refine ex_aload_n ok_X12_slot (mi 25 rfl) rfl ?_
  refine ex_getRx ok_X12_slot (mi 26 rfl) rfl rfl (kq apq (fk f.1 0 rfl)) (rq apq (fr f.1 1 rfl)) (kq apq (fk f.1 2 rfl)) (by decide) ?_
  refine ex_iload_n ok_X12_slot (mi 27 rfl) rfl ?_
  refine ex_ialdx ok_X12_slot (mi 28 rfl) (Or.inl (kq apq (fk f.1 2 rfl))) (nq apq (fn f.1 2 rfl)) (pk_in 1 3 (by decide)) (apA0 (j := 1) rfl (fe f.2.2.1 143 rfl)) ?_
  refine ex_iconst ok_X12_slot (mi 29 rfl) ?_
  refine ex_icmp_ne (tgt := 58) ok_X12_slot (mi 30 rfl) rfl (fun _ => ?_) (fun hn => absurd hn (by decide))
  refine ex_iconst ok_X12_slot (mi 33 rfl) ?_
  refine ex_istore ok_X12_slot (mi 34 rfl) ?_
  refine ex_bipush ok_X12_slot (mi 35 rfl) ?_
  refine ex_iload_n ok_X12_slot (mi 36 rfl) rfl ?_
  refine ex_imul ok_X12_slot (mi 37 rfl) ?_
  refine ex_top (w := (nI 16)) (by decide) ?_
  refine ex_iload_n ok_X12_slot (mi 38 rfl) rfl ?_
  refine ex_iadd ok_X12_slot (mi 39 rfl) ?_
  refine ex_istore ok_X12_slot (mi 40 rfl) ?_
  refine ex_iload_n ok_X12_slot (mi 41 rfl) rfl ?_
  refine ex_iconst ok_X12_slot (mi 42 rfl) ?_
  refine ex_icmp_ne (tgt := 93) ok_X12_slot (mi 43 rfl) rfl (fun _ => ?_) (fun hn => absurd hn (by decide))
  refine ex_iload ok_X12_slot (mi 53 rfl) rfl ?_
  refine ex_if_ne (tgt := 102) ok_X12_slot (mi 54 rfl) rfl (fun hn => absurd (by decide) hn) (fun _ => ?_)
  refine ex_iconst ok_X12_slot (mi 55 rfl) ?_
  refine ex_goto (tgt := 138) ok_X12_slot (mi 56 rfl) rfl ?_
  refine ex_iret ok_X12_slot (mi 76 rfl) rfl ?_
  exact ⟨_, rfl, fun _ => by decide, apI (a := 0) rfl, kq apq (fk f.1 0 rfl), kp_ap rfl⟩
theorem d_copy_1 {G : GE} (hst : (ge_l G).stackTraces = false) {x : Nat} {j : Nat} (hj : j < 16) : MM G 2 0 0 my_X12_copy x [.int (nI 1), .int (nI j)] 0 ((-1)) := by
  intro h f
  refine ex_M_of ok_X12_copy cw_X12_copy rfl hst (Nat.le_of_ble_eq_true rfl) ?_
  refine ex_aload_n ok_X12_copy (mi 0 rfl) rfl ?_
  refine ex_iload_n ok_X12_copy (mi 1 rfl) rfl ?_
  refine ex_iconst ok_X12_copy (mi 2 rfl) ?_
  refine ex_iconst ok_X12_copy (mi 3 rfl) ?_
  refine ex_callSr (As := [_, _, _]) ok_X12_copy (mi 4 rfl) rfl (m_in1 hst (by decide) (by decide)) rfl rfl rfl (by decide) (Nat.le_of_ble_eq_true rfl) (by decide) ?_
  refine ex_if_eq (tgt := 24) ok_X12_copy (mi 5 rfl) rfl (fun hn => absurd hn (by decide)) (fun _ => ?_)
  refine ex_iload_n ok_X12_copy (mi 6 rfl) rfl ?_
  refine ex_iconst ok_X12_copy (mi 7 rfl) ?_
  refine ex_bipush ok_X12_copy (mi 8 rfl) ?_
  refine ex_callSr (As := [_, _, _]) ok_X12_copy (mi 9 rfl) rfl (m_in1 hst (vlo (vp_in_nI hj (by decide)) (by decide)) (vhi (vp_in_nI hj (by decide)) (by decide))) rfl rfl rfl (by decide) (Nat.le_of_ble_eq_true rfl) (by decide) ?_
  refine ex_if_eq (tgt := 24) ok_X12_copy (mi 10 rfl) rfl (fun hn => absurd hn (by decide)) (fun _ => ?_)
  refine ex_iconst ok_X12_copy (mi 11 rfl) ?_
  refine ex_goto (tgt := 25) ok_X12_copy (mi 12 rfl) rfl ?_
  refine ex_iconst ok_X12_copy (mi 14 rfl) ?_
  refine ex_iconst ok_X12_copy (mi 15 rfl) ?_
  refine ex_callVr (As := [_, _, _]) (v := some (.int (nI 0))) (g1 := (ap x [(0, 0, 1200, 0, (nI 0))] h)) ok_X12_copy (mi 16 rfl) rfl (m_ref111 (ws := []) hst f.1) rfl (fk f.1 0 rfl) rfl rfl (by decide) (by decide) (Nat.le_of_ble_eq_true rfl) (by decide) ?_
  refine ex_if_eq (tgt := 35) ok_X12_copy (mi 17 rfl) rfl (fun _ => ?_) (fun hn => absurd (by decide) hn)
  refine ex_aload_n ok_X12_copy (mi 20 rfl) rfl ?_
  refine ex_getRx ok_X12_copy (mi 21 rfl) rfl rfl (kq apq (fk f.1 0 rfl)) (rq apq (fr f.1 46 rfl)) (kq apq (fk f.1 47 rfl)) (by decide) ?_
  refine ex_bipush ok_X12_copy (mi 22 rfl) ?_
  refine ex_iload_n ok_X12_copy (mi 23 rfl) rfl ?_
  refine ex_imul ok_X12_copy (mi 24 rfl) ?_
  refine ex_top (w := (nI 16)) (by decide) ?_
  refine ex_iload_n ok_X12_copy (mi 25 rfl) rfl ?_
  refine ex_iadd ok_X12_copy (mi 26 rfl) ?_
  refine ex_top (w := (nI (16 + j))) (nI_add 16 j) ?_
  refine ex_ialdx ok_X12_copy (mi 27 rfl) (Or.inl (kq apq (fk f.1 47 rfl))) (nq apq (fn f.1 47 rfl)) (vp_in_nI (by omega) (by decide)) (apA0 (rfl) (fg f.2.2.2 4 rfl (by rw [nI_clamp (by omega)]; omega) (by rw [nI_clamp (by omega)]; omega))) ?_
  refine ex_iret ok_X12_copy (mi 28 rfl) rfl ?_
  exact ⟨_, rfl, fun _ => by decide, apI (a := 0) rfl, kq apq (fk f.1 0 rfl), kp_ap rfl⟩
theorem d_propose_2_b {G : GE} (hst : (ge_l G).stackTraces = false) {x : Nat} {p1 : Int32} (c1 : ¬ (nI 1 ≤ p1 ∧ p1 ≤ nI 1000000)) : MM G 4 0 0 my_X12_propose x [.int (nI 2), .int p1] 2 (nI 0) := by
  intro h f
  refine ex_M_of ok_X12_propose cw_X12_propose rfl hst (Nat.le_of_ble_eq_true rfl) ?_
  refine ex_iload_n ok_X12_propose (mi 0 rfl) rfl ?_
  refine ex_iconst ok_X12_propose (mi 1 rfl) ?_
  refine ex_iconst ok_X12_propose (mi 2 rfl) ?_
  refine ex_callSr (As := [_, _, _]) ok_X12_propose (mi 3 rfl) rfl (m_in1 hst (by decide) (by decide)) rfl rfl rfl (by decide) (Nat.le_of_ble_eq_true rfl) (by decide) ?_
  refine ex_istore_n ok_X12_propose (mi 4 rfl) ?_
  refine ex_aload_n ok_X12_propose (mi 5 rfl) rfl ?_
  refine ex_iload_n ok_X12_propose (mi 6 rfl) rfl ?_
  refine ex_iload_n ok_X12_propose (mi 7 rfl) rfl ?_
  refine ex_iconst ok_X12_propose (mi 8 rfl) ?_
  refine ex_ldc ok_X12_propose (mi 9 rfl) rfl ?_
  refine ex_callSr (As := [_, _, _]) ok_X12_propose (mi 10 rfl) rfl (m_in0 hst c1) rfl rfl rfl (by decide) (Nat.le_of_ble_eq_true rfl) (by decide) ?_
  refine ex_iload_n ok_X12_propose (mi 11 rfl) rfl ?_
  refine ex_if_eq (tgt := 33) ok_X12_propose (mi 12 rfl) rfl (fun hn => absurd hn (by decide)) (fun _ => ?_)
  refine ex_aload_n ok_X12_propose (mi 13 rfl) rfl ?_
  refine ex_getRx ok_X12_propose (mi 14 rfl) rfl rfl (fk f.1 0 rfl) (fr f.1 0 rfl) (fk f.1 1 rfl) (by decide) ?_
  refine ex_iload_n ok_X12_propose (mi 15 rfl) rfl ?_
  refine ex_baldx ok_X12_propose (mi 16 rfl) (fk f.1 1 rfl) (fn f.1 1 rfl) (pk_in 2 27 (by decide)) (fg (j := 2) f.2.2.2 28 rfl (by decide) (by decide)) ?_
  refine ex_if_ne (tgt := 33) ok_X12_propose (mi 17 rfl) rfl (fun hn => absurd (by decide) hn) (fun _ => ?_)
  refine ex_iconst ok_X12_propose (mi 18 rfl) ?_
  refine ex_goto (tgt := 34) ok_X12_propose (mi 19 rfl) rfl ?_
  refine ex_callVr (As := [_, _, _]) (v := some (.int (nI 1))) (g1 := (ap x [(0, 0, 1200, 0, (nI 2))] h)) ok_X12_propose (mi 21 rfl) rfl (m_ref101 (ws := []) hst f.1) rfl (fk f.1 0 rfl) rfl rfl (by decide) (by decide) (Nat.le_of_ble_eq_true rfl) (by decide) ?_
  refine ex_if_eq (tgt := 42) ok_X12_propose (mi 22 rfl) rfl (fun hn => absurd hn (by decide)) (fun _ => ?_)
  refine ex_iconst ok_X12_propose (mi 23 rfl) ?_
  refine ex_iret ok_X12_propose (mi 24 rfl) rfl ?_
  exact ⟨_, rfl, fun e => absurd e (by decide), apI (a := 0) rfl, kq apq (fk f.1 0 rfl), kp_ap rfl⟩
theorem d_propose_2_k {G : GE} (hst : (ge_l G).stackTraces = false) {x : Nat} {p1 : Int32} (c1 : nI 1 ≤ p1 ∧ p1 ≤ nI 1000000) : MM G 4 0 0 my_X12_propose x [.int (nI 2), .int p1] 0 ((-1)) := by
  intro h f
  refine ex_M_of ok_X12_propose cw_X12_propose rfl hst (Nat.le_of_ble_eq_true rfl) ?_
  refine ex_iload_n ok_X12_propose (mi 0 rfl) rfl ?_
  refine ex_iconst ok_X12_propose (mi 1 rfl) ?_
  refine ex_iconst ok_X12_propose (mi 2 rfl) ?_
  refine ex_callSr (As := [_, _, _]) ok_X12_propose (mi 3 rfl) rfl (m_in1 hst (by decide) (by decide)) rfl rfl rfl (by decide) (Nat.le_of_ble_eq_true rfl) (by decide) ?_
  refine ex_istore_n ok_X12_propose (mi 4 rfl) ?_
  refine ex_aload_n ok_X12_propose (mi 5 rfl) rfl ?_
  refine ex_iload_n ok_X12_propose (mi 6 rfl) rfl ?_
  refine ex_iload_n ok_X12_propose (mi 7 rfl) rfl ?_
  refine ex_iconst ok_X12_propose (mi 8 rfl) ?_
  refine ex_ldc ok_X12_propose (mi 9 rfl) rfl ?_
  refine ex_callSr (As := [_, _, _]) ok_X12_propose (mi 10 rfl) rfl (m_in1 hst c1.1 c1.2) rfl rfl rfl (by decide) (Nat.le_of_ble_eq_true rfl) (by decide) ?_
  refine ex_iload_n ok_X12_propose (mi 11 rfl) rfl ?_
  refine ex_if_eq (tgt := 33) ok_X12_propose (mi 12 rfl) rfl (fun hn => absurd hn (by decide)) (fun _ => ?_)
  refine ex_aload_n ok_X12_propose (mi 13 rfl) rfl ?_
  refine ex_getRx ok_X12_propose (mi 14 rfl) rfl rfl (fk f.1 0 rfl) (fr f.1 0 rfl) (fk f.1 1 rfl) (by decide) ?_
  refine ex_iload_n ok_X12_propose (mi 15 rfl) rfl ?_
  refine ex_baldx ok_X12_propose (mi 16 rfl) (fk f.1 1 rfl) (fn f.1 1 rfl) (pk_in 2 27 (by decide)) (fg (j := 2) f.2.2.2 28 rfl (by decide) (by decide)) ?_
  refine ex_if_ne (tgt := 33) ok_X12_propose (mi 17 rfl) rfl (fun hn => absurd (by decide) hn) (fun _ => ?_)
  refine ex_iconst ok_X12_propose (mi 18 rfl) ?_
  refine ex_goto (tgt := 34) ok_X12_propose (mi 19 rfl) rfl ?_
  refine ex_callVr (As := [_, _, _]) (v := some (.int (nI 0))) (g1 := (ap x [(0, 0, 1200, 0, (nI 0))] h)) ok_X12_propose (mi 21 rfl) rfl (m_ref111 (ws := []) hst f.1) rfl (fk f.1 0 rfl) rfl rfl (by decide) (by decide) (Nat.le_of_ble_eq_true rfl) (by decide) ?_
  refine ex_if_eq (tgt := 42) ok_X12_propose (mi 22 rfl) rfl (fun _ => ?_) (fun hn => absurd (by decide) hn)
  refine ex_aload_n ok_X12_propose (mi 25 rfl) rfl ?_
  refine ex_getRx ok_X12_propose (mi 26 rfl) rfl rfl (kq apq (fk f.1 0 rfl)) (rq apq (fr f.1 1 rfl)) (kq apq (fk f.1 2 rfl)) (by decide) ?_
  refine ex_iload_n ok_X12_propose (mi 27 rfl) rfl ?_
  refine ex_ialdx ok_X12_propose (mi 28 rfl) (Or.inl (kq apq (fk f.1 2 rfl))) (nq apq (fn f.1 2 rfl)) (pk_in 2 3 (by decide)) (apA0 (j := 2) rfl (fe f.2.2.1 119 rfl)) ?_
  refine ex_iconst ok_X12_propose (mi 29 rfl) ?_
  refine ex_icmp_ne (tgt := 63) ok_X12_propose (mi 30 rfl) rfl (fun _ => ?_) (fun hn => absurd hn (by decide))
  refine ex_iconst ok_X12_propose (mi 37 rfl) ?_
  refine ex_iret ok_X12_propose (mi 38 rfl) rfl ?_
  exact ⟨_, rfl, fun _ => by decide, apI (a := 0) rfl, kq apq (fk f.1 0 rfl), kp_ap rfl⟩
theorem d_collect_2 {G : GE} (hst : (ge_l G).stackTraces = false) {x : Nat}  : MM G 3 0 0 my_X12_collect x [.int (nI 2)] 0 (nI 0) := by
  intro h f
  refine ex_M_of ok_X12_collect cw_X12_collect rfl hst (Nat.le_of_ble_eq_true rfl) ?_
  refine ex_iload_n ok_X12_collect (mi 0 rfl) rfl ?_
  refine ex_iconst ok_X12_collect (mi 1 rfl) ?_
  refine ex_iconst ok_X12_collect (mi 2 rfl) ?_
  refine ex_callSr (As := [_, _, _]) ok_X12_collect (mi 3 rfl) rfl (m_in1 hst (by decide) (by decide)) rfl rfl rfl (by decide) (Nat.le_of_ble_eq_true rfl) (by decide) ?_
  refine ex_istore_n ok_X12_collect (mi 4 rfl) ?_
  refine ex_aload_n ok_X12_collect (mi 5 rfl) rfl ?_
  refine ex_iload_n ok_X12_collect (mi 6 rfl) rfl ?_
  refine ex_iconst ok_X12_collect (mi 7 rfl) ?_
  refine ex_iload_n ok_X12_collect (mi 8 rfl) rfl ?_
  refine ex_if_eq (tgt := 27) ok_X12_collect (mi 9 rfl) rfl (fun hn => absurd hn (by decide)) (fun _ => ?_)
  refine ex_aload_n ok_X12_collect (mi 10 rfl) rfl ?_
  refine ex_getRx ok_X12_collect (mi 11 rfl) rfl rfl (fk f.1 0 rfl) (fr f.1 0 rfl) (fk f.1 1 rfl) (by decide) ?_
  refine ex_iload_n ok_X12_collect (mi 12 rfl) rfl ?_
  refine ex_baldx ok_X12_collect (mi 13 rfl) (fk f.1 1 rfl) (fn f.1 1 rfl) (pk_in 2 27 (by decide)) (fg (j := 2) f.2.2.2 28 rfl (by decide) (by decide)) ?_
  refine ex_if_ne (tgt := 27) ok_X12_collect (mi 14 rfl) rfl (fun hn => absurd (by decide) hn) (fun _ => ?_)
  refine ex_iconst ok_X12_collect (mi 15 rfl) ?_
  refine ex_goto (tgt := 28) ok_X12_collect (mi 16 rfl) rfl ?_
  refine ex_callVr (As := [_, _, _]) (v := some (.int (nI 0))) (g1 := (ap x [(0, 0, 1200, 0, (nI 0))] h)) ok_X12_collect (mi 18 rfl) rfl (m_ref111 (ws := []) hst f.1) rfl (fk f.1 0 rfl) rfl rfl (by decide) (by decide) (Nat.le_of_ble_eq_true rfl) (by decide) ?_
  refine ex_if_eq (tgt := 56) ok_X12_collect (mi 19 rfl) rfl (fun _ => ?_) (fun hn => absurd (by decide) hn)
  refine ex_aload_n ok_X12_collect (mi 32 rfl) rfl ?_
  refine ex_getRx ok_X12_collect (mi 33 rfl) rfl rfl (kq apq (fk f.1 0 rfl)) (rq apq (fr f.1 1 rfl)) (kq apq (fk f.1 2 rfl)) (by decide) ?_
  refine ex_iload_n ok_X12_collect (mi 34 rfl) rfl ?_
  refine ex_ialdx ok_X12_collect (mi 35 rfl) (Or.inl (kq apq (fk f.1 2 rfl))) (nq apq (fn f.1 2 rfl)) (pk_in 2 3 (by decide)) (apA0 (j := 2) rfl (fe f.2.2.1 119 rfl)) ?_
  refine ex_iconst ok_X12_collect (mi 36 rfl) ?_
  refine ex_icmp_ne (tgt := 70) ok_X12_collect (mi 37 rfl) rfl (fun _ => ?_) (fun hn => absurd hn (by decide))
  refine ex_iconst ok_X12_collect (mi 40 rfl) ?_
  refine ex_istore_n ok_X12_collect (mi 41 rfl) ?_
  refine ex_iload_n ok_X12_collect (mi 42 rfl) rfl ?_
  refine ex_if_eq (tgt := 84) ok_X12_collect (mi 43 rfl) rfl (fun _ => ?_) (fun hn => absurd (by decide) hn)
  refine ex_iconst ok_X12_collect (mi 48 rfl) ?_
  refine ex_istore ok_X12_collect (mi 49 rfl) ?_
  refine ex_iload_n ok_X12_collect (mi 50 rfl) rfl ?_
  refine ex_if_eq (tgt := 162) ok_X12_collect (mi 51 rfl) rfl (fun _ => ?_) (fun hn => absurd (by decide) hn)
  refine ex_iload_n ok_X12_collect (mi 94 rfl) rfl ?_
  refine ex_if_ne (tgt := 168) ok_X12_collect (mi 95 rfl) rfl (fun hn => absurd (by decide) hn) (fun _ => ?_)
  refine ex_iconst ok_X12_collect (mi 96 rfl) ?_
  refine ex_zret ok_X12_collect (mi 97 rfl) rfl (by decide) ?_
  exact ⟨_, rfl, fun _ => by decide, apI (a := 0) rfl, kq apq (fk f.1 0 rfl), kp_ap rfl⟩
theorem d_again_2 {G : GE} (hst : (ge_l G).stackTraces = false) {x : Nat}  : MM G 3 0 0 my_X12_again x [.int (nI 2)] 0 (nI 0) := by
  intro h f
  refine ex_M_of ok_X12_again cw_X12_again rfl hst (Nat.le_of_ble_eq_true rfl) ?_
  refine ex_iload_n ok_X12_again (mi 0 rfl) rfl ?_
  refine ex_iconst ok_X12_again (mi 1 rfl) ?_
  refine ex_iconst ok_X12_again (mi 2 rfl) ?_
  refine ex_callSr (As := [_, _, _]) ok_X12_again (mi 3 rfl) rfl (m_in1 hst (by decide) (by decide)) rfl rfl rfl (by decide) (Nat.le_of_ble_eq_true rfl) (by decide) ?_
  refine ex_istore_n ok_X12_again (mi 4 rfl) ?_
  refine ex_aload_n ok_X12_again (mi 5 rfl) rfl ?_
  refine ex_iload_n ok_X12_again (mi 6 rfl) rfl ?_
  refine ex_iconst ok_X12_again (mi 7 rfl) ?_
  refine ex_iload_n ok_X12_again (mi 8 rfl) rfl ?_
  refine ex_if_eq (tgt := 27) ok_X12_again (mi 9 rfl) rfl (fun hn => absurd hn (by decide)) (fun _ => ?_)
  refine ex_aload_n ok_X12_again (mi 10 rfl) rfl ?_
  refine ex_getRx ok_X12_again (mi 11 rfl) rfl rfl (fk f.1 0 rfl) (fr f.1 0 rfl) (fk f.1 1 rfl) (by decide) ?_
  refine ex_iload_n ok_X12_again (mi 12 rfl) rfl ?_
  refine ex_baldx ok_X12_again (mi 13 rfl) (fk f.1 1 rfl) (fn f.1 1 rfl) (pk_in 2 27 (by decide)) (fg (j := 2) f.2.2.2 28 rfl (by decide) (by decide)) ?_
  refine ex_if_ne (tgt := 27) ok_X12_again (mi 14 rfl) rfl (fun hn => absurd (by decide) hn) (fun _ => ?_)
  refine ex_iconst ok_X12_again (mi 15 rfl) ?_
  refine ex_goto (tgt := 28) ok_X12_again (mi 16 rfl) rfl ?_
  refine ex_callVr (As := [_, _, _]) (v := some (.int (nI 0))) (g1 := (ap x [(0, 0, 1200, 0, (nI 0))] h)) ok_X12_again (mi 18 rfl) rfl (m_ref111 (ws := []) hst f.1) rfl (fk f.1 0 rfl) rfl rfl (by decide) (by decide) (Nat.le_of_ble_eq_true rfl) (by decide) ?_
  refine ex_if_eq (tgt := 56) ok_X12_again (mi 19 rfl) rfl (fun _ => ?_) (fun hn => absurd (by decide) hn)
  refine ex_iload_n ok_X12_again (mi 32 rfl) rfl ?_
  refine ex_istore_n ok_X12_again (mi 33 rfl) ?_
  refine ex_iconst ok_X12_again (mi 34 rfl) ?_
  refine ex_istore ok_X12_again (mi 35 rfl) ?_
  refine ex_aload_n ok_X12_again (mi 36 rfl) rfl ?_
  refine ex_getRx ok_X12_again (mi 37 rfl) rfl rfl (kq apq (fk f.1 0 rfl)) (rq apq (fr f.1 1 rfl)) (kq apq (fk f.1 2 rfl)) (by decide) ?_
  refine ex_iload_n ok_X12_again (mi 38 rfl) rfl ?_
  refine ex_ialdx ok_X12_again (mi 39 rfl) (Or.inl (kq apq (fk f.1 2 rfl))) (nq apq (fn f.1 2 rfl)) (pk_in 2 3 (by decide)) (apA0 (j := 2) rfl (fe f.2.2.1 119 rfl)) ?_
  refine ex_iconst ok_X12_again (mi 40 rfl) ?_
  refine ex_icmp_ne (tgt := 118) ok_X12_again (mi 41 rfl) rfl (fun _ => ?_) (fun hn => absurd hn (by decide))
  refine ex_aload_n ok_X12_again (mi 73 rfl) rfl ?_
  refine ex_getRx ok_X12_again (mi 74 rfl) rfl rfl (kq apq (fk f.1 0 rfl)) (rq apq (fr f.1 1 rfl)) (kq apq (fk f.1 2 rfl)) (by decide) ?_
  refine ex_iload_n ok_X12_again (mi 75 rfl) rfl ?_
  refine ex_ialdx ok_X12_again (mi 76 rfl) (Or.inl (kq apq (fk f.1 2 rfl))) (nq apq (fn f.1 2 rfl)) (pk_in 2 3 (by decide)) (apA0 (j := 2) rfl (fe f.2.2.1 119 rfl)) ?_
  refine ex_iconst ok_X12_again (mi 77 rfl) ?_
  refine ex_icmp_ne (tgt := 164) ok_X12_again (mi 78 rfl) rfl (fun _ => ?_) (fun hn => absurd hn (by decide))
  refine ex_aload_n ok_X12_again (mi 103 rfl) rfl ?_
  refine ex_getRx ok_X12_again (mi 104 rfl) rfl rfl (kq apq (fk f.1 0 rfl)) (rq apq (fr f.1 1 rfl)) (kq apq (fk f.1 2 rfl)) (by decide) ?_
  refine ex_iload_n ok_X12_again (mi 105 rfl) rfl ?_
  refine ex_ialdx ok_X12_again (mi 106 rfl) (Or.inl (kq apq (fk f.1 2 rfl))) (nq apq (fn f.1 2 rfl)) (pk_in 2 3 (by decide)) (apA0 (j := 2) rfl (fe f.2.2.1 119 rfl)) ?_
  refine ex_iconst ok_X12_again (mi 107 rfl) ?_
  refine ex_icmp_ne (tgt := 462) ok_X12_again (mi 108 rfl) rfl (fun _ => ?_) (fun hn => absurd hn (by decide))
  refine ex_iload ok_X12_again (mi 288 rfl) rfl ?_
  refine ex_aload_n ok_X12_again (mi 289 rfl) rfl ?_
  refine ex_getRx ok_X12_again (mi 290 rfl) rfl rfl (kq apq (fk f.1 0 rfl)) (rq apq (fr f.1 25 rfl)) (kq apq (fk f.1 26 rfl)) (by decide) ?_
  refine ex_iload_n ok_X12_again (mi 291 rfl) rfl ?_
  refine ex_ialdx ok_X12_again (mi 292 rfl) (Or.inl (kq apq (fk f.1 26 rfl))) (nq apq (fn f.1 26 rfl)) (pk_in 2 3 (by decide)) (apA0 (j := 2) rfl (fe f.2.2.1 102 rfl)) ?_
  refine ex_iconst ok_X12_again (mi 293 rfl) ?_
  refine ex_icmp_ne (tgt := 512) ok_X12_again (mi 294 rfl) rfl (fun _ => ?_) (fun hn => absurd hn (by decide))
  refine ex_iconst ok_X12_again (mi 320 rfl) ?_
  refine ex_iadd ok_X12_again (mi 321 rfl) ?_
  refine ex_top (w := (nI 0)) (by decide) ?_
  refine ex_istore ok_X12_again (mi 322 rfl) ?_
  refine ex_iload ok_X12_again (mi 323 rfl) rfl ?_
  refine ex_aload_n ok_X12_again (mi 324 rfl) rfl ?_
  refine ex_getRx ok_X12_again (mi 325 rfl) rfl rfl (kq apq (fk f.1 0 rfl)) (rq apq (fr f.1 25 rfl)) (kq apq (fk f.1 26 rfl)) (by decide) ?_
  refine ex_iload_n ok_X12_again (mi 326 rfl) rfl ?_
  refine ex_ialdx ok_X12_again (mi 327 rfl) (Or.inl (kq apq (fk f.1 26 rfl))) (nq apq (fn f.1 26 rfl)) (pk_in 2 3 (by decide)) (apA0 (j := 2) rfl (fe f.2.2.1 102 rfl)) ?_
  refine ex_iconst ok_X12_again (mi 328 rfl) ?_
  refine ex_icmp_ne (tgt := 571) ok_X12_again (mi 329 rfl) rfl (fun _ => ?_) (fun hn => absurd hn (by decide))
  refine ex_iconst ok_X12_again (mi 358 rfl) ?_
  refine ex_iadd ok_X12_again (mi 359 rfl) ?_
  refine ex_top (w := (nI 0)) (by decide) ?_
  refine ex_istore ok_X12_again (mi 360 rfl) ?_
  refine ex_iload ok_X12_again (mi 361 rfl) rfl ?_
  refine ex_aload_n ok_X12_again (mi 362 rfl) rfl ?_
  refine ex_getRx ok_X12_again (mi 363 rfl) rfl rfl (kq apq (fk f.1 0 rfl)) (rq apq (fr f.1 25 rfl)) (kq apq (fk f.1 26 rfl)) (by decide) ?_
  refine ex_iload_n ok_X12_again (mi 364 rfl) rfl ?_
  refine ex_ialdx ok_X12_again (mi 365 rfl) (Or.inl (kq apq (fk f.1 26 rfl))) (nq apq (fn f.1 26 rfl)) (pk_in 2 3 (by decide)) (apA0 (j := 2) rfl (fe f.2.2.1 102 rfl)) ?_
  refine ex_iconst ok_X12_again (mi 366 rfl) ?_
  refine ex_icmp_ne (tgt := 610) ok_X12_again (mi 367 rfl) rfl (fun _ => ?_) (fun hn => absurd hn (by decide))
  refine ex_iconst ok_X12_again (mi 383 rfl) ?_
  refine ex_iadd ok_X12_again (mi 384 rfl) ?_
  refine ex_top (w := (nI 0)) (by decide) ?_
  refine ex_istore ok_X12_again (mi 385 rfl) ?_
  refine ex_iload ok_X12_again (mi 386 rfl) rfl ?_
  refine ex_iret ok_X12_again (mi 387 rfl) rfl ?_
  exact ⟨_, rfl, fun _ => by decide, apI (a := 0) rfl, kq apq (fk f.1 0 rfl), kp_ap rfl⟩
theorem d_begin_2_r1 {G : GE} (hst : (ge_l G).stackTraces = false) {x : Nat} {p1 p2 : Int32} (c1 : ¬ vp_in p1 300) : MM G 3 0 0 my_X12_begin x [.int (nI 2), .int p1, .int p2] 2 (nI 0) := by
  intro h f
  refine ex_M_of ok_X12_begin cw_X12_begin rfl hst (Nat.le_of_ble_eq_true rfl) ?_
  refine ex_iload_n ok_X12_begin (mi 0 rfl) rfl ?_
  refine ex_iconst ok_X12_begin (mi 1 rfl) ?_
  refine ex_iconst ok_X12_begin (mi 2 rfl) ?_
  refine ex_callSr (As := [_, _, _]) ok_X12_begin (mi 3 rfl) rfl (m_in1 hst (by decide) (by decide)) rfl rfl rfl (by decide) (Nat.le_of_ble_eq_true rfl) (by decide) ?_
  refine ex_istore ok_X12_begin (mi 4 rfl) ?_
  refine ex_iload ok_X12_begin (mi 5 rfl) rfl ?_
  refine ex_if_eq (tgt := 64) ok_X12_begin (mi 6 rfl) rfl (fun hn => absurd hn (by decide)) (fun _ => ?_)
  refine ex_iload_n ok_X12_begin (mi 7 rfl) rfl ?_
  refine ex_iconst ok_X12_begin (mi 8 rfl) ?_
  refine ex_sipush ok_X12_begin (mi 9 rfl) ?_
  refine ex_callSr (As := [_, _, _]) ok_X12_begin (mi 10 rfl) rfl (m_in0 hst (vbad c1 (by decide))) rfl rfl rfl (by decide) (Nat.le_of_ble_eq_true rfl) (by decide) ?_
  refine ex_if_eq (tgt := 64) ok_X12_begin (mi 11 rfl) rfl (fun _ => ?_) (fun hn => absurd (by decide) hn)
  refine ex_iconst ok_X12_begin (mi 34 rfl) ?_
  refine ex_istore ok_X12_begin (mi 35 rfl) ?_
  refine ex_aload_n ok_X12_begin (mi 36 rfl) rfl ?_
  refine ex_iload ok_X12_begin (mi 37 rfl) rfl ?_
  refine ex_iload ok_X12_begin (mi 38 rfl) rfl ?_
  refine ex_iload ok_X12_begin (mi 39 rfl) rfl ?_
  refine ex_if_eq (tgt := 90) ok_X12_begin (mi 40 rfl) rfl (fun hn => absurd hn (by decide)) (fun _ => ?_)
  refine ex_aload_n ok_X12_begin (mi 41 rfl) rfl ?_
  refine ex_getRx ok_X12_begin (mi 42 rfl) rfl rfl (fk f.1 0 rfl) (fr f.1 0 rfl) (fk f.1 1 rfl) (by decide) ?_
  refine ex_iload_n ok_X12_begin (mi 43 rfl) rfl ?_
  refine ex_baldx ok_X12_begin (mi 44 rfl) (fk f.1 1 rfl) (fn f.1 1 rfl) (pk_in 2 27 (by decide)) (fg (j := 2) f.2.2.2 28 rfl (by decide) (by decide)) ?_
  refine ex_if_ne (tgt := 90) ok_X12_begin (mi 45 rfl) rfl (fun hn => absurd (by decide) hn) (fun _ => ?_)
  refine ex_iconst ok_X12_begin (mi 46 rfl) ?_
  refine ex_goto (tgt := 91) ok_X12_begin (mi 47 rfl) rfl ?_
  refine ex_callVr (As := [_, _, _]) (v := some (.int (nI 1))) (g1 := (ap x [(0, 0, 1200, 0, (nI 2))] h)) ok_X12_begin (mi 49 rfl) rfl (m_ref101 (ws := []) hst f.1) rfl (fk f.1 0 rfl) rfl rfl (by decide) (by decide) (Nat.le_of_ble_eq_true rfl) (by decide) ?_
  refine ex_if_eq (tgt := 99) ok_X12_begin (mi 50 rfl) rfl (fun hn => absurd hn (by decide)) (fun _ => ?_)
  refine ex_iconst ok_X12_begin (mi 51 rfl) ?_
  refine ex_iret ok_X12_begin (mi 52 rfl) rfl ?_
  exact ⟨_, rfl, fun e => absurd e (by decide), apI (a := 0) rfl, kq apq (fk f.1 0 rfl), kp_ap rfl⟩
theorem d_begin_2_r2 {G : GE} (hst : (ge_l G).stackTraces = false) {x : Nat} {p1 p2 : Int32} (c1 : vp_in p1 300) (cr : ¬ (p1 - p1 / 3 * 3 = nI 2)) : MM G 3 0 0 my_X12_begin x [.int (nI 2), .int p1, .int p2] 2 (nI 0) := by
  intro h f
  refine ex_M_of ok_X12_begin cw_X12_begin rfl hst (Nat.le_of_ble_eq_true rfl) ?_
  refine ex_iload_n ok_X12_begin (mi 0 rfl) rfl ?_
  refine ex_iconst ok_X12_begin (mi 1 rfl) ?_
  refine ex_iconst ok_X12_begin (mi 2 rfl) ?_
  refine ex_callSr (As := [_, _, _]) ok_X12_begin (mi 3 rfl) rfl (m_in1 hst (by decide) (by decide)) rfl rfl rfl (by decide) (Nat.le_of_ble_eq_true rfl) (by decide) ?_
  refine ex_istore ok_X12_begin (mi 4 rfl) ?_
  refine ex_iload ok_X12_begin (mi 5 rfl) rfl ?_
  refine ex_if_eq (tgt := 64) ok_X12_begin (mi 6 rfl) rfl (fun hn => absurd hn (by decide)) (fun _ => ?_)
  refine ex_iload_n ok_X12_begin (mi 7 rfl) rfl ?_
  refine ex_iconst ok_X12_begin (mi 8 rfl) ?_
  refine ex_sipush ok_X12_begin (mi 9 rfl) ?_
  refine ex_callSr (As := [_, _, _]) ok_X12_begin (mi 10 rfl) rfl (m_in1 hst (vlo c1 (by decide)) (vhi c1 (by decide))) rfl rfl rfl (by decide) (Nat.le_of_ble_eq_true rfl) (by decide) ?_
  refine ex_if_eq (tgt := 64) ok_X12_begin (mi 11 rfl) rfl (fun hn => absurd hn (by decide)) (fun _ => ?_)
  refine ex_iload_n ok_X12_begin (mi 12 rfl) rfl ?_
  refine ex_iconst ok_X12_begin (mi 13 rfl) ?_
  refine ex_irem ok_X12_begin (mi 14 rfl) (by decide) ?_
  refine ex_iload_n ok_X12_begin (mi 15 rfl) rfl ?_
  refine ex_icmp_ne (tgt := 64) ok_X12_begin (mi 16 rfl) rfl (fun h28 => ?_) (fun h28 => False.elim (cr h28))
  refine ex_iconst ok_X12_begin (mi 34 rfl) ?_
  refine ex_istore ok_X12_begin (mi 35 rfl) ?_
  refine ex_aload_n ok_X12_begin (mi 36 rfl) rfl ?_
  refine ex_iload ok_X12_begin (mi 37 rfl) rfl ?_
  refine ex_iload ok_X12_begin (mi 38 rfl) rfl ?_
  refine ex_iload ok_X12_begin (mi 39 rfl) rfl ?_
  refine ex_if_eq (tgt := 90) ok_X12_begin (mi 40 rfl) rfl (fun hn => absurd hn (by decide)) (fun _ => ?_)
  refine ex_aload_n ok_X12_begin (mi 41 rfl) rfl ?_
  refine ex_getRx ok_X12_begin (mi 42 rfl) rfl rfl (fk f.1 0 rfl) (fr f.1 0 rfl) (fk f.1 1 rfl) (by decide) ?_
  refine ex_iload_n ok_X12_begin (mi 43 rfl) rfl ?_
  refine ex_baldx ok_X12_begin (mi 44 rfl) (fk f.1 1 rfl) (fn f.1 1 rfl) (pk_in 2 27 (by decide)) (fg (j := 2) f.2.2.2 28 rfl (by decide) (by decide)) ?_
  refine ex_if_ne (tgt := 90) ok_X12_begin (mi 45 rfl) rfl (fun hn => absurd (by decide) hn) (fun _ => ?_)
  refine ex_iconst ok_X12_begin (mi 46 rfl) ?_
  refine ex_goto (tgt := 91) ok_X12_begin (mi 47 rfl) rfl ?_
  refine ex_callVr (As := [_, _, _]) (v := some (.int (nI 1))) (g1 := (ap x [(0, 0, 1200, 0, (nI 2))] h)) ok_X12_begin (mi 49 rfl) rfl (m_ref101 (ws := []) hst f.1) rfl (fk f.1 0 rfl) rfl rfl (by decide) (by decide) (Nat.le_of_ble_eq_true rfl) (by decide) ?_
  refine ex_if_eq (tgt := 99) ok_X12_begin (mi 50 rfl) rfl (fun hn => absurd hn (by decide)) (fun _ => ?_)
  refine ex_iconst ok_X12_begin (mi 51 rfl) ?_
  refine ex_iret ok_X12_begin (mi 52 rfl) rfl ?_
  exact ⟨_, rfl, fun e => absurd e (by decide), apI (a := 0) rfl, kq apq (fk f.1 0 rfl), kp_ap rfl⟩
theorem d_begin_2_g1 {G : GE} (hst : (ge_l G).stackTraces = false) {x : Nat} {p1 p2 : Int32} (c1 : vp_in p1 300) (cr : p1 - p1 / 3 * 3 = nI 2) (c2 : ¬ (nI 1 ≤ p2 ∧ p2 ≤ nI 4095)) : MM G 3 0 0 my_X12_begin x [.int (nI 2), .int p1, .int p2] 2 (nI 0) := by
  intro h f
  refine ex_M_of ok_X12_begin cw_X12_begin rfl hst (Nat.le_of_ble_eq_true rfl) ?_
  refine ex_iload_n ok_X12_begin (mi 0 rfl) rfl ?_
  refine ex_iconst ok_X12_begin (mi 1 rfl) ?_
  refine ex_iconst ok_X12_begin (mi 2 rfl) ?_
  refine ex_callSr (As := [_, _, _]) ok_X12_begin (mi 3 rfl) rfl (m_in1 hst (by decide) (by decide)) rfl rfl rfl (by decide) (Nat.le_of_ble_eq_true rfl) (by decide) ?_
  refine ex_istore ok_X12_begin (mi 4 rfl) ?_
  refine ex_iload ok_X12_begin (mi 5 rfl) rfl ?_
  refine ex_if_eq (tgt := 64) ok_X12_begin (mi 6 rfl) rfl (fun hn => absurd hn (by decide)) (fun _ => ?_)
  refine ex_iload_n ok_X12_begin (mi 7 rfl) rfl ?_
  refine ex_iconst ok_X12_begin (mi 8 rfl) ?_
  refine ex_sipush ok_X12_begin (mi 9 rfl) ?_
  refine ex_callSr (As := [_, _, _]) ok_X12_begin (mi 10 rfl) rfl (m_in1 hst (vlo c1 (by decide)) (vhi c1 (by decide))) rfl rfl rfl (by decide) (Nat.le_of_ble_eq_true rfl) (by decide) ?_
  refine ex_if_eq (tgt := 64) ok_X12_begin (mi 11 rfl) rfl (fun hn => absurd hn (by decide)) (fun _ => ?_)
  refine ex_iload_n ok_X12_begin (mi 12 rfl) rfl ?_
  refine ex_iconst ok_X12_begin (mi 13 rfl) ?_
  refine ex_irem ok_X12_begin (mi 14 rfl) (by decide) ?_
  refine ex_iload_n ok_X12_begin (mi 15 rfl) rfl ?_
  refine ex_icmp_ne (tgt := 64) ok_X12_begin (mi 16 rfl) rfl (fun h28 => False.elim (h28 cr)) (fun h28 => ?_)
  refine ex_iload_n ok_X12_begin (mi 17 rfl) rfl ?_
  refine ex_aload_n ok_X12_begin (mi 18 rfl) rfl ?_
  refine ex_getRx ok_X12_begin (mi 19 rfl) rfl rfl (fk f.1 0 rfl) (fr f.1 2 rfl) (fk f.1 3 rfl) (by decide) ?_
  refine ex_iload_n ok_X12_begin (mi 20 rfl) rfl ?_
  refine ex_ialdx ok_X12_begin (mi 21 rfl) (Or.inl (fk f.1 3 rfl)) (fn f.1 3 rfl) (pk_in 2 3 (by decide)) (fe f.2.2.1 118 rfl) ?_
  refine ex_icmp_le (tgt := 64) ok_X12_begin (mi 22 rfl) rfl (fun h38 => False.elim (absurd (Int32.le_trans (vlo c1 (by decide)) h38) (by decide))) (fun h38 => ?_)
  refine ex_iload_n ok_X12_begin (mi 23 rfl) rfl ?_
  refine ex_iconst ok_X12_begin (mi 24 rfl) ?_
  refine ex_sipush ok_X12_begin (mi 25 rfl) ?_
  refine ex_callSr (As := [_, _, _]) ok_X12_begin (mi 26 rfl) rfl (m_in0 hst c2) rfl rfl rfl (by decide) (Nat.le_of_ble_eq_true rfl) (by decide) ?_
  refine ex_if_eq (tgt := 64) ok_X12_begin (mi 27 rfl) rfl (fun _ => ?_) (fun hn => absurd (by decide) hn)
  refine ex_iconst ok_X12_begin (mi 34 rfl) ?_
  refine ex_istore ok_X12_begin (mi 35 rfl) ?_
  refine ex_aload_n ok_X12_begin (mi 36 rfl) rfl ?_
  refine ex_iload ok_X12_begin (mi 37 rfl) rfl ?_
  refine ex_iload ok_X12_begin (mi 38 rfl) rfl ?_
  refine ex_iload ok_X12_begin (mi 39 rfl) rfl ?_
  refine ex_if_eq (tgt := 90) ok_X12_begin (mi 40 rfl) rfl (fun hn => absurd hn (by decide)) (fun _ => ?_)
  refine ex_aload_n ok_X12_begin (mi 41 rfl) rfl ?_
  refine ex_getRx ok_X12_begin (mi 42 rfl) rfl rfl (fk f.1 0 rfl) (fr f.1 0 rfl) (fk f.1 1 rfl) (by decide) ?_
  refine ex_iload_n ok_X12_begin (mi 43 rfl) rfl ?_
  refine ex_baldx ok_X12_begin (mi 44 rfl) (fk f.1 1 rfl) (fn f.1 1 rfl) (pk_in 2 27 (by decide)) (fg (j := 2) f.2.2.2 28 rfl (by decide) (by decide)) ?_
  refine ex_if_ne (tgt := 90) ok_X12_begin (mi 45 rfl) rfl (fun hn => absurd (by decide) hn) (fun _ => ?_)
  refine ex_iconst ok_X12_begin (mi 46 rfl) ?_
  refine ex_goto (tgt := 91) ok_X12_begin (mi 47 rfl) rfl ?_
  refine ex_callVr (As := [_, _, _]) (v := some (.int (nI 1))) (g1 := (ap x [(0, 0, 1200, 0, (nI 2))] h)) ok_X12_begin (mi 49 rfl) rfl (m_ref101 (ws := []) hst f.1) rfl (fk f.1 0 rfl) rfl rfl (by decide) (by decide) (Nat.le_of_ble_eq_true rfl) (by decide) ?_
  refine ex_if_eq (tgt := 99) ok_X12_begin (mi 50 rfl) rfl (fun hn => absurd hn (by decide)) (fun _ => ?_)
  refine ex_iconst ok_X12_begin (mi 51 rfl) ?_
  refine ex_iret ok_X12_begin (mi 52 rfl) rfl ?_
  exact ⟨_, rfl, fun e => absurd e (by decide), apI (a := 0) rfl, kq apq (fk f.1 0 rfl), kp_ap rfl⟩
theorem d_begin_2_g2 {G : GE} (hst : (ge_l G).stackTraces = false) {x : Nat} {p1 p2 : Int32} (c1 : vp_in p1 300) (cr : p1 - p1 / 3 * 3 = nI 2) (c2 : nI 1 ≤ p2 ∧ p2 ≤ nI 4095) (cb : ¬ bcE p2 ≤ nI 5) : MM G 3 0 0 my_X12_begin x [.int (nI 2), .int p1, .int p2] 2 (nI 0) := by
  intro h f
  refine ex_M_of ok_X12_begin cw_X12_begin rfl hst (Nat.le_of_ble_eq_true rfl) ?_
  refine ex_iload_n ok_X12_begin (mi 0 rfl) rfl ?_
  refine ex_iconst ok_X12_begin (mi 1 rfl) ?_
  refine ex_iconst ok_X12_begin (mi 2 rfl) ?_
  refine ex_callSr (As := [_, _, _]) ok_X12_begin (mi 3 rfl) rfl (m_in1 hst (by decide) (by decide)) rfl rfl rfl (by decide) (Nat.le_of_ble_eq_true rfl) (by decide) ?_
  refine ex_istore ok_X12_begin (mi 4 rfl) ?_
  refine ex_iload ok_X12_begin (mi 5 rfl) rfl ?_
  refine ex_if_eq (tgt := 64) ok_X12_begin (mi 6 rfl) rfl (fun hn => absurd hn (by decide)) (fun _ => ?_)
  refine ex_iload_n ok_X12_begin (mi 7 rfl) rfl ?_
  refine ex_iconst ok_X12_begin (mi 8 rfl) ?_
  refine ex_sipush ok_X12_begin (mi 9 rfl) ?_
  refine ex_callSr (As := [_, _, _]) ok_X12_begin (mi 10 rfl) rfl (m_in1 hst (vlo c1 (by decide)) (vhi c1 (by decide))) rfl rfl rfl (by decide) (Nat.le_of_ble_eq_true rfl) (by decide) ?_
  refine ex_if_eq (tgt := 64) ok_X12_begin (mi 11 rfl) rfl (fun hn => absurd hn (by decide)) (fun _ => ?_)
  refine ex_iload_n ok_X12_begin (mi 12 rfl) rfl ?_
  refine ex_iconst ok_X12_begin (mi 13 rfl) ?_
  refine ex_irem ok_X12_begin (mi 14 rfl) (by decide) ?_
  refine ex_iload_n ok_X12_begin (mi 15 rfl) rfl ?_
  refine ex_icmp_ne (tgt := 64) ok_X12_begin (mi 16 rfl) rfl (fun h28 => False.elim (h28 cr)) (fun h28 => ?_)
  refine ex_iload_n ok_X12_begin (mi 17 rfl) rfl ?_
  refine ex_aload_n ok_X12_begin (mi 18 rfl) rfl ?_
  refine ex_getRx ok_X12_begin (mi 19 rfl) rfl rfl (fk f.1 0 rfl) (fr f.1 2 rfl) (fk f.1 3 rfl) (by decide) ?_
  refine ex_iload_n ok_X12_begin (mi 20 rfl) rfl ?_
  refine ex_ialdx ok_X12_begin (mi 21 rfl) (Or.inl (fk f.1 3 rfl)) (fn f.1 3 rfl) (pk_in 2 3 (by decide)) (fe f.2.2.1 118 rfl) ?_
  refine ex_icmp_le (tgt := 64) ok_X12_begin (mi 22 rfl) rfl (fun h38 => False.elim (absurd (Int32.le_trans (vlo c1 (by decide)) h38) (by decide))) (fun h38 => ?_)
  refine ex_iload_n ok_X12_begin (mi 23 rfl) rfl ?_
  refine ex_iconst ok_X12_begin (mi 24 rfl) ?_
  refine ex_sipush ok_X12_begin (mi 25 rfl) ?_
  refine ex_callSr (As := [_, _, _]) ok_X12_begin (mi 26 rfl) rfl (m_in1 hst c2.1 c2.2) rfl rfl rfl (by decide) (Nat.le_of_ble_eq_true rfl) (by decide) ?_
  refine ex_if_eq (tgt := 64) ok_X12_begin (mi 27 rfl) rfl (fun hn => absurd hn (by decide)) (fun _ => ?_)
  refine ex_iload_n ok_X12_begin (mi 28 rfl) rfl ?_
  refine ex_callSr (As := [_]) ok_X12_begin (mi 29 rfl) rfl (m_bits hst c2.1 c2.2) rfl rfl rfl (by decide) (Nat.le_of_ble_eq_true rfl) (by decide) ?_
  refine ex_iconst ok_X12_begin (mi 30 rfl) ?_
  refine ex_icmp_gt (tgt := 64) ok_X12_begin (mi 31 rfl) rfl (fun h57 => ?_) (fun h57 => False.elim (cb (by rw [← Int32.not_lt]; exact h57)))
  refine ex_iconst ok_X12_begin (mi 34 rfl) ?_
  refine ex_istore ok_X12_begin (mi 35 rfl) ?_
  refine ex_aload_n ok_X12_begin (mi 36 rfl) rfl ?_
  refine ex_iload ok_X12_begin (mi 37 rfl) rfl ?_
  refine ex_iload ok_X12_begin (mi 38 rfl) rfl ?_
  refine ex_iload ok_X12_begin (mi 39 rfl) rfl ?_
  refine ex_if_eq (tgt := 90) ok_X12_begin (mi 40 rfl) rfl (fun hn => absurd hn (by decide)) (fun _ => ?_)
  refine ex_aload_n ok_X12_begin (mi 41 rfl) rfl ?_
  refine ex_getRx ok_X12_begin (mi 42 rfl) rfl rfl (fk f.1 0 rfl) (fr f.1 0 rfl) (fk f.1 1 rfl) (by decide) ?_
  refine ex_iload_n ok_X12_begin (mi 43 rfl) rfl ?_
  refine ex_baldx ok_X12_begin (mi 44 rfl) (fk f.1 1 rfl) (fn f.1 1 rfl) (pk_in 2 27 (by decide)) (fg (j := 2) f.2.2.2 28 rfl (by decide) (by decide)) ?_
  refine ex_if_ne (tgt := 90) ok_X12_begin (mi 45 rfl) rfl (fun hn => absurd (by decide) hn) (fun _ => ?_)
  refine ex_iconst ok_X12_begin (mi 46 rfl) ?_
  refine ex_goto (tgt := 91) ok_X12_begin (mi 47 rfl) rfl ?_
  refine ex_callVr (As := [_, _, _]) (v := some (.int (nI 1))) (g1 := (ap x [(0, 0, 1200, 0, (nI 2))] h)) ok_X12_begin (mi 49 rfl) rfl (m_ref101 (ws := []) hst f.1) rfl (fk f.1 0 rfl) rfl rfl (by decide) (by decide) (Nat.le_of_ble_eq_true rfl) (by decide) ?_
  refine ex_if_eq (tgt := 99) ok_X12_begin (mi 50 rfl) rfl (fun hn => absurd hn (by decide)) (fun _ => ?_)
  refine ex_iconst ok_X12_begin (mi 51 rfl) ?_
  refine ex_iret ok_X12_begin (mi 52 rfl) rfl ?_
  exact ⟨_, rfl, fun e => absurd e (by decide), apI (a := 0) rfl, kq apq (fk f.1 0 rfl), kp_ap rfl⟩
theorem d_begin_2_k {G : GE} (hst : (ge_l G).stackTraces = false) {x : Nat} {p1 p2 : Int32} (c1 : vp_in p1 300) (cr : p1 - p1 / 3 * 3 = nI 2) (c2 : nI 1 ≤ p2 ∧ p2 ≤ nI 4095) (cb : bcE p2 ≤ nI 5) : MM G 3 0 0 my_X12_begin x [.int (nI 2), .int p1, .int p2] 0 (nI 3) := by
  intro h f
  refine ex_M_of ok_X12_begin cw_X12_begin rfl hst (Nat.le_of_ble_eq_true rfl) ?_
  refine ex_iload_n ok_X12_begin (mi 0 rfl) rfl ?_
  refine ex_iconst ok_X12_begin (mi 1 rfl) ?_
  refine ex_iconst ok_X12_begin (mi 2 rfl) ?_
  refine ex_callSr (As := [_, _, _]) ok_X12_begin (mi 3 rfl) rfl (m_in1 hst (by decide) (by decide)) rfl rfl rfl (by decide) (Nat.le_of_ble_eq_true rfl) (by decide) ?_
  refine ex_istore ok_X12_begin (mi 4 rfl) ?_
  refine ex_iload ok_X12_begin (mi 5 rfl) rfl ?_
  refine ex_if_eq (tgt := 64) ok_X12_begin (mi 6 rfl) rfl (fun hn => absurd hn (by decide)) (fun _ => ?_)
  refine ex_iload_n ok_X12_begin (mi 7 rfl) rfl ?_
  refine ex_iconst ok_X12_begin (mi 8 rfl) ?_
  refine ex_sipush ok_X12_begin (mi 9 rfl) ?_
  refine ex_callSr (As := [_, _, _]) ok_X12_begin (mi 10 rfl) rfl (m_in1 hst (vlo c1 (by decide)) (vhi c1 (by decide))) rfl rfl rfl (by decide) (Nat.le_of_ble_eq_true rfl) (by decide) ?_
  refine ex_if_eq (tgt := 64) ok_X12_begin (mi 11 rfl) rfl (fun hn => absurd hn (by decide)) (fun _ => ?_)
  refine ex_iload_n ok_X12_begin (mi 12 rfl) rfl ?_
  refine ex_iconst ok_X12_begin (mi 13 rfl) ?_
  refine ex_irem ok_X12_begin (mi 14 rfl) (by decide) ?_
  refine ex_iload_n ok_X12_begin (mi 15 rfl) rfl ?_
  refine ex_icmp_ne (tgt := 64) ok_X12_begin (mi 16 rfl) rfl (fun h28 => False.elim (h28 cr)) (fun h28 => ?_)
  refine ex_iload_n ok_X12_begin (mi 17 rfl) rfl ?_
  refine ex_aload_n ok_X12_begin (mi 18 rfl) rfl ?_
  refine ex_getRx ok_X12_begin (mi 19 rfl) rfl rfl (fk f.1 0 rfl) (fr f.1 2 rfl) (fk f.1 3 rfl) (by decide) ?_
  refine ex_iload_n ok_X12_begin (mi 20 rfl) rfl ?_
  refine ex_ialdx ok_X12_begin (mi 21 rfl) (Or.inl (fk f.1 3 rfl)) (fn f.1 3 rfl) (pk_in 2 3 (by decide)) (fe f.2.2.1 118 rfl) ?_
  refine ex_icmp_le (tgt := 64) ok_X12_begin (mi 22 rfl) rfl (fun h38 => False.elim (absurd (Int32.le_trans (vlo c1 (by decide)) h38) (by decide))) (fun h38 => ?_)
  refine ex_iload_n ok_X12_begin (mi 23 rfl) rfl ?_
  refine ex_iconst ok_X12_begin (mi 24 rfl) ?_
  refine ex_sipush ok_X12_begin (mi 25 rfl) ?_
  refine ex_callSr (As := [_, _, _]) ok_X12_begin (mi 26 rfl) rfl (m_in1 hst c2.1 c2.2) rfl rfl rfl (by decide) (Nat.le_of_ble_eq_true rfl) (by decide) ?_
  refine ex_if_eq (tgt := 64) ok_X12_begin (mi 27 rfl) rfl (fun hn => absurd hn (by decide)) (fun _ => ?_)
  refine ex_iload_n ok_X12_begin (mi 28 rfl) rfl ?_
  refine ex_callSr (As := [_]) ok_X12_begin (mi 29 rfl) rfl (m_bits hst c2.1 c2.2) rfl rfl rfl (by decide) (Nat.le_of_ble_eq_true rfl) (by decide) ?_
  refine ex_iconst ok_X12_begin (mi 30 rfl) ?_
  refine ex_icmp_gt (tgt := 64) ok_X12_begin (mi 31 rfl) rfl (fun h57 => False.elim (absurd cb (by rw [Int32.not_le]; exact h57))) (fun h57 => ?_)
  refine ex_iconst ok_X12_begin (mi 32 rfl) ?_
  refine ex_goto (tgt := 65) ok_X12_begin (mi 33 rfl) rfl ?_
  refine ex_istore ok_X12_begin (mi 35 rfl) ?_
  refine ex_aload_n ok_X12_begin (mi 36 rfl) rfl ?_
  refine ex_iload ok_X12_begin (mi 37 rfl) rfl ?_
  refine ex_iload ok_X12_begin (mi 38 rfl) rfl ?_
  refine ex_iload ok_X12_begin (mi 39 rfl) rfl ?_
  refine ex_if_eq (tgt := 90) ok_X12_begin (mi 40 rfl) rfl (fun hn => absurd hn (by decide)) (fun _ => ?_)
  refine ex_aload_n ok_X12_begin (mi 41 rfl) rfl ?_
  refine ex_getRx ok_X12_begin (mi 42 rfl) rfl rfl (fk f.1 0 rfl) (fr f.1 0 rfl) (fk f.1 1 rfl) (by decide) ?_
  refine ex_iload_n ok_X12_begin (mi 43 rfl) rfl ?_
  refine ex_baldx ok_X12_begin (mi 44 rfl) (fk f.1 1 rfl) (fn f.1 1 rfl) (pk_in 2 27 (by decide)) (fg (j := 2) f.2.2.2 28 rfl (by decide) (by decide)) ?_
  refine ex_if_ne (tgt := 90) ok_X12_begin (mi 45 rfl) rfl (fun hn => absurd (by decide) hn) (fun _ => ?_)
  refine ex_iconst ok_X12_begin (mi 46 rfl) ?_
  refine ex_goto (tgt := 91) ok_X12_begin (mi 47 rfl) rfl ?_
  refine ex_callVr (As := [_, _, _]) (v := some (.int (nI 0))) (g1 := (ap x [(0, 0, 1200, 0, (nI 0))] h)) ok_X12_begin (mi 49 rfl) rfl (m_ref111 (ws := []) hst f.1) rfl (fk f.1 0 rfl) rfl rfl (by decide) (by decide) (Nat.le_of_ble_eq_true rfl) (by decide) ?_
  refine ex_if_eq (tgt := 99) ok_X12_begin (mi 50 rfl) rfl (fun _ => ?_) (fun hn => absurd (by decide) hn)
  refine ex_aload_n ok_X12_begin (mi 53 rfl) rfl ?_
  refine ex_iload_n ok_X12_begin (mi 54 rfl) rfl ?_
  refine ex_callVr (As := [_]) (v := none) (g1 := (ap x [(1, 25, 2, 0, (nI 0)), (1, 24, 2, 0, (nI 0)), (1, 23, 2, 0, (nI 0)), (1, 22, 2, 0, (nI 0)), (1, 21, 2, 0, (nI 0)), (1, 20, 2, 0, (nI 0)), (2, 12, 32, 48, ((-1))), (2, 16, 32, 48, (nI 0)), (2, 17, 32, 48, ((-1))), (2, 18, 32, 48, (nI 0)), (2, 19, 32, 48, (nI 0)), (1, 15, 2, 0, (nI 0)), (1, 14, 2, 0, (nI 0)), (1, 11, 2, 0, (nI 0)), (1, 10, 2, 0, (nI 0)), (2, 9, 600, 900, (nI 0)), (1, 8, 2, 0, (nI 0)), (1, 7, 2, 0, (nI 0)), (0, 0, 1200, 0, (nI 0))] h)) ok_X12_begin (mi 55 rfl) rfl (m_X12_forgetRounds2 hst f.1) rfl (kq apq (fk f.1 0 rfl)) rfl rfl (by decide) (by decide) (Nat.le_of_ble_eq_true rfl) (by decide) ?_
  refine ex_aload_n ok_X12_begin (mi 56 rfl) rfl ?_
  refine ex_getRx ok_X12_begin (mi 57 rfl) rfl rfl (kq apq (fk f.1 0 rfl)) (rq apq (fr f.1 1 rfl)) (kq apq (fk f.1 2 rfl)) (by decide) ?_
  refine ex_iload_n ok_X12_begin (mi 58 rfl) rfl ?_
  refine ex_iconst ok_X12_begin (mi 59 rfl) ?_
  refine ex_iasta (a := 2) (j := 2) (v := (nI 1)) ok_X12_begin (mi 60 rfl) (fk f.1 2 rfl) (fn f.1 2 rfl) (pk_in 2 3 (by decide)) (by decide) (by decide) ?_
  refine ex_aload_n ok_X12_begin (mi 61 rfl) rfl ?_
  refine ex_getRx ok_X12_begin (mi 62 rfl) rfl rfl (kq apq (fk f.1 0 rfl)) (rq apq (fr f.1 2 rfl)) (kq apq (fk f.1 3 rfl)) (by decide) ?_
  refine ex_iload_n ok_X12_begin (mi 63 rfl) rfl ?_
  refine ex_iload_n ok_X12_begin (mi 64 rfl) rfl ?_
  refine ex_iasta (a := 3) (j := 2) (v := p1) ok_X12_begin (mi 65 rfl) (fk f.1 3 rfl) (fn f.1 3 rfl) (pk_in 2 3 (by decide)) (by decide) rfl ?_
  refine ex_aload_n ok_X12_begin (mi 66 rfl) rfl ?_
  refine ex_getRx ok_X12_begin (mi 67 rfl) rfl rfl (kq apq (fk f.1 0 rfl)) (rq apq (fr f.1 3 rfl)) (kq apq (fk f.1 4 rfl)) (by decide) ?_
  refine ex_iload_n ok_X12_begin (mi 68 rfl) rfl ?_
  refine ex_iload_n ok_X12_begin (mi 69 rfl) rfl ?_
  refine ex_iasta (a := 4) (j := 2) (v := p2) ok_X12_begin (mi 70 rfl) (fk f.1 4 rfl) (fn f.1 4 rfl) (pk_in 2 3 (by decide)) (by decide) rfl ?_
  refine ex_aload_n ok_X12_begin (mi 71 rfl) rfl ?_
  refine ex_getRx ok_X12_begin (mi 72 rfl) rfl rfl (kq apq (fk f.1 0 rfl)) (rq apq (fr f.1 56 rfl)) (kq apq (fk f.1 57 rfl)) (by decide) ?_
  refine ex_iload_n ok_X12_begin (mi 73 rfl) rfl ?_
  refine ex_iload_n ok_X12_begin (mi 74 rfl) rfl ?_
  refine ex_iasta (a := 57) (j := p1.toNatClampNeg) (v := p2) ok_X12_begin (mi 75 rfl) (fk f.1 57 rfl) (fn f.1 57 rfl) c1 rfl rfl ?_
  refine ex_aload_n ok_X12_begin (mi 76 rfl) rfl ?_
  refine ex_dup ok_X12_begin (mi 77 rfl) rfl ?_
  refine ex_getIx ok_X12_begin (mi 78 rfl) rfl rfl (kq apq (fk f.1 0 rfl)) (apI0 (a := 0) rfl (fi f.2.1 0 rfl)) ?_
  refine ex_iconst ok_X12_begin (mi 79 rfl) ?_
  refine ex_iadd ok_X12_begin (mi 80 rfl) ?_
  refine ex_top (w := (nI 1)) (by decide) ?_
  refine ex_putIa (a := 0) (v := (nI 1)) ok_X12_begin (mi 81 rfl) rfl rfl (fk f.1 0 rfl) (by decide) ?_
  refine ex_aload_n ok_X12_begin (mi 82 rfl) rfl ?_
  refine ex_iconst ok_X12_begin (mi 83 rfl) ?_
  refine ex_iload_n ok_X12_begin (mi 84 rfl) rfl ?_
  refine ex_aload_n ok_X12_begin (mi 85 rfl) rfl ?_
  refine ex_getRx ok_X12_begin (mi 86 rfl) rfl rfl (kq apq (fk f.1 0 rfl)) (rq apq (fr f.1 5 rfl)) (kq apq (fk f.1 6 rfl)) (by decide) ?_
  refine ex_iload_n ok_X12_begin (mi 87 rfl) rfl ?_
  refine ex_ialdx ok_X12_begin (mi 88 rfl) (Or.inl (kq apq (fk f.1 6 rfl))) (nq apq (fn f.1 6 rfl)) (pk_in 2 3 (by decide)) (apA0 (j := 2) rfl (fe f.2.2.1 115 rfl)) ?_
  refine ex_aload_n ok_X12_begin (mi 89 rfl) rfl ?_
  refine ex_getRx ok_X12_begin (mi 90 rfl) rfl rfl (kq apq (fk f.1 0 rfl)) (rq apq (fr f.1 4 rfl)) (kq apq (fk f.1 5 rfl)) (by decide) ?_
  refine ex_iload_n ok_X12_begin (mi 91 rfl) rfl ?_
  refine ex_ialdx ok_X12_begin (mi 92 rfl) (Or.inl (kq apq (fk f.1 5 rfl))) (nq apq (fn f.1 5 rfl)) (pk_in 2 3 (by decide)) (apA0 (j := 2) rfl (fe f.2.2.1 116 rfl)) ?_
  refine ex_iload_n ok_X12_begin (mi 93 rfl) rfl ?_
  refine ex_iload_n ok_X12_begin (mi 94 rfl) rfl ?_
  refine ex_callVr (As := [_, _, _, _, _, _]) (v := some (.int (nI 3))) (g1 := (ap x [(0, 0, 1258, 0, (nI 2)), (1, 55, 5, 0, (nI 0)), (1, 55, 4, 0, (nI 0)), (1, 54, 2, 0, (nI 0)), (1, 53, 8, 0, p2), (1, 53, 7, 0, p1), (1, 53, 6, 0, (nI 0)), (1, 52, 2, 0, (nI 2)), (1, 51, 2, 0, (nI 2)), (1, 50, 2, 0, (nI 1)), (0, 0, 1248, 0, (nI 3)), (1, 48, 2, 0, (nI 2)), (1, 49, 2, 0, (nI 1)), (0, 0, 1258, 0, (-1)), (0, 0, 1258, 0, (nI 1)), (1, 55, 3, 0, (nI 0)), (1, 55, 2, 0, (nI 0)), (1, 54, 1, 0, (nI 0)), (1, 53, 5, 0, p2), (1, 53, 4, 0, p1), (1, 53, 3, 0, (nI 0)), (1, 52, 1, 0, (nI 1)), (1, 51, 1, 0, (nI 2)), (1, 50, 1, 0, (nI 1)), (0, 0, 1248, 0, (nI 2)), (1, 48, 1, 0, (nI 1)), (1, 49, 1, 0, (nI 1)), (0, 0, 1258, 0, (-1)), (0, 0, 1258, 0, (nI 0)), (1, 55, 1, 0, (nI 0)), (1, 55, 0, 0, (nI 0)), (1, 54, 0, 0, (nI 0)), (1, 53, 2, 0, p2), (1, 53, 1, 0, p1), (1, 53, 0, 0, (nI 0)), (1, 52, 0, 0, (nI 0)), (1, 51, 0, 0, (nI 2)), (1, 50, 0, 0, (nI 1)), (0, 0, 1248, 0, (nI 1)), (1, 48, 0, 0, (nI 0)), (1, 49, 0, 0, (nI 1)), (0, 0, 1258, 0, (-1)), (0, 0, 1266, 0, (nI 1)), (1, 57, p1.toNatClampNeg, 0, p2), (1, 4, 2, 0, p2), (1, 3, 2, 0, p1), (1, 2, 2, 0, (nI 1)), (1, 25, 2, 0, (nI 0)), (1, 24, 2, 0, (nI 0)), (1, 23, 2, 0, (nI 0)), (1, 22, 2, 0, (nI 0)), (1, 21, 2, 0, (nI 0)), (1, 20, 2, 0, (nI 0)), (2, 12, 32, 48, ((-1))), (2, 16, 32, 48, (nI 0)), (2, 17, 32, 48, ((-1))), (2, 18, 32, 48, (nI 0)), (2, 19, 32, 48, (nI 0)), (1, 15, 2, 0, (nI 0)), (1, 14, 2, 0, (nI 0)), (1, 11, 2, 0, (nI 0)), (1, 10, 2, 0, (nI 0)), (2, 9, 600, 900, (nI 0)), (1, 8, 2, 0, (nI 0)), (1, 7, 2, 0, (nI 0)), (0, 0, 1200, 0, (nI 0))] h)) ok_X12_begin (mi 95 rfl) rfl ?c rfl (kq apq (fk f.1 0 rfl)) rfl rfl (by decide) (by decide) (Nat.le_of_ble_eq_true rfl) (by decide) ?_
  case c =>
    refine ex_M_of ok_X12_layAll cw_X12_layAll rfl hst (Nat.le_of_ble_eq_true rfl) ?_
    refine ex_iconst ok_X12_layAll (mi 0 rfl) ?_
    refine ex_istore ok_X12_layAll (mi 1 rfl) ?_
    refine ex_iconst ok_X12_layAll (mi 2 rfl) ?_
    refine ex_istore ok_X12_layAll (mi 3 rfl) ?_
    refine ex_iload ok_X12_layAll (mi 4 rfl) rfl ?_
    refine ex_bipush ok_X12_layAll (mi 5 rfl) ?_
    refine ex_icmp_ge (tgt := 47) ok_X12_layAll (mi 6 rfl) rfl (fun hn => absurd hn (by decide)) (fun _ => ?_)
    refine ex_iload_n ok_X12_layAll (mi 7 rfl) rfl ?_
    refine ex_iload ok_X12_layAll (mi 8 rfl) rfl ?_
    refine ex_callSr (As := [_, _]) (v := some (.int (nI 1))) (g1 := (ap x [(0, 0, 1266, 0, (nI 1)), (1, 57, p1.toNatClampNeg, 0, p2), (1, 4, 2, 0, p2), (1, 3, 2, 0, p1), (1, 2, 2, 0, (nI 1)), (1, 25, 2, 0, (nI 0)), (1, 24, 2, 0, (nI 0)), (1, 23, 2, 0, (nI 0)), (1, 22, 2, 0, (nI 0)), (1, 21, 2, 0, (nI 0)), (1, 20, 2, 0, (nI 0)), (2, 12, 32, 48, ((-1))), (2, 16, 32, 48, (nI 0)), (2, 17, 32, 48, ((-1))), (2, 18, 32, 48, (nI 0)), (2, 19, 32, 48, (nI 0)), (1, 15, 2, 0, (nI 0)), (1, 14, 2, 0, (nI 0)), (1, 11, 2, 0, (nI 0)), (1, 10, 2, 0, (nI 0)), (2, 9, 600, 900, (nI 0)), (1, 8, 2, 0, (nI 0)), (1, 7, 2, 0, (nI 0)), (0, 0, 1200, 0, (nI 0))] h)) ok_X12_layAll (mi 9 rfl) rfl ?c rfl rfl rfl (by decide) (Nat.le_of_ble_eq_true rfl) (by decide) ?_
    case c =>
      refine ex_M_of ok_X12_has cw_X12_has rfl hst (Nat.le_of_ble_eq_true rfl) ?_
      refine ex_iload_n ok_X12_has (mi 0 rfl) rfl ?_
      refine ex_iload_n ok_X12_has (mi 1 rfl) rfl ?_
      refine ex_ishr ok_X12_has (mi 2 rfl) ?_
      refine ex_top (w := (nI 7)) (by decide) ?_
      refine ex_iconst ok_X12_has (mi 3 rfl) ?_
      refine ex_iand ok_X12_has (mi 4 rfl) ?_
      refine ex_top (w := (nI 1)) (by decide) ?_
      refine ex_iconst ok_X12_has (mi 5 rfl) ?_
      refine ex_icmp_ne (tgt := 13) ok_X12_has (mi 6 rfl) rfl (fun hn => absurd (by decide) hn) (fun _ => ?_)
      refine ex_iconst ok_X12_has (mi 7 rfl) ?_
      refine ex_goto (tgt := 14) ok_X12_has (mi 8 rfl) rfl ?_
      refine ex_zret ok_X12_has (mi 10 rfl) rfl (by decide) ?_
      exact ⟨inlI (by decide), rfl⟩
    refine ex_if_eq (tgt := 41) ok_X12_layAll (mi 10 rfl) rfl (fun hn => absurd hn (by decide)) (fun _ => ?_)
    refine ex_aload_n ok_X12_layAll (mi 11 rfl) rfl ?_
    refine ex_iload_n ok_X12_layAll (mi 12 rfl) rfl ?_
    refine ex_iload_n ok_X12_layAll (mi 13 rfl) rfl ?_
    refine ex_iload ok_X12_layAll (mi 14 rfl) rfl ?_
    refine ex_iload ok_X12_layAll (mi 15 rfl) rfl ?_
    refine ex_iload ok_X12_layAll (mi 16 rfl) rfl ?_
    refine ex_iload ok_X12_layAll (mi 17 rfl) rfl ?_
    refine ex_callVr (As := [_, _, _, _, _, _]) (v := some (.int (nI 1))) (g1 := (ap x [(0, 0, 1258, 0, (nI 0)), (1, 55, 1, 0, (nI 0)), (1, 55, 0, 0, (nI 0)), (1, 54, 0, 0, (nI 0)), (1, 53, 2, 0, p2), (1, 53, 1, 0, p1), (1, 53, 0, 0, (nI 0)), (1, 52, 0, 0, (nI 0)), (1, 51, 0, 0, (nI 2)), (1, 50, 0, 0, (nI 1)), (0, 0, 1248, 0, (nI 1)), (1, 48, 0, 0, (nI 0)), (1, 49, 0, 0, (nI 1)), (0, 0, 1258, 0, (-1)), (0, 0, 1266, 0, (nI 1)), (1, 57, p1.toNatClampNeg, 0, p2), (1, 4, 2, 0, p2), (1, 3, 2, 0, p1), (1, 2, 2, 0, (nI 1)), (1, 25, 2, 0, (nI 0)), (1, 24, 2, 0, (nI 0)), (1, 23, 2, 0, (nI 0)), (1, 22, 2, 0, (nI 0)), (1, 21, 2, 0, (nI 0)), (1, 20, 2, 0, (nI 0)), (2, 12, 32, 48, ((-1))), (2, 16, 32, 48, (nI 0)), (2, 17, 32, 48, ((-1))), (2, 18, 32, 48, (nI 0)), (2, 19, 32, 48, (nI 0)), (1, 15, 2, 0, (nI 0)), (1, 14, 2, 0, (nI 0)), (1, 11, 2, 0, (nI 0)), (1, 10, 2, 0, (nI 0)), (2, 9, 600, 900, (nI 0)), (1, 8, 2, 0, (nI 0)), (1, 7, 2, 0, (nI 0)), (0, 0, 1200, 0, (nI 0))] h)) ok_X12_layAll (mi 18 rfl) rfl ?c rfl (kq apq (fk f.1 0 rfl)) rfl rfl (by decide) (by decide) (Nat.le_of_ble_eq_true rfl) (by decide) ?_
    case c =>
      refine ex_M_of ok_X12_lay cw_X12_lay rfl hst (Nat.le_of_ble_eq_true rfl) ?_
      refine ex_aload_n ok_X12_lay (mi 0 rfl) rfl ?_
      refine ex_iconst ok_X12_lay (mi 1 rfl) ?_
      refine ex_putIa (a := 0) (v := (-1)) ok_X12_lay (mi 2 rfl) rfl rfl (fk f.1 0 rfl) (by decide) ?_
      refine ex_aload_n ok_X12_lay (mi 3 rfl) rfl ?_
      refine ex_getIx ok_X12_lay (mi 4 rfl) rfl rfl (kq apq (fk f.1 0 rfl)) (apI0 (a := 0) rfl (fi f.2.1 5 rfl)) ?_
      refine ex_sipush ok_X12_lay (mi 5 rfl) ?_
      refine ex_icmp_ne (tgt := 27) ok_X12_lay (mi 6 rfl) rfl (fun _ => ?_) (fun hn => absurd hn (by decide))
      refine ex_iconst ok_X12_lay (mi 15 rfl) ?_
      refine ex_istore ok_X12_lay (mi 16 rfl) ?_
      refine ex_aload_n ok_X12_lay (mi 17 rfl) rfl ?_
      refine ex_getRx ok_X12_lay (mi 18 rfl) rfl rfl (kq apq (fk f.1 0 rfl)) (rq apq (fr f.1 48 rfl)) (kq apq (fk f.1 49 rfl)) (by decide) ?_
      refine ex_iload ok_X12_lay (mi 19 rfl) rfl ?_
      refine ex_baldx ok_X12_lay (mi 20 rfl) (kq apq (fk f.1 49 rfl)) (nq apq (fn f.1 49 rfl)) (pk_in 0 402 (by decide)) (apA0 (j := 0) rfl (fg (j := 0) f.2.2.2 3 rfl (by decide) (by decide))) ?_
      refine ex_if_eq (tgt := 46) ok_X12_lay (mi 21 rfl) rfl (fun _ => ?_) (fun hn => absurd (by decide) hn)
      refine ex_aload_n ok_X12_lay (mi 24 rfl) rfl ?_
      refine ex_getRx ok_X12_lay (mi 25 rfl) rfl rfl (kq apq (fk f.1 0 rfl)) (rq apq (fr f.1 48 rfl)) (kq apq (fk f.1 49 rfl)) (by decide) ?_
      refine ex_iload ok_X12_lay (mi 26 rfl) rfl ?_
      refine ex_iconst ok_X12_lay (mi 27 rfl) ?_
      refine ex_basta (a := 49) (j := 0) (v := (nI 1)) ok_X12_lay (mi 28 rfl) (fk f.1 49 rfl) (fn f.1 49 rfl) (pk_in 0 402 (by decide)) (by decide) (by decide) (by decide) ?_
      refine ex_aload_n ok_X12_lay (mi 29 rfl) rfl ?_
      refine ex_getRx ok_X12_lay (mi 30 rfl) rfl rfl (kq apq (fk f.1 0 rfl)) (rq apq (fr f.1 47 rfl)) (kq apq (fk f.1 48 rfl)) (by decide) ?_
      refine ex_aload_n ok_X12_lay (mi 31 rfl) rfl ?_
      refine ex_getIx ok_X12_lay (mi 32 rfl) rfl rfl (kq apq (fk f.1 0 rfl)) (apI0 (a := 0) rfl (fi f.2.1 5 rfl)) ?_
      refine ex_iload ok_X12_lay (mi 33 rfl) rfl ?_
      refine ex_iasta (a := 48) (j := 0) (v := (nI 0)) ok_X12_lay (mi 34 rfl) (fk f.1 48 rfl) (fn f.1 48 rfl) (pk_in 0 400 (by decide)) (by decide) (by decide) ?_
      refine ex_aload_n ok_X12_lay (mi 35 rfl) rfl ?_
      refine ex_dup ok_X12_lay (mi 36 rfl) rfl ?_
      refine ex_getIx ok_X12_lay (mi 37 rfl) rfl rfl (kq apq (fk f.1 0 rfl)) (apI0 (a := 0) rfl (fi f.2.1 5 rfl)) ?_
      refine ex_iconst ok_X12_lay (mi 38 rfl) ?_
      refine ex_iadd ok_X12_lay (mi 39 rfl) ?_
      refine ex_top (w := (nI 1)) (by decide) ?_
      refine ex_putIa (a := 0) (v := (nI 1)) ok_X12_lay (mi 40 rfl) rfl rfl (fk f.1 0 rfl) (by decide) ?_
      refine ex_aload_n ok_X12_lay (mi 41 rfl) rfl ?_
      refine ex_getRx ok_X12_lay (mi 42 rfl) rfl rfl (kq apq (fk f.1 0 rfl)) (rq apq (fr f.1 49 rfl)) (kq apq (fk f.1 50 rfl)) (by decide) ?_
      refine ex_iload ok_X12_lay (mi 43 rfl) rfl ?_
      refine ex_iload_n ok_X12_lay (mi 44 rfl) rfl ?_
      refine ex_iasta (a := 50) (j := 0) (v := (nI 1)) ok_X12_lay (mi 45 rfl) (fk f.1 50 rfl) (fn f.1 50 rfl) (pk_in 0 402 (by decide)) (by decide) (by decide) ?_
      refine ex_aload_n ok_X12_lay (mi 46 rfl) rfl ?_
      refine ex_getRx ok_X12_lay (mi 47 rfl) rfl rfl (kq apq (fk f.1 0 rfl)) (rq apq (fr f.1 50 rfl)) (kq apq (fk f.1 51 rfl)) (by decide) ?_
      refine ex_iload ok_X12_lay (mi 48 rfl) rfl ?_
      refine ex_iload_n ok_X12_lay (mi 49 rfl) rfl ?_
      refine ex_iasta (a := 51) (j := 0) (v := (nI 2)) ok_X12_lay (mi 50 rfl) (fk f.1 51 rfl) (fn f.1 51 rfl) (pk_in 0 402 (by decide)) (by decide) (by decide) ?_
      refine ex_aload_n ok_X12_lay (mi 51 rfl) rfl ?_
      refine ex_getRx ok_X12_lay (mi 52 rfl) rfl rfl (kq apq (fk f.1 0 rfl)) (rq apq (fr f.1 51 rfl)) (kq apq (fk f.1 52 rfl)) (by decide) ?_
      refine ex_iload ok_X12_lay (mi 53 rfl) rfl ?_
      refine ex_iload_n ok_X12_lay (mi 54 rfl) rfl ?_
      refine ex_iasta (a := 52) (j := 0) (v := (nI 0)) ok_X12_lay (mi 55 rfl) (fk f.1 52 rfl) (fn f.1 52 rfl) (pk_in 0 402 (by decide)) (by decide) (by decide) ?_
      refine ex_aload_n ok_X12_lay (mi 56 rfl) rfl ?_
      refine ex_getRx ok_X12_lay (mi 57 rfl) rfl rfl (kq apq (fk f.1 0 rfl)) (rq apq (fr f.1 52 rfl)) (kq apq (fk f.1 53 rfl)) (by decide) ?_
      refine ex_iconst ok_X12_lay (mi 58 rfl) ?_
      refine ex_iload ok_X12_lay (mi 59 rfl) rfl ?_
      refine ex_imul ok_X12_lay (mi 60 rfl) ?_
      refine ex_top (w := (nI 0)) (by decide) ?_
      refine ex_iload ok_X12_lay (mi 61 rfl) rfl ?_
      refine ex_iasta (a := 53) (j := 0) (v := (nI 0)) ok_X12_lay (mi 62 rfl) (fk f.1 53 rfl) (fn f.1 53 rfl) (pk_in 0 1206 (by decide)) (by decide) (by decide) ?_
      refine ex_aload_n ok_X12_lay (mi 63 rfl) rfl ?_
      refine ex_getRx ok_X12_lay (mi 64 rfl) rfl rfl (kq apq (fk f.1 0 rfl)) (rq apq (fr f.1 52 rfl)) (kq apq (fk f.1 53 rfl)) (by decide) ?_
      refine ex_iconst ok_X12_lay (mi 65 rfl) ?_
      refine ex_iload ok_X12_lay (mi 66 rfl) rfl ?_
      refine ex_imul ok_X12_lay (mi 67 rfl) ?_
      refine ex_top (w := (nI 0)) (by decide) ?_
      refine ex_iconst ok_X12_lay (mi 68 rfl) ?_
      refine ex_iadd ok_X12_lay (mi 69 rfl) ?_
      refine ex_top (w := (nI 1)) (by decide) ?_
      refine ex_iload ok_X12_lay (mi 70 rfl) rfl ?_
      refine ex_iasta (a := 53) (j := 1) (v := p1) ok_X12_lay (mi 71 rfl) (fk f.1 53 rfl) (fn f.1 53 rfl) (pk_in 1 1206 (by decide)) (by decide) rfl ?_
      refine ex_aload_n ok_X12_lay (mi 72 rfl) rfl ?_
      refine ex_getRx ok_X12_lay (mi 73 rfl) rfl rfl (kq apq (fk f.1 0 rfl)) (rq apq (fr f.1 52 rfl)) (kq apq (fk f.1 53 rfl)) (by decide) ?_
      refine ex_iconst ok_X12_lay (mi 74 rfl) ?_
      refine ex_iload ok_X12_lay (mi 75 rfl) rfl ?_
      refine ex_imul ok_X12_lay (mi 76 rfl) ?_
      refine ex_top (w := (nI 0)) (by decide) ?_
      refine ex_iconst ok_X12_lay (mi 77 rfl) ?_
      refine ex_iadd ok_X12_lay (mi 78 rfl) ?_
      refine ex_top (w := (nI 2)) (by decide) ?_
      refine ex_iload ok_X12_lay (mi 79 rfl) rfl ?_
      refine ex_iasta (a := 53) (j := 2) (v := p2) ok_X12_lay (mi 80 rfl) (fk f.1 53 rfl) (fn f.1 53 rfl) (pk_in 2 1206 (by decide)) (by decide) rfl ?_
      refine ex_aload_n ok_X12_lay (mi 81 rfl) rfl ?_
      refine ex_getRx ok_X12_lay (mi 82 rfl) rfl rfl (kq apq (fk f.1 0 rfl)) (rq apq (fr f.1 53 rfl)) (kq apq (fk f.1 54 rfl)) (by decide) ?_
      refine ex_iload ok_X12_lay (mi 83 rfl) rfl ?_
      refine ex_iconst ok_X12_lay (mi 84 rfl) ?_
      refine ex_iasta (a := 54) (j := 0) (v := (nI 0)) ok_X12_lay (mi 85 rfl) (fk f.1 54 rfl) (fn f.1 54 rfl) (pk_in 0 402 (by decide)) (by decide) (by decide) ?_
      refine ex_aload_n ok_X12_lay (mi 86 rfl) rfl ?_
      refine ex_getRx ok_X12_lay (mi 87 rfl) rfl rfl (kq apq (fk f.1 0 rfl)) (rq apq (fr f.1 54 rfl)) (kq apq (fk f.1 55 rfl)) (by decide) ?_
      refine ex_iconst ok_X12_lay (mi 88 rfl) ?_
      refine ex_iload ok_X12_lay (mi 89 rfl) rfl ?_
      refine ex_imul ok_X12_lay (mi 90 rfl) ?_
      refine ex_top (w := (nI 0)) (by decide) ?_
      refine ex_iconst ok_X12_lay (mi 91 rfl) ?_
      refine ex_iasta (a := 55) (j := 0) (v := (nI 0)) ok_X12_lay (mi 92 rfl) (fk f.1 55 rfl) (fn f.1 55 rfl) (pk_in 0 804 (by decide)) (by decide) (by decide) ?_
      refine ex_aload_n ok_X12_lay (mi 93 rfl) rfl ?_
      refine ex_getRx ok_X12_lay (mi 94 rfl) rfl rfl (kq apq (fk f.1 0 rfl)) (rq apq (fr f.1 54 rfl)) (kq apq (fk f.1 55 rfl)) (by decide) ?_
      refine ex_iconst ok_X12_lay (mi 95 rfl) ?_
      refine ex_iload ok_X12_lay (mi 96 rfl) rfl ?_
      refine ex_imul ok_X12_lay (mi 97 rfl) ?_
      refine ex_top (w := (nI 0)) (by decide) ?_
      refine ex_iconst ok_X12_lay (mi 98 rfl) ?_
      refine ex_iadd ok_X12_lay (mi 99 rfl) ?_
      refine ex_top (w := (nI 1)) (by decide) ?_
      refine ex_iconst ok_X12_lay (mi 100 rfl) ?_
      refine ex_iasta (a := 55) (j := 1) (v := (nI 0)) ok_X12_lay (mi 101 rfl) (fk f.1 55 rfl) (fn f.1 55 rfl) (pk_in 1 804 (by decide)) (by decide) (by decide) ?_
      refine ex_aload_n ok_X12_lay (mi 102 rfl) rfl ?_
      refine ex_iload ok_X12_lay (mi 103 rfl) rfl ?_
      refine ex_putIa (a := 0) (v := (nI 0)) ok_X12_lay (mi 104 rfl) rfl rfl (fk f.1 0 rfl) (by decide) ?_
      refine ex_iconst ok_X12_lay (mi 105 rfl) ?_
      refine ex_zret ok_X12_lay (mi 106 rfl) rfl (by decide) ?_
      exact ⟨inlI (by decide), rfl⟩
    refine ex_istore ok_X12_layAll (mi 19 rfl) ?_
    refine ex_iincx (w := (nI 1)) ok_X12_layAll (mi 20 rfl) rfl (by decide) ?_
    refine ex_iincx (w := (nI 1)) ok_X12_layAll (mi 21 rfl) rfl (by decide) ?_
    refine ex_goto (tgt := 6) ok_X12_layAll (mi 22 rfl) rfl ?_
    refine ex_ls (ls' := [(0, .ref x), (1, .int (nI 1)), (2, .int (nI 2)), (3, .int (nI 7)), (4, .int (nI 0)), (5, .int p1), (6, .int p2), (7, .int (nI 1)), (8, .int (nI 1)), (9, .int (nI 1))]) ⟨rfl, rfl, rfl, rfl, rfl, rfl, rfl, rfl, rfl, rfl, trivial⟩ ?_
    refine ex_iload ok_X12_layAll (mi 4 rfl) rfl ?_
    refine ex_bipush ok_X12_layAll (mi 5 rfl) ?_
    refine ex_icmp_ge (tgt := 47) ok_X12_layAll (mi 6 rfl) rfl (fun hn => absurd hn (by decide)) (fun _ => ?_)
    refine ex_iload_n ok_X12_layAll (mi 7 rfl) rfl ?_
    refine ex_iload ok_X12_layAll (mi 8 rfl) rfl ?_
    refine ex_callSr (As := [_, _]) (v := some (.int (nI 1))) (g1 := (ap x [(0, 0, 1258, 0, (nI 0)), (1, 55, 1, 0, (nI 0)), (1, 55, 0, 0, (nI 0)), (1, 54, 0, 0, (nI 0)), (1, 53, 2, 0, p2), (1, 53, 1, 0, p1), (1, 53, 0, 0, (nI 0)), (1, 52, 0, 0, (nI 0)), (1, 51, 0, 0, (nI 2)), (1, 50, 0, 0, (nI 1)), (0, 0, 1248, 0, (nI 1)), (1, 48, 0, 0, (nI 0)), (1, 49, 0, 0, (nI 1)), (0, 0, 1258, 0, (-1)), (0, 0, 1266, 0, (nI 1)), (1, 57, p1.toNatClampNeg, 0, p2), (1, 4, 2, 0, p2), (1, 3, 2, 0, p1), (1, 2, 2, 0, (nI 1)), (1, 25, 2, 0, (nI 0)), (1, 24, 2, 0, (nI 0)), (1, 23, 2, 0, (nI 0)), (1, 22, 2, 0, (nI 0)), (1, 21, 2, 0, (nI 0)), (1, 20, 2, 0, (nI 0)), (2, 12, 32, 48, ((-1))), (2, 16, 32, 48, (nI 0)), (2, 17, 32, 48, ((-1))), (2, 18, 32, 48, (nI 0)), (2, 19, 32, 48, (nI 0)), (1, 15, 2, 0, (nI 0)), (1, 14, 2, 0, (nI 0)), (1, 11, 2, 0, (nI 0)), (1, 10, 2, 0, (nI 0)), (2, 9, 600, 900, (nI 0)), (1, 8, 2, 0, (nI 0)), (1, 7, 2, 0, (nI 0)), (0, 0, 1200, 0, (nI 0))] h)) ok_X12_layAll (mi 9 rfl) rfl ?c rfl rfl rfl (by decide) (Nat.le_of_ble_eq_true rfl) (by decide) ?_
    case c =>
      refine ex_M_of ok_X12_has cw_X12_has rfl hst (Nat.le_of_ble_eq_true rfl) ?_
      refine ex_iload_n ok_X12_has (mi 0 rfl) rfl ?_
      refine ex_iload_n ok_X12_has (mi 1 rfl) rfl ?_
      refine ex_ishr ok_X12_has (mi 2 rfl) ?_
      refine ex_top (w := (nI 3)) (by decide) ?_
      refine ex_iconst ok_X12_has (mi 3 rfl) ?_
      refine ex_iand ok_X12_has (mi 4 rfl) ?_
      refine ex_top (w := (nI 1)) (by decide) ?_
      refine ex_iconst ok_X12_has (mi 5 rfl) ?_
      refine ex_icmp_ne (tgt := 13) ok_X12_has (mi 6 rfl) rfl (fun hn => absurd (by decide) hn) (fun _ => ?_)
      refine ex_iconst ok_X12_has (mi 7 rfl) ?_
      refine ex_goto (tgt := 14) ok_X12_has (mi 8 rfl) rfl ?_
      refine ex_zret ok_X12_has (mi 10 rfl) rfl (by decide) ?_
      exact ⟨inlI (by decide), rfl⟩
    refine ex_if_eq (tgt := 41) ok_X12_layAll (mi 10 rfl) rfl (fun hn => absurd hn (by decide)) (fun _ => ?_)
    refine ex_aload_n ok_X12_layAll (mi 11 rfl) rfl ?_
    refine ex_iload_n ok_X12_layAll (mi 12 rfl) rfl ?_
    refine ex_iload_n ok_X12_layAll (mi 13 rfl) rfl ?_
    refine ex_iload ok_X12_layAll (mi 14 rfl) rfl ?_
    refine ex_iload ok_X12_layAll (mi 15 rfl) rfl ?_
    refine ex_iload ok_X12_layAll (mi 16 rfl) rfl ?_
    refine ex_iload ok_X12_layAll (mi 17 rfl) rfl ?_
    refine ex_callVr (As := [_, _, _, _, _, _]) (v := some (.int (nI 1))) (g1 := (ap x [(0, 0, 1258, 0, (nI 1)), (1, 55, 3, 0, (nI 0)), (1, 55, 2, 0, (nI 0)), (1, 54, 1, 0, (nI 0)), (1, 53, 5, 0, p2), (1, 53, 4, 0, p1), (1, 53, 3, 0, (nI 0)), (1, 52, 1, 0, (nI 1)), (1, 51, 1, 0, (nI 2)), (1, 50, 1, 0, (nI 1)), (0, 0, 1248, 0, (nI 2)), (1, 48, 1, 0, (nI 1)), (1, 49, 1, 0, (nI 1)), (0, 0, 1258, 0, (-1)), (0, 0, 1258, 0, (nI 0)), (1, 55, 1, 0, (nI 0)), (1, 55, 0, 0, (nI 0)), (1, 54, 0, 0, (nI 0)), (1, 53, 2, 0, p2), (1, 53, 1, 0, p1), (1, 53, 0, 0, (nI 0)), (1, 52, 0, 0, (nI 0)), (1, 51, 0, 0, (nI 2)), (1, 50, 0, 0, (nI 1)), (0, 0, 1248, 0, (nI 1)), (1, 48, 0, 0, (nI 0)), (1, 49, 0, 0, (nI 1)), (0, 0, 1258, 0, (-1)), (0, 0, 1266, 0, (nI 1)), (1, 57, p1.toNatClampNeg, 0, p2), (1, 4, 2, 0, p2), (1, 3, 2, 0, p1), (1, 2, 2, 0, (nI 1)), (1, 25, 2, 0, (nI 0)), (1, 24, 2, 0, (nI 0)), (1, 23, 2, 0, (nI 0)), (1, 22, 2, 0, (nI 0)), (1, 21, 2, 0, (nI 0)), (1, 20, 2, 0, (nI 0)), (2, 12, 32, 48, ((-1))), (2, 16, 32, 48, (nI 0)), (2, 17, 32, 48, ((-1))), (2, 18, 32, 48, (nI 0)), (2, 19, 32, 48, (nI 0)), (1, 15, 2, 0, (nI 0)), (1, 14, 2, 0, (nI 0)), (1, 11, 2, 0, (nI 0)), (1, 10, 2, 0, (nI 0)), (2, 9, 600, 900, (nI 0)), (1, 8, 2, 0, (nI 0)), (1, 7, 2, 0, (nI 0)), (0, 0, 1200, 0, (nI 0))] h)) ok_X12_layAll (mi 18 rfl) rfl ?c rfl (kq apq (fk f.1 0 rfl)) rfl rfl (by decide) (by decide) (Nat.le_of_ble_eq_true rfl) (by decide) ?_
    case c =>
      refine ex_M_of ok_X12_lay cw_X12_lay rfl hst (Nat.le_of_ble_eq_true rfl) ?_
      refine ex_aload_n ok_X12_lay (mi 0 rfl) rfl ?_
      refine ex_iconst ok_X12_lay (mi 1 rfl) ?_
      refine ex_putIa (a := 0) (v := (-1)) ok_X12_lay (mi 2 rfl) rfl rfl (fk f.1 0 rfl) (by decide) ?_
      refine ex_aload_n ok_X12_lay (mi 3 rfl) rfl ?_
      refine ex_getIx ok_X12_lay (mi 4 rfl) rfl rfl (kq apq (fk f.1 0 rfl)) (apI (a := 0) rfl) ?_
      refine ex_sipush ok_X12_lay (mi 5 rfl) ?_
      refine ex_icmp_ne (tgt := 27) ok_X12_lay (mi 6 rfl) rfl (fun _ => ?_) (fun hn => absurd hn (by decide))
      refine ex_iconst ok_X12_lay (mi 15 rfl) ?_
      refine ex_istore ok_X12_lay (mi 16 rfl) ?_
      refine ex_aload_n ok_X12_lay (mi 17 rfl) rfl ?_
      refine ex_getRx ok_X12_lay (mi 18 rfl) rfl rfl (kq apq (fk f.1 0 rfl)) (rq apq (fr f.1 48 rfl)) (kq apq (fk f.1 49 rfl)) (by decide) ?_
      refine ex_iload ok_X12_lay (mi 19 rfl) rfl ?_
      refine ex_baldx ok_X12_lay (mi 20 rfl) (kq apq (fk f.1 49 rfl)) (nq apq (fn f.1 49 rfl)) (pk_in 0 402 (by decide)) (apA (j := 0) rfl) ?_
      refine ex_if_eq (tgt := 46) ok_X12_lay (mi 21 rfl) rfl (fun hn => absurd hn (by decide)) (fun _ => ?_)
      refine ex_iincx (w := (nI 1)) ok_X12_lay (mi 22 rfl) rfl (by decide) ?_
      refine ex_goto (tgt := 30) ok_X12_lay (mi 23 rfl) rfl ?_
      refine ex_ls (ls' := [(0, .ref x), (1, .int (nI 1)), (2, .int (nI 2)), (3, .int (nI 1)), (4, .int (nI 0)), (5, .int p1), (6, .int p2), (7, .int (nI 1))]) ⟨rfl, rfl, rfl, rfl, rfl, rfl, rfl, rfl, trivial⟩ ?_
      refine ex_aload_n ok_X12_lay (mi 17 rfl) rfl ?_
      refine ex_getRx ok_X12_lay (mi 18 rfl) rfl rfl (kq apq (fk f.1 0 rfl)) (rq apq (fr f.1 48 rfl)) (kq apq (fk f.1 49 rfl)) (by decide) ?_
      refine ex_iload ok_X12_lay (mi 19 rfl) rfl ?_
      refine ex_baldx ok_X12_lay (mi 20 rfl) (kq apq (fk f.1 49 rfl)) (nq apq (fn f.1 49 rfl)) (pk_in 1 402 (by decide)) (apA0 (j := 1) rfl (fg (j := 1) f.2.2.2 3 rfl (by decide) (by decide))) ?_
      refine ex_if_eq (tgt := 46) ok_X12_lay (mi 21 rfl) rfl (fun _ => ?_) (fun hn => absurd (by decide) hn)
      refine ex_aload_n ok_X12_lay (mi 24 rfl) rfl ?_
      refine ex_getRx ok_X12_lay (mi 25 rfl) rfl rfl (kq apq (fk f.1 0 rfl)) (rq apq (fr f.1 48 rfl)) (kq apq (fk f.1 49 rfl)) (by decide) ?_
      refine ex_iload ok_X12_lay (mi 26 rfl) rfl ?_
      refine ex_iconst ok_X12_lay (mi 27 rfl) ?_
      refine ex_basta (a := 49) (j := 1) (v := (nI 1)) ok_X12_lay (mi 28 rfl) (fk f.1 49 rfl) (fn f.1 49 rfl) (pk_in 1 402 (by decide)) (by decide) (by decide) (by decide) ?_
      refine ex_aload_n ok_X12_lay (mi 29 rfl) rfl ?_
      refine ex_getRx ok_X12_lay (mi 30 rfl) rfl rfl (kq apq (fk f.1 0 rfl)) (rq apq (fr f.1 47 rfl)) (kq apq (fk f.1 48 rfl)) (by decide) ?_
      refine ex_aload_n ok_X12_lay (mi 31 rfl) rfl ?_
      refine ex_getIx ok_X12_lay (mi 32 rfl) rfl rfl (kq apq (fk f.1 0 rfl)) (apI (a := 0) rfl) ?_
      refine ex_iload ok_X12_lay (mi 33 rfl) rfl ?_
      refine ex_iasta (a := 48) (j := 1) (v := (nI 1)) ok_X12_lay (mi 34 rfl) (fk f.1 48 rfl) (fn f.1 48 rfl) (pk_in 1 400 (by decide)) (by decide) (by decide) ?_
      refine ex_aload_n ok_X12_lay (mi 35 rfl) rfl ?_
      refine ex_dup ok_X12_lay (mi 36 rfl) rfl ?_
      refine ex_getIx ok_X12_lay (mi 37 rfl) rfl rfl (kq apq (fk f.1 0 rfl)) (apI (a := 0) rfl) ?_
      refine ex_iconst ok_X12_lay (mi 38 rfl) ?_
      refine ex_iadd ok_X12_lay (mi 39 rfl) ?_
      refine ex_top (w := (nI 2)) (by decide) ?_
      refine ex_putIa (a := 0) (v := (nI 2)) ok_X12_lay (mi 40 rfl) rfl rfl (fk f.1 0 rfl) (by decide) ?_
      refine ex_aload_n ok_X12_lay (mi 41 rfl) rfl ?_
      refine ex_getRx ok_X12_lay (mi 42 rfl) rfl rfl (kq apq (fk f.1 0 rfl)) (rq apq (fr f.1 49 rfl)) (kq apq (fk f.1 50 rfl)) (by decide) ?_
      refine ex_iload ok_X12_lay (mi 43 rfl) rfl ?_
      refine ex_iload_n ok_X12_lay (mi 44 rfl) rfl ?_
      refine ex_iasta (a := 50) (j := 1) (v := (nI 1)) ok_X12_lay (mi 45 rfl) (fk f.1 50 rfl) (fn f.1 50 rfl) (pk_in 1 402 (by decide)) (by decide) (by decide) ?_
      refine ex_aload_n ok_X12_lay (mi 46 rfl) rfl ?_
      refine ex_getRx ok_X12_lay (mi 47 rfl) rfl rfl (kq apq (fk f.1 0 rfl)) (rq apq (fr f.1 50 rfl)) (kq apq (fk f.1 51 rfl)) (by decide) ?_
      refine ex_iload ok_X12_lay (mi 48 rfl) rfl ?_
      refine ex_iload_n ok_X12_lay (mi 49 rfl) rfl ?_
      refine ex_iasta (a := 51) (j := 1) (v := (nI 2)) ok_X12_lay (mi 50 rfl) (fk f.1 51 rfl) (fn f.1 51 rfl) (pk_in 1 402 (by decide)) (by decide) (by decide) ?_
      refine ex_aload_n ok_X12_lay (mi 51 rfl) rfl ?_
      refine ex_getRx ok_X12_lay (mi 52 rfl) rfl rfl (kq apq (fk f.1 0 rfl)) (rq apq (fr f.1 51 rfl)) (kq apq (fk f.1 52 rfl)) (by decide) ?_
      refine ex_iload ok_X12_lay (mi 53 rfl) rfl ?_
      refine ex_iload_n ok_X12_lay (mi 54 rfl) rfl ?_
      refine ex_iasta (a := 52) (j := 1) (v := (nI 1)) ok_X12_lay (mi 55 rfl) (fk f.1 52 rfl) (fn f.1 52 rfl) (pk_in 1 402 (by decide)) (by decide) (by decide) ?_
      refine ex_aload_n ok_X12_lay (mi 56 rfl) rfl ?_
      refine ex_getRx ok_X12_lay (mi 57 rfl) rfl rfl (kq apq (fk f.1 0 rfl)) (rq apq (fr f.1 52 rfl)) (kq apq (fk f.1 53 rfl)) (by decide) ?_
      refine ex_iconst ok_X12_lay (mi 58 rfl) ?_
      refine ex_iload ok_X12_lay (mi 59 rfl) rfl ?_
      refine ex_imul ok_X12_lay (mi 60 rfl) ?_
      refine ex_top (w := (nI 3)) (by decide) ?_
      refine ex_iload ok_X12_lay (mi 61 rfl) rfl ?_
      refine ex_iasta (a := 53) (j := 3) (v := (nI 0)) ok_X12_lay (mi 62 rfl) (fk f.1 53 rfl) (fn f.1 53 rfl) (pk_in 3 1206 (by decide)) (by decide) (by decide) ?_
      refine ex_aload_n ok_X12_lay (mi 63 rfl) rfl ?_
      refine ex_getRx ok_X12_lay (mi 64 rfl) rfl rfl (kq apq (fk f.1 0 rfl)) (rq apq (fr f.1 52 rfl)) (kq apq (fk f.1 53 rfl)) (by decide) ?_
      refine ex_iconst ok_X12_lay (mi 65 rfl) ?_
      refine ex_iload ok_X12_lay (mi 66 rfl) rfl ?_
      refine ex_imul ok_X12_lay (mi 67 rfl) ?_
      refine ex_top (w := (nI 3)) (by decide) ?_
      refine ex_iconst ok_X12_lay (mi 68 rfl) ?_
      refine ex_iadd ok_X12_lay (mi 69 rfl) ?_
      refine ex_top (w := (nI 4)) (by decide) ?_
      refine ex_iload ok_X12_lay (mi 70 rfl) rfl ?_
      refine ex_iasta (a := 53) (j := 4) (v := p1) ok_X12_lay (mi 71 rfl) (fk f.1 53 rfl) (fn f.1 53 rfl) (pk_in 4 1206 (by decide)) (by decide) rfl ?_
      refine ex_aload_n ok_X12_lay (mi 72 rfl) rfl ?_
      refine ex_getRx ok_X12_lay (mi 73 rfl) rfl rfl (kq apq (fk f.1 0 rfl)) (rq apq (fr f.1 52 rfl)) (kq apq (fk f.1 53 rfl)) (by decide) ?_
      refine ex_iconst ok_X12_lay (mi 74 rfl) ?_
      refine ex_iload ok_X12_lay (mi 75 rfl) rfl ?_
      refine ex_imul ok_X12_lay (mi 76 rfl) ?_
      refine ex_top (w := (nI 3)) (by decide) ?_
      refine ex_iconst ok_X12_lay (mi 77 rfl) ?_
      refine ex_iadd ok_X12_lay (mi 78 rfl) ?_
      refine ex_top (w := (nI 5)) (by decide) ?_
      refine ex_iload ok_X12_lay (mi 79 rfl) rfl ?_
      refine ex_iasta (a := 53) (j := 5) (v := p2) ok_X12_lay (mi 80 rfl) (fk f.1 53 rfl) (fn f.1 53 rfl) (pk_in 5 1206 (by decide)) (by decide) rfl ?_
      refine ex_aload_n ok_X12_lay (mi 81 rfl) rfl ?_
      refine ex_getRx ok_X12_lay (mi 82 rfl) rfl rfl (kq apq (fk f.1 0 rfl)) (rq apq (fr f.1 53 rfl)) (kq apq (fk f.1 54 rfl)) (by decide) ?_
      refine ex_iload ok_X12_lay (mi 83 rfl) rfl ?_
      refine ex_iconst ok_X12_lay (mi 84 rfl) ?_
      refine ex_iasta (a := 54) (j := 1) (v := (nI 0)) ok_X12_lay (mi 85 rfl) (fk f.1 54 rfl) (fn f.1 54 rfl) (pk_in 1 402 (by decide)) (by decide) (by decide) ?_
      refine ex_aload_n ok_X12_lay (mi 86 rfl) rfl ?_
      refine ex_getRx ok_X12_lay (mi 87 rfl) rfl rfl (kq apq (fk f.1 0 rfl)) (rq apq (fr f.1 54 rfl)) (kq apq (fk f.1 55 rfl)) (by decide) ?_
      refine ex_iconst ok_X12_lay (mi 88 rfl) ?_
      refine ex_iload ok_X12_lay (mi 89 rfl) rfl ?_
      refine ex_imul ok_X12_lay (mi 90 rfl) ?_
      refine ex_top (w := (nI 2)) (by decide) ?_
      refine ex_iconst ok_X12_lay (mi 91 rfl) ?_
      refine ex_iasta (a := 55) (j := 2) (v := (nI 0)) ok_X12_lay (mi 92 rfl) (fk f.1 55 rfl) (fn f.1 55 rfl) (pk_in 2 804 (by decide)) (by decide) (by decide) ?_
      refine ex_aload_n ok_X12_lay (mi 93 rfl) rfl ?_
      refine ex_getRx ok_X12_lay (mi 94 rfl) rfl rfl (kq apq (fk f.1 0 rfl)) (rq apq (fr f.1 54 rfl)) (kq apq (fk f.1 55 rfl)) (by decide) ?_
      refine ex_iconst ok_X12_lay (mi 95 rfl) ?_
      refine ex_iload ok_X12_lay (mi 96 rfl) rfl ?_
      refine ex_imul ok_X12_lay (mi 97 rfl) ?_
      refine ex_top (w := (nI 2)) (by decide) ?_
      refine ex_iconst ok_X12_lay (mi 98 rfl) ?_
      refine ex_iadd ok_X12_lay (mi 99 rfl) ?_
      refine ex_top (w := (nI 3)) (by decide) ?_
      refine ex_iconst ok_X12_lay (mi 100 rfl) ?_
      refine ex_iasta (a := 55) (j := 3) (v := (nI 0)) ok_X12_lay (mi 101 rfl) (fk f.1 55 rfl) (fn f.1 55 rfl) (pk_in 3 804 (by decide)) (by decide) (by decide) ?_
      refine ex_aload_n ok_X12_lay (mi 102 rfl) rfl ?_
      refine ex_iload ok_X12_lay (mi 103 rfl) rfl ?_
      refine ex_putIa (a := 0) (v := (nI 1)) ok_X12_lay (mi 104 rfl) rfl rfl (fk f.1 0 rfl) (by decide) ?_
      refine ex_iconst ok_X12_lay (mi 105 rfl) ?_
      refine ex_zret ok_X12_lay (mi 106 rfl) rfl (by decide) ?_
      exact ⟨inlI (by decide), rfl⟩
    refine ex_istore ok_X12_layAll (mi 19 rfl) ?_
    refine ex_iincx (w := (nI 2)) ok_X12_layAll (mi 20 rfl) rfl (by decide) ?_
    refine ex_iincx (w := (nI 2)) ok_X12_layAll (mi 21 rfl) rfl (by decide) ?_
    refine ex_goto (tgt := 6) ok_X12_layAll (mi 22 rfl) rfl ?_
    refine ex_ls (ls' := [(0, .ref x), (1, .int (nI 1)), (2, .int (nI 2)), (3, .int (nI 7)), (4, .int (nI 0)), (5, .int p1), (6, .int p2), (7, .int (nI 2)), (8, .int (nI 2)), (9, .int (nI 1))]) ⟨rfl, rfl, rfl, rfl, rfl, rfl, rfl, rfl, rfl, rfl, trivial⟩ ?_
    refine ex_iload ok_X12_layAll (mi 4 rfl) rfl ?_
    refine ex_bipush ok_X12_layAll (mi 5 rfl) ?_
    refine ex_icmp_ge (tgt := 47) ok_X12_layAll (mi 6 rfl) rfl (fun hn => absurd hn (by decide)) (fun _ => ?_)
    refine ex_iload_n ok_X12_layAll (mi 7 rfl) rfl ?_
    refine ex_iload ok_X12_layAll (mi 8 rfl) rfl ?_
    refine ex_callSr (As := [_, _]) (v := some (.int (nI 1))) (g1 := (ap x [(0, 0, 1258, 0, (nI 1)), (1, 55, 3, 0, (nI 0)), (1, 55, 2, 0, (nI 0)), (1, 54, 1, 0, (nI 0)), (1, 53, 5, 0, p2), (1, 53, 4, 0, p1), (1, 53, 3, 0, (nI 0)), (1, 52, 1, 0, (nI 1)), (1, 51, 1, 0, (nI 2)), (1, 50, 1, 0, (nI 1)), (0, 0, 1248, 0, (nI 2)), (1, 48, 1, 0, (nI 1)), (1, 49, 1, 0, (nI 1)), (0, 0, 1258, 0, (-1)), (0, 0, 1258, 0, (nI 0)), (1, 55, 1, 0, (nI 0)), (1, 55, 0, 0, (nI 0)), (1, 54, 0, 0, (nI 0)), (1, 53, 2, 0, p2), (1, 53, 1, 0, p1), (1, 53, 0, 0, (nI 0)), (1, 52, 0, 0, (nI 0)), (1, 51, 0, 0, (nI 2)), (1, 50, 0, 0, (nI 1)), (0, 0, 1248, 0, (nI 1)), (1, 48, 0, 0, (nI 0)), (1, 49, 0, 0, (nI 1)), (0, 0, 1258, 0, (-1)), (0, 0, 1266, 0, (nI 1)), (1, 57, p1.toNatClampNeg, 0, p2), (1, 4, 2, 0, p2), (1, 3, 2, 0, p1), (1, 2, 2, 0, (nI 1)), (1, 25, 2, 0, (nI 0)), (1, 24, 2, 0, (nI 0)), (1, 23, 2, 0, (nI 0)), (1, 22, 2, 0, (nI 0)), (1, 21, 2, 0, (nI 0)), (1, 20, 2, 0, (nI 0)), (2, 12, 32, 48, ((-1))), (2, 16, 32, 48, (nI 0)), (2, 17, 32, 48, ((-1))), (2, 18, 32, 48, (nI 0)), (2, 19, 32, 48, (nI 0)), (1, 15, 2, 0, (nI 0)), (1, 14, 2, 0, (nI 0)), (1, 11, 2, 0, (nI 0)), (1, 10, 2, 0, (nI 0)), (2, 9, 600, 900, (nI 0)), (1, 8, 2, 0, (nI 0)), (1, 7, 2, 0, (nI 0)), (0, 0, 1200, 0, (nI 0))] h)) ok_X12_layAll (mi 9 rfl) rfl ?c rfl rfl rfl (by decide) (Nat.le_of_ble_eq_true rfl) (by decide) ?_
    case c =>
      refine ex_M_of ok_X12_has cw_X12_has rfl hst (Nat.le_of_ble_eq_true rfl) ?_
      refine ex_iload_n ok_X12_has (mi 0 rfl) rfl ?_
      refine ex_iload_n ok_X12_has (mi 1 rfl) rfl ?_
      refine ex_ishr ok_X12_has (mi 2 rfl) ?_
      refine ex_top (w := (nI 1)) (by decide) ?_
      refine ex_iconst ok_X12_has (mi 3 rfl) ?_
      refine ex_iand ok_X12_has (mi 4 rfl) ?_
      refine ex_top (w := (nI 1)) (by decide) ?_
      refine ex_iconst ok_X12_has (mi 5 rfl) ?_
      refine ex_icmp_ne (tgt := 13) ok_X12_has (mi 6 rfl) rfl (fun hn => absurd (by decide) hn) (fun _ => ?_)
      refine ex_iconst ok_X12_has (mi 7 rfl) ?_
      refine ex_goto (tgt := 14) ok_X12_has (mi 8 rfl) rfl ?_
      refine ex_zret ok_X12_has (mi 10 rfl) rfl (by decide) ?_
      exact ⟨inlI (by decide), rfl⟩
    refine ex_if_eq (tgt := 41) ok_X12_layAll (mi 10 rfl) rfl (fun hn => absurd hn (by decide)) (fun _ => ?_)
    refine ex_aload_n ok_X12_layAll (mi 11 rfl) rfl ?_
    refine ex_iload_n ok_X12_layAll (mi 12 rfl) rfl ?_
    refine ex_iload_n ok_X12_layAll (mi 13 rfl) rfl ?_
    refine ex_iload ok_X12_layAll (mi 14 rfl) rfl ?_
    refine ex_iload ok_X12_layAll (mi 15 rfl) rfl ?_
    refine ex_iload ok_X12_layAll (mi 16 rfl) rfl ?_
    refine ex_iload ok_X12_layAll (mi 17 rfl) rfl ?_
    refine ex_callVr (As := [_, _, _, _, _, _]) (v := some (.int (nI 1))) (g1 := (ap x [(0, 0, 1258, 0, (nI 2)), (1, 55, 5, 0, (nI 0)), (1, 55, 4, 0, (nI 0)), (1, 54, 2, 0, (nI 0)), (1, 53, 8, 0, p2), (1, 53, 7, 0, p1), (1, 53, 6, 0, (nI 0)), (1, 52, 2, 0, (nI 2)), (1, 51, 2, 0, (nI 2)), (1, 50, 2, 0, (nI 1)), (0, 0, 1248, 0, (nI 3)), (1, 48, 2, 0, (nI 2)), (1, 49, 2, 0, (nI 1)), (0, 0, 1258, 0, (-1)), (0, 0, 1258, 0, (nI 1)), (1, 55, 3, 0, (nI 0)), (1, 55, 2, 0, (nI 0)), (1, 54, 1, 0, (nI 0)), (1, 53, 5, 0, p2), (1, 53, 4, 0, p1), (1, 53, 3, 0, (nI 0)), (1, 52, 1, 0, (nI 1)), (1, 51, 1, 0, (nI 2)), (1, 50, 1, 0, (nI 1)), (0, 0, 1248, 0, (nI 2)), (1, 48, 1, 0, (nI 1)), (1, 49, 1, 0, (nI 1)), (0, 0, 1258, 0, (-1)), (0, 0, 1258, 0, (nI 0)), (1, 55, 1, 0, (nI 0)), (1, 55, 0, 0, (nI 0)), (1, 54, 0, 0, (nI 0)), (1, 53, 2, 0, p2), (1, 53, 1, 0, p1), (1, 53, 0, 0, (nI 0)), (1, 52, 0, 0, (nI 0)), (1, 51, 0, 0, (nI 2)), (1, 50, 0, 0, (nI 1)), (0, 0, 1248, 0, (nI 1)), (1, 48, 0, 0, (nI 0)), (1, 49, 0, 0, (nI 1)), (0, 0, 1258, 0, (-1)), (0, 0, 1266, 0, (nI 1)), (1, 57, p1.toNatClampNeg, 0, p2), (1, 4, 2, 0, p2), (1, 3, 2, 0, p1), (1, 2, 2, 0, (nI 1)), (1, 25, 2, 0, (nI 0)), (1, 24, 2, 0, (nI 0)), (1, 23, 2, 0, (nI 0)), (1, 22, 2, 0, (nI 0)), (1, 21, 2, 0, (nI 0)), (1, 20, 2, 0, (nI 0)), (2, 12, 32, 48, ((-1))), (2, 16, 32, 48, (nI 0)), (2, 17, 32, 48, ((-1))), (2, 18, 32, 48, (nI 0)), (2, 19, 32, 48, (nI 0)), (1, 15, 2, 0, (nI 0)), (1, 14, 2, 0, (nI 0)), (1, 11, 2, 0, (nI 0)), (1, 10, 2, 0, (nI 0)), (2, 9, 600, 900, (nI 0)), (1, 8, 2, 0, (nI 0)), (1, 7, 2, 0, (nI 0)), (0, 0, 1200, 0, (nI 0))] h)) ok_X12_layAll (mi 18 rfl) rfl ?c rfl (kq apq (fk f.1 0 rfl)) rfl rfl (by decide) (by decide) (Nat.le_of_ble_eq_true rfl) (by decide) ?_
    case c =>
      refine ex_M_of ok_X12_lay cw_X12_lay rfl hst (Nat.le_of_ble_eq_true rfl) ?_
      refine ex_aload_n ok_X12_lay (mi 0 rfl) rfl ?_
      refine ex_iconst ok_X12_lay (mi 1 rfl) ?_
      refine ex_putIa (a := 0) (v := (-1)) ok_X12_lay (mi 2 rfl) rfl rfl (fk f.1 0 rfl) (by decide) ?_
      refine ex_aload_n ok_X12_lay (mi 3 rfl) rfl ?_
      refine ex_getIx ok_X12_lay (mi 4 rfl) rfl rfl (kq apq (fk f.1 0 rfl)) (apI (a := 0) rfl) ?_
      refine ex_sipush ok_X12_lay (mi 5 rfl) ?_
      refine ex_icmp_ne (tgt := 27) ok_X12_lay (mi 6 rfl) rfl (fun _ => ?_) (fun hn => absurd hn (by decide))
      refine ex_iconst ok_X12_lay (mi 15 rfl) ?_
      refine ex_istore ok_X12_lay (mi 16 rfl) ?_
      refine ex_aload_n ok_X12_lay (mi 17 rfl) rfl ?_
      refine ex_getRx ok_X12_lay (mi 18 rfl) rfl rfl (kq apq (fk f.1 0 rfl)) (rq apq (fr f.1 48 rfl)) (kq apq (fk f.1 49 rfl)) (by decide) ?_
      refine ex_iload ok_X12_lay (mi 19 rfl) rfl ?_
      refine ex_baldx ok_X12_lay (mi 20 rfl) (kq apq (fk f.1 49 rfl)) (nq apq (fn f.1 49 rfl)) (pk_in 0 402 (by decide)) (apA (j := 0) rfl) ?_
      refine ex_if_eq (tgt := 46) ok_X12_lay (mi 21 rfl) rfl (fun hn => absurd hn (by decide)) (fun _ => ?_)
      refine ex_iincx (w := (nI 1)) ok_X12_lay (mi 22 rfl) rfl (by decide) ?_
      refine ex_goto (tgt := 30) ok_X12_lay (mi 23 rfl) rfl ?_
      refine ex_ls (ls' := [(0, .ref x), (1, .int (nI 1)), (2, .int (nI 2)), (3, .int (nI 2)), (4, .int (nI 0)), (5, .int p1), (6, .int p2), (7, .int (nI 1))]) ⟨rfl, rfl, rfl, rfl, rfl, rfl, rfl, rfl, trivial⟩ ?_
      refine ex_aload_n ok_X12_lay (mi 17 rfl) rfl ?_
      refine ex_getRx ok_X12_lay (mi 18 rfl) rfl rfl (kq apq (fk f.1 0 rfl)) (rq apq (fr f.1 48 rfl)) (kq apq (fk f.1 49 rfl)) (by decide) ?_
      refine ex_iload ok_X12_lay (mi 19 rfl) rfl ?_
      refine ex_baldx ok_X12_lay (mi 20 rfl) (kq apq (fk f.1 49 rfl)) (nq apq (fn f.1 49 rfl)) (pk_in 1 402 (by decide)) (apA (j := 1) rfl) ?_
      refine ex_if_eq (tgt := 46) ok_X12_lay (mi 21 rfl) rfl (fun hn => absurd hn (by decide)) (fun _ => ?_)
      refine ex_iincx (w := (nI 2)) ok_X12_lay (mi 22 rfl) rfl (by decide) ?_
      refine ex_goto (tgt := 30) ok_X12_lay (mi 23 rfl) rfl ?_
      refine ex_ls (ls' := [(0, .ref x), (1, .int (nI 1)), (2, .int (nI 2)), (3, .int (nI 2)), (4, .int (nI 0)), (5, .int p1), (6, .int p2), (7, .int (nI 2))]) ⟨rfl, rfl, rfl, rfl, rfl, rfl, rfl, rfl, trivial⟩ ?_
      refine ex_aload_n ok_X12_lay (mi 17 rfl) rfl ?_
      refine ex_getRx ok_X12_lay (mi 18 rfl) rfl rfl (kq apq (fk f.1 0 rfl)) (rq apq (fr f.1 48 rfl)) (kq apq (fk f.1 49 rfl)) (by decide) ?_
      refine ex_iload ok_X12_lay (mi 19 rfl) rfl ?_
      refine ex_baldx ok_X12_lay (mi 20 rfl) (kq apq (fk f.1 49 rfl)) (nq apq (fn f.1 49 rfl)) (pk_in 2 402 (by decide)) (apA0 (j := 2) rfl (fg (j := 2) f.2.2.2 3 rfl (by decide) (by decide))) ?_
      refine ex_if_eq (tgt := 46) ok_X12_lay (mi 21 rfl) rfl (fun _ => ?_) (fun hn => absurd (by decide) hn)
      refine ex_aload_n ok_X12_lay (mi 24 rfl) rfl ?_
      refine ex_getRx ok_X12_lay (mi 25 rfl) rfl rfl (kq apq (fk f.1 0 rfl)) (rq apq (fr f.1 48 rfl)) (kq apq (fk f.1 49 rfl)) (by decide) ?_
      refine ex_iload ok_X12_lay (mi 26 rfl) rfl ?_
      refine ex_iconst ok_X12_lay (mi 27 rfl) ?_
      refine ex_basta (a := 49) (j := 2) (v := (nI 1)) ok_X12_lay (mi 28 rfl) (fk f.1 49 rfl) (fn f.1 49 rfl) (pk_in 2 402 (by decide)) (by decide) (by decide) (by decide) ?_
      refine ex_aload_n ok_X12_lay (mi 29 rfl) rfl ?_
      refine ex_getRx ok_X12_lay (mi 30 rfl) rfl rfl (kq apq (fk f.1 0 rfl)) (rq apq (fr f.1 47 rfl)) (kq apq (fk f.1 48 rfl)) (by decide) ?_
      refine ex_aload_n ok_X12_lay (mi 31 rfl) rfl ?_
      refine ex_getIx ok_X12_lay (mi 32 rfl) rfl rfl (kq apq (fk f.1 0 rfl)) (apI (a := 0) rfl) ?_
      refine ex_iload ok_X12_lay (mi 33 rfl) rfl ?_
      refine ex_iasta (a := 48) (j := 2) (v := (nI 2)) ok_X12_lay (mi 34 rfl) (fk f.1 48 rfl) (fn f.1 48 rfl) (pk_in 2 400 (by decide)) (by decide) (by decide) ?_
      refine ex_aload_n ok_X12_lay (mi 35 rfl) rfl ?_
      refine ex_dup ok_X12_lay (mi 36 rfl) rfl ?_
      refine ex_getIx ok_X12_lay (mi 37 rfl) rfl rfl (kq apq (fk f.1 0 rfl)) (apI (a := 0) rfl) ?_
      refine ex_iconst ok_X12_lay (mi 38 rfl) ?_
      refine ex_iadd ok_X12_lay (mi 39 rfl) ?_
      refine ex_top (w := (nI 3)) (by decide) ?_
      refine ex_putIa (a := 0) (v := (nI 3)) ok_X12_lay (mi 40 rfl) rfl rfl (fk f.1 0 rfl) (by decide) ?_
      refine ex_aload_n ok_X12_lay (mi 41 rfl) rfl ?_
      refine ex_getRx ok_X12_lay (mi 42 rfl) rfl rfl (kq apq (fk f.1 0 rfl)) (rq apq (fr f.1 49 rfl)) (kq apq (fk f.1 50 rfl)) (by decide) ?_
      refine ex_iload ok_X12_lay (mi 43 rfl) rfl ?_
      refine ex_iload_n ok_X12_lay (mi 44 rfl) rfl ?_
      refine ex_iasta (a := 50) (j := 2) (v := (nI 1)) ok_X12_lay (mi 45 rfl) (fk f.1 50 rfl) (fn f.1 50 rfl) (pk_in 2 402 (by decide)) (by decide) (by decide) ?_
      refine ex_aload_n ok_X12_lay (mi 46 rfl) rfl ?_
      refine ex_getRx ok_X12_lay (mi 47 rfl) rfl rfl (kq apq (fk f.1 0 rfl)) (rq apq (fr f.1 50 rfl)) (kq apq (fk f.1 51 rfl)) (by decide) ?_
      refine ex_iload ok_X12_lay (mi 48 rfl) rfl ?_
      refine ex_iload_n ok_X12_lay (mi 49 rfl) rfl ?_
      refine ex_iasta (a := 51) (j := 2) (v := (nI 2)) ok_X12_lay (mi 50 rfl) (fk f.1 51 rfl) (fn f.1 51 rfl) (pk_in 2 402 (by decide)) (by decide) (by decide) ?_
      refine ex_aload_n ok_X12_lay (mi 51 rfl) rfl ?_
      refine ex_getRx ok_X12_lay (mi 52 rfl) rfl rfl (kq apq (fk f.1 0 rfl)) (rq apq (fr f.1 51 rfl)) (kq apq (fk f.1 52 rfl)) (by decide) ?_
      refine ex_iload ok_X12_lay (mi 53 rfl) rfl ?_
      refine ex_iload_n ok_X12_lay (mi 54 rfl) rfl ?_
      refine ex_iasta (a := 52) (j := 2) (v := (nI 2)) ok_X12_lay (mi 55 rfl) (fk f.1 52 rfl) (fn f.1 52 rfl) (pk_in 2 402 (by decide)) (by decide) (by decide) ?_
      refine ex_aload_n ok_X12_lay (mi 56 rfl) rfl ?_
      refine ex_getRx ok_X12_lay (mi 57 rfl) rfl rfl (kq apq (fk f.1 0 rfl)) (rq apq (fr f.1 52 rfl)) (kq apq (fk f.1 53 rfl)) (by decide) ?_
      refine ex_iconst ok_X12_lay (mi 58 rfl) ?_
      refine ex_iload ok_X12_lay (mi 59 rfl) rfl ?_
      refine ex_imul ok_X12_lay (mi 60 rfl) ?_
      refine ex_top (w := (nI 6)) (by decide) ?_
      refine ex_iload ok_X12_lay (mi 61 rfl) rfl ?_
      refine ex_iasta (a := 53) (j := 6) (v := (nI 0)) ok_X12_lay (mi 62 rfl) (fk f.1 53 rfl) (fn f.1 53 rfl) (pk_in 6 1206 (by decide)) (by decide) (by decide) ?_
      refine ex_aload_n ok_X12_lay (mi 63 rfl) rfl ?_
      refine ex_getRx ok_X12_lay (mi 64 rfl) rfl rfl (kq apq (fk f.1 0 rfl)) (rq apq (fr f.1 52 rfl)) (kq apq (fk f.1 53 rfl)) (by decide) ?_
      refine ex_iconst ok_X12_lay (mi 65 rfl) ?_
      refine ex_iload ok_X12_lay (mi 66 rfl) rfl ?_
      refine ex_imul ok_X12_lay (mi 67 rfl) ?_
      refine ex_top (w := (nI 6)) (by decide) ?_
      refine ex_iconst ok_X12_lay (mi 68 rfl) ?_
      refine ex_iadd ok_X12_lay (mi 69 rfl) ?_
      refine ex_top (w := (nI 7)) (by decide) ?_
      refine ex_iload ok_X12_lay (mi 70 rfl) rfl ?_
      refine ex_iasta (a := 53) (j := 7) (v := p1) ok_X12_lay (mi 71 rfl) (fk f.1 53 rfl) (fn f.1 53 rfl) (pk_in 7 1206 (by decide)) (by decide) rfl ?_
      refine ex_aload_n ok_X12_lay (mi 72 rfl) rfl ?_
      refine ex_getRx ok_X12_lay (mi 73 rfl) rfl rfl (kq apq (fk f.1 0 rfl)) (rq apq (fr f.1 52 rfl)) (kq apq (fk f.1 53 rfl)) (by decide) ?_
      refine ex_iconst ok_X12_lay (mi 74 rfl) ?_
      refine ex_iload ok_X12_lay (mi 75 rfl) rfl ?_
      refine ex_imul ok_X12_lay (mi 76 rfl) ?_
      refine ex_top (w := (nI 6)) (by decide) ?_
      refine ex_iconst ok_X12_lay (mi 77 rfl) ?_
      refine ex_iadd ok_X12_lay (mi 78 rfl) ?_
      refine ex_top (w := (nI 8)) (by decide) ?_
      refine ex_iload ok_X12_lay (mi 79 rfl) rfl ?_
      refine ex_iasta (a := 53) (j := 8) (v := p2) ok_X12_lay (mi 80 rfl) (fk f.1 53 rfl) (fn f.1 53 rfl) (pk_in 8 1206 (by decide)) (by decide) rfl ?_
      refine ex_aload_n ok_X12_lay (mi 81 rfl) rfl ?_
      refine ex_getRx ok_X12_lay (mi 82 rfl) rfl rfl (kq apq (fk f.1 0 rfl)) (rq apq (fr f.1 53 rfl)) (kq apq (fk f.1 54 rfl)) (by decide) ?_
      refine ex_iload ok_X12_lay (mi 83 rfl) rfl ?_
      refine ex_iconst ok_X12_lay (mi 84 rfl) ?_
      refine ex_iasta (a := 54) (j := 2) (v := (nI 0)) ok_X12_lay (mi 85 rfl) (fk f.1 54 rfl) (fn f.1 54 rfl) (pk_in 2 402 (by decide)) (by decide) (by decide) ?_
      refine ex_aload_n ok_X12_lay (mi 86 rfl) rfl ?_
      refine ex_getRx ok_X12_lay (mi 87 rfl) rfl rfl (kq apq (fk f.1 0 rfl)) (rq apq (fr f.1 54 rfl)) (kq apq (fk f.1 55 rfl)) (by decide) ?_
      refine ex_iconst ok_X12_lay (mi 88 rfl) ?_
      refine ex_iload ok_X12_lay (mi 89 rfl) rfl ?_
      refine ex_imul ok_X12_lay (mi 90 rfl) ?_
      refine ex_top (w := (nI 4)) (by decide) ?_
      refine ex_iconst ok_X12_lay (mi 91 rfl) ?_
      refine ex_iasta (a := 55) (j := 4) (v := (nI 0)) ok_X12_lay (mi 92 rfl) (fk f.1 55 rfl) (fn f.1 55 rfl) (pk_in 4 804 (by decide)) (by decide) (by decide) ?_
      refine ex_aload_n ok_X12_lay (mi 93 rfl) rfl ?_
      refine ex_getRx ok_X12_lay (mi 94 rfl) rfl rfl (kq apq (fk f.1 0 rfl)) (rq apq (fr f.1 54 rfl)) (kq apq (fk f.1 55 rfl)) (by decide) ?_
      refine ex_iconst ok_X12_lay (mi 95 rfl) ?_
      refine ex_iload ok_X12_lay (mi 96 rfl) rfl ?_
      refine ex_imul ok_X12_lay (mi 97 rfl) ?_
      refine ex_top (w := (nI 4)) (by decide) ?_
      refine ex_iconst ok_X12_lay (mi 98 rfl) ?_
      refine ex_iadd ok_X12_lay (mi 99 rfl) ?_
      refine ex_top (w := (nI 5)) (by decide) ?_
      refine ex_iconst ok_X12_lay (mi 100 rfl) ?_
      refine ex_iasta (a := 55) (j := 5) (v := (nI 0)) ok_X12_lay (mi 101 rfl) (fk f.1 55 rfl) (fn f.1 55 rfl) (pk_in 5 804 (by decide)) (by decide) (by decide) ?_
      refine ex_aload_n ok_X12_lay (mi 102 rfl) rfl ?_
      refine ex_iload ok_X12_lay (mi 103 rfl) rfl ?_
      refine ex_putIa (a := 0) (v := (nI 2)) ok_X12_lay (mi 104 rfl) rfl rfl (fk f.1 0 rfl) (by decide) ?_
      refine ex_iconst ok_X12_lay (mi 105 rfl) ?_
      refine ex_zret ok_X12_lay (mi 106 rfl) rfl (by decide) ?_
      exact ⟨inlI (by decide), rfl⟩
    refine ex_istore ok_X12_layAll (mi 19 rfl) ?_
    refine ex_iincx (w := (nI 3)) ok_X12_layAll (mi 20 rfl) rfl (by decide) ?_
    refine ex_iincx (w := (nI 3)) ok_X12_layAll (mi 21 rfl) rfl (by decide) ?_
    refine ex_goto (tgt := 6) ok_X12_layAll (mi 22 rfl) rfl ?_
    refine ex_ls (ls' := [(0, .ref x), (1, .int (nI 1)), (2, .int (nI 2)), (3, .int (nI 7)), (4, .int (nI 0)), (5, .int p1), (6, .int p2), (7, .int (nI 3)), (8, .int (nI 3)), (9, .int (nI 1))]) ⟨rfl, rfl, rfl, rfl, rfl, rfl, rfl, rfl, rfl, rfl, trivial⟩ ?_
    refine ex_iload ok_X12_layAll (mi 4 rfl) rfl ?_
    refine ex_bipush ok_X12_layAll (mi 5 rfl) ?_
    refine ex_icmp_ge (tgt := 47) ok_X12_layAll (mi 6 rfl) rfl (fun hn => absurd hn (by decide)) (fun _ => ?_)
    refine ex_iload_n ok_X12_layAll (mi 7 rfl) rfl ?_
    refine ex_iload ok_X12_layAll (mi 8 rfl) rfl ?_
    refine ex_callSr (As := [_, _]) (v := some (.int (nI 0))) (g1 := (ap x [(0, 0, 1258, 0, (nI 2)), (1, 55, 5, 0, (nI 0)), (1, 55, 4, 0, (nI 0)), (1, 54, 2, 0, (nI 0)), (1, 53, 8, 0, p2), (1, 53, 7, 0, p1), (1, 53, 6, 0, (nI 0)), (1, 52, 2, 0, (nI 2)), (1, 51, 2, 0, (nI 2)), (1, 50, 2, 0, (nI 1)), (0, 0, 1248, 0, (nI 3)), (1, 48, 2, 0, (nI 2)), (1, 49, 2, 0, (nI 1)), (0, 0, 1258, 0, (-1)), (0, 0, 1258, 0, (nI 1)), (1, 55, 3, 0, (nI 0)), (1, 55, 2, 0, (nI 0)), (1, 54, 1, 0, (nI 0)), (1, 53, 5, 0, p2), (1, 53, 4, 0, p1), (1, 53, 3, 0, (nI 0)), (1, 52, 1, 0, (nI 1)), (1, 51, 1, 0, (nI 2)), (1, 50, 1, 0, (nI 1)), (0, 0, 1248, 0, (nI 2)), (1, 48, 1, 0, (nI 1)), (1, 49, 1, 0, (nI 1)), (0, 0, 1258, 0, (-1)), (0, 0, 1258, 0, (nI 0)), (1, 55, 1, 0, (nI 0)), (1, 55, 0, 0, (nI 0)), (1, 54, 0, 0, (nI 0)), (1, 53, 2, 0, p2), (1, 53, 1, 0, p1), (1, 53, 0, 0, (nI 0)), (1, 52, 0, 0, (nI 0)), (1, 51, 0, 0, (nI 2)), (1, 50, 0, 0, (nI 1)), (0, 0, 1248, 0, (nI 1)), (1, 48, 0, 0, (nI 0)), (1, 49, 0, 0, (nI 1)), (0, 0, 1258, 0, (-1)), (0, 0, 1266, 0, (nI 1)), (1, 57, p1.toNatClampNeg, 0, p2), (1, 4, 2, 0, p2), (1, 3, 2, 0, p1), (1, 2, 2, 0, (nI 1)), (1, 25, 2, 0, (nI 0)), (1, 24, 2, 0, (nI 0)), (1, 23, 2, 0, (nI 0)), (1, 22, 2, 0, (nI 0)), (1, 21, 2, 0, (nI 0)), (1, 20, 2, 0, (nI 0)), (2, 12, 32, 48, ((-1))), (2, 16, 32, 48, (nI 0)), (2, 17, 32, 48, ((-1))), (2, 18, 32, 48, (nI 0)), (2, 19, 32, 48, (nI 0)), (1, 15, 2, 0, (nI 0)), (1, 14, 2, 0, (nI 0)), (1, 11, 2, 0, (nI 0)), (1, 10, 2, 0, (nI 0)), (2, 9, 600, 900, (nI 0)), (1, 8, 2, 0, (nI 0)), (1, 7, 2, 0, (nI 0)), (0, 0, 1200, 0, (nI 0))] h)) ok_X12_layAll (mi 9 rfl) rfl ?c rfl rfl rfl (by decide) (Nat.le_of_ble_eq_true rfl) (by decide) ?_
    case c =>
      refine ex_M_of ok_X12_has cw_X12_has rfl hst (Nat.le_of_ble_eq_true rfl) ?_
      refine ex_iload_n ok_X12_has (mi 0 rfl) rfl ?_
      refine ex_iload_n ok_X12_has (mi 1 rfl) rfl ?_
      refine ex_ishr ok_X12_has (mi 2 rfl) ?_
      refine ex_top (w := (nI 0)) (by decide) ?_
      refine ex_iconst ok_X12_has (mi 3 rfl) ?_
      refine ex_iand ok_X12_has (mi 4 rfl) ?_
      refine ex_top (w := (nI 0)) (by decide) ?_
      refine ex_iconst ok_X12_has (mi 5 rfl) ?_
      refine ex_icmp_ne (tgt := 13) ok_X12_has (mi 6 rfl) rfl (fun _ => ?_) (fun hn => absurd hn (by decide))
      refine ex_iconst ok_X12_has (mi 9 rfl) ?_
      refine ex_zret ok_X12_has (mi 10 rfl) rfl (by decide) ?_
      exact ⟨inlI (by decide), rfl⟩
    refine ex_if_eq (tgt := 41) ok_X12_layAll (mi 10 rfl) rfl (fun _ => ?_) (fun hn => absurd (by decide) hn)
    refine ex_iincx (w := (nI 4)) ok_X12_layAll (mi 21 rfl) rfl (by decide) ?_
    refine ex_goto (tgt := 6) ok_X12_layAll (mi 22 rfl) rfl ?_
    refine ex_ls (ls' := [(0, .ref x), (1, .int (nI 1)), (2, .int (nI 2)), (3, .int (nI 7)), (4, .int (nI 0)), (5, .int p1), (6, .int p2), (7, .int (nI 3)), (8, .int (nI 4)), (9, .int (nI 1))]) ⟨rfl, rfl, rfl, rfl, rfl, rfl, rfl, rfl, rfl, rfl, trivial⟩ ?_
    refine ex_iload ok_X12_layAll (mi 4 rfl) rfl ?_
    refine ex_bipush ok_X12_layAll (mi 5 rfl) ?_
    refine ex_icmp_ge (tgt := 47) ok_X12_layAll (mi 6 rfl) rfl (fun hn => absurd hn (by decide)) (fun _ => ?_)
    refine ex_iload_n ok_X12_layAll (mi 7 rfl) rfl ?_
    refine ex_iload ok_X12_layAll (mi 8 rfl) rfl ?_
    refine ex_callSr (As := [_, _]) (v := some (.int (nI 0))) (g1 := (ap x [(0, 0, 1258, 0, (nI 2)), (1, 55, 5, 0, (nI 0)), (1, 55, 4, 0, (nI 0)), (1, 54, 2, 0, (nI 0)), (1, 53, 8, 0, p2), (1, 53, 7, 0, p1), (1, 53, 6, 0, (nI 0)), (1, 52, 2, 0, (nI 2)), (1, 51, 2, 0, (nI 2)), (1, 50, 2, 0, (nI 1)), (0, 0, 1248, 0, (nI 3)), (1, 48, 2, 0, (nI 2)), (1, 49, 2, 0, (nI 1)), (0, 0, 1258, 0, (-1)), (0, 0, 1258, 0, (nI 1)), (1, 55, 3, 0, (nI 0)), (1, 55, 2, 0, (nI 0)), (1, 54, 1, 0, (nI 0)), (1, 53, 5, 0, p2), (1, 53, 4, 0, p1), (1, 53, 3, 0, (nI 0)), (1, 52, 1, 0, (nI 1)), (1, 51, 1, 0, (nI 2)), (1, 50, 1, 0, (nI 1)), (0, 0, 1248, 0, (nI 2)), (1, 48, 1, 0, (nI 1)), (1, 49, 1, 0, (nI 1)), (0, 0, 1258, 0, (-1)), (0, 0, 1258, 0, (nI 0)), (1, 55, 1, 0, (nI 0)), (1, 55, 0, 0, (nI 0)), (1, 54, 0, 0, (nI 0)), (1, 53, 2, 0, p2), (1, 53, 1, 0, p1), (1, 53, 0, 0, (nI 0)), (1, 52, 0, 0, (nI 0)), (1, 51, 0, 0, (nI 2)), (1, 50, 0, 0, (nI 1)), (0, 0, 1248, 0, (nI 1)), (1, 48, 0, 0, (nI 0)), (1, 49, 0, 0, (nI 1)), (0, 0, 1258, 0, (-1)), (0, 0, 1266, 0, (nI 1)), (1, 57, p1.toNatClampNeg, 0, p2), (1, 4, 2, 0, p2), (1, 3, 2, 0, p1), (1, 2, 2, 0, (nI 1)), (1, 25, 2, 0, (nI 0)), (1, 24, 2, 0, (nI 0)), (1, 23, 2, 0, (nI 0)), (1, 22, 2, 0, (nI 0)), (1, 21, 2, 0, (nI 0)), (1, 20, 2, 0, (nI 0)), (2, 12, 32, 48, ((-1))), (2, 16, 32, 48, (nI 0)), (2, 17, 32, 48, ((-1))), (2, 18, 32, 48, (nI 0)), (2, 19, 32, 48, (nI 0)), (1, 15, 2, 0, (nI 0)), (1, 14, 2, 0, (nI 0)), (1, 11, 2, 0, (nI 0)), (1, 10, 2, 0, (nI 0)), (2, 9, 600, 900, (nI 0)), (1, 8, 2, 0, (nI 0)), (1, 7, 2, 0, (nI 0)), (0, 0, 1200, 0, (nI 0))] h)) ok_X12_layAll (mi 9 rfl) rfl ?c rfl rfl rfl (by decide) (Nat.le_of_ble_eq_true rfl) (by decide) ?_
    case c =>
      refine ex_M_of ok_X12_has cw_X12_has rfl hst (Nat.le_of_ble_eq_true rfl) ?_
      refine ex_iload_n ok_X12_has (mi 0 rfl) rfl ?_
      refine ex_iload_n ok_X12_has (mi 1 rfl) rfl ?_
      refine ex_ishr ok_X12_has (mi 2 rfl) ?_
      refine ex_top (w := (nI 0)) (by decide) ?_
      refine ex_iconst ok_X12_has (mi 3 rfl) ?_
      refine ex_iand ok_X12_has (mi 4 rfl) ?_
      refine ex_top (w := (nI 0)) (by decide) ?_
      refine ex_iconst ok_X12_has (mi 5 rfl) ?_
      refine ex_icmp_ne (tgt := 13) ok_X12_has (mi 6 rfl) rfl (fun _ => ?_) (fun hn => absurd hn (by decide))
      refine ex_iconst ok_X12_has (mi 9 rfl) ?_
      refine ex_zret ok_X12_has (mi 10 rfl) rfl (by decide) ?_
      exact ⟨inlI (by decide), rfl⟩
    refine ex_if_eq (tgt := 41) ok_X12_layAll (mi 10 rfl) rfl (fun _ => ?_) (fun hn => absurd (by decide) hn)
    refine ex_iincx (w := (nI 5)) ok_X12_layAll (mi 21 rfl) rfl (by decide) ?_
    refine ex_goto (tgt := 6) ok_X12_layAll (mi 22 rfl) rfl ?_
    refine ex_ls (ls' := [(0, .ref x), (1, .int (nI 1)), (2, .int (nI 2)), (3, .int (nI 7)), (4, .int (nI 0)), (5, .int p1), (6, .int p2), (7, .int (nI 3)), (8, .int (nI 5)), (9, .int (nI 1))]) ⟨rfl, rfl, rfl, rfl, rfl, rfl, rfl, rfl, rfl, rfl, trivial⟩ ?_
    refine ex_iload ok_X12_layAll (mi 4 rfl) rfl ?_
    refine ex_bipush ok_X12_layAll (mi 5 rfl) ?_
    refine ex_icmp_ge (tgt := 47) ok_X12_layAll (mi 6 rfl) rfl (fun hn => absurd hn (by decide)) (fun _ => ?_)
    refine ex_iload_n ok_X12_layAll (mi 7 rfl) rfl ?_
    refine ex_iload ok_X12_layAll (mi 8 rfl) rfl ?_
    refine ex_callSr (As := [_, _]) (v := some (.int (nI 0))) (g1 := (ap x [(0, 0, 1258, 0, (nI 2)), (1, 55, 5, 0, (nI 0)), (1, 55, 4, 0, (nI 0)), (1, 54, 2, 0, (nI 0)), (1, 53, 8, 0, p2), (1, 53, 7, 0, p1), (1, 53, 6, 0, (nI 0)), (1, 52, 2, 0, (nI 2)), (1, 51, 2, 0, (nI 2)), (1, 50, 2, 0, (nI 1)), (0, 0, 1248, 0, (nI 3)), (1, 48, 2, 0, (nI 2)), (1, 49, 2, 0, (nI 1)), (0, 0, 1258, 0, (-1)), (0, 0, 1258, 0, (nI 1)), (1, 55, 3, 0, (nI 0)), (1, 55, 2, 0, (nI 0)), (1, 54, 1, 0, (nI 0)), (1, 53, 5, 0, p2), (1, 53, 4, 0, p1), (1, 53, 3, 0, (nI 0)), (1, 52, 1, 0, (nI 1)), (1, 51, 1, 0, (nI 2)), (1, 50, 1, 0, (nI 1)), (0, 0, 1248, 0, (nI 2)), (1, 48, 1, 0, (nI 1)), (1, 49, 1, 0, (nI 1)), (0, 0, 1258, 0, (-1)), (0, 0, 1258, 0, (nI 0)), (1, 55, 1, 0, (nI 0)), (1, 55, 0, 0, (nI 0)), (1, 54, 0, 0, (nI 0)), (1, 53, 2, 0, p2), (1, 53, 1, 0, p1), (1, 53, 0, 0, (nI 0)), (1, 52, 0, 0, (nI 0)), (1, 51, 0, 0, (nI 2)), (1, 50, 0, 0, (nI 1)), (0, 0, 1248, 0, (nI 1)), (1, 48, 0, 0, (nI 0)), (1, 49, 0, 0, (nI 1)), (0, 0, 1258, 0, (-1)), (0, 0, 1266, 0, (nI 1)), (1, 57, p1.toNatClampNeg, 0, p2), (1, 4, 2, 0, p2), (1, 3, 2, 0, p1), (1, 2, 2, 0, (nI 1)), (1, 25, 2, 0, (nI 0)), (1, 24, 2, 0, (nI 0)), (1, 23, 2, 0, (nI 0)), (1, 22, 2, 0, (nI 0)), (1, 21, 2, 0, (nI 0)), (1, 20, 2, 0, (nI 0)), (2, 12, 32, 48, ((-1))), (2, 16, 32, 48, (nI 0)), (2, 17, 32, 48, ((-1))), (2, 18, 32, 48, (nI 0)), (2, 19, 32, 48, (nI 0)), (1, 15, 2, 0, (nI 0)), (1, 14, 2, 0, (nI 0)), (1, 11, 2, 0, (nI 0)), (1, 10, 2, 0, (nI 0)), (2, 9, 600, 900, (nI 0)), (1, 8, 2, 0, (nI 0)), (1, 7, 2, 0, (nI 0)), (0, 0, 1200, 0, (nI 0))] h)) ok_X12_layAll (mi 9 rfl) rfl ?c rfl rfl rfl (by decide) (Nat.le_of_ble_eq_true rfl) (by decide) ?_
    case c =>
      refine ex_M_of ok_X12_has cw_X12_has rfl hst (Nat.le_of_ble_eq_true rfl) ?_
      refine ex_iload_n ok_X12_has (mi 0 rfl) rfl ?_
      refine ex_iload_n ok_X12_has (mi 1 rfl) rfl ?_
      refine ex_ishr ok_X12_has (mi 2 rfl) ?_
      refine ex_top (w := (nI 0)) (by decide) ?_
      refine ex_iconst ok_X12_has (mi 3 rfl) ?_
      refine ex_iand ok_X12_has (mi 4 rfl) ?_
      refine ex_top (w := (nI 0)) (by decide) ?_
      refine ex_iconst ok_X12_has (mi 5 rfl) ?_
      refine ex_icmp_ne (tgt := 13) ok_X12_has (mi 6 rfl) rfl (fun _ => ?_) (fun hn => absurd hn (by decide))
      refine ex_iconst ok_X12_has (mi 9 rfl) ?_
      refine ex_zret ok_X12_has (mi 10 rfl) rfl (by decide) ?_
      exact ⟨inlI (by decide), rfl⟩
    refine ex_if_eq (tgt := 41) ok_X12_layAll (mi 10 rfl) rfl (fun _ => ?_) (fun hn => absurd (by decide) hn)
    refine ex_iincx (w := (nI 6)) ok_X12_layAll (mi 21 rfl) rfl (by decide) ?_
    refine ex_goto (tgt := 6) ok_X12_layAll (mi 22 rfl) rfl ?_
    refine ex_ls (ls' := [(0, .ref x), (1, .int (nI 1)), (2, .int (nI 2)), (3, .int (nI 7)), (4, .int (nI 0)), (5, .int p1), (6, .int p2), (7, .int (nI 3)), (8, .int (nI 6)), (9, .int (nI 1))]) ⟨rfl, rfl, rfl, rfl, rfl, rfl, rfl, rfl, rfl, rfl, trivial⟩ ?_
    refine ex_iload ok_X12_layAll (mi 4 rfl) rfl ?_
    refine ex_bipush ok_X12_layAll (mi 5 rfl) ?_
    refine ex_icmp_ge (tgt := 47) ok_X12_layAll (mi 6 rfl) rfl (fun hn => absurd hn (by decide)) (fun _ => ?_)
    refine ex_iload_n ok_X12_layAll (mi 7 rfl) rfl ?_
    refine ex_iload ok_X12_layAll (mi 8 rfl) rfl ?_
    refine ex_callSr (As := [_, _]) (v := some (.int (nI 0))) (g1 := (ap x [(0, 0, 1258, 0, (nI 2)), (1, 55, 5, 0, (nI 0)), (1, 55, 4, 0, (nI 0)), (1, 54, 2, 0, (nI 0)), (1, 53, 8, 0, p2), (1, 53, 7, 0, p1), (1, 53, 6, 0, (nI 0)), (1, 52, 2, 0, (nI 2)), (1, 51, 2, 0, (nI 2)), (1, 50, 2, 0, (nI 1)), (0, 0, 1248, 0, (nI 3)), (1, 48, 2, 0, (nI 2)), (1, 49, 2, 0, (nI 1)), (0, 0, 1258, 0, (-1)), (0, 0, 1258, 0, (nI 1)), (1, 55, 3, 0, (nI 0)), (1, 55, 2, 0, (nI 0)), (1, 54, 1, 0, (nI 0)), (1, 53, 5, 0, p2), (1, 53, 4, 0, p1), (1, 53, 3, 0, (nI 0)), (1, 52, 1, 0, (nI 1)), (1, 51, 1, 0, (nI 2)), (1, 50, 1, 0, (nI 1)), (0, 0, 1248, 0, (nI 2)), (1, 48, 1, 0, (nI 1)), (1, 49, 1, 0, (nI 1)), (0, 0, 1258, 0, (-1)), (0, 0, 1258, 0, (nI 0)), (1, 55, 1, 0, (nI 0)), (1, 55, 0, 0, (nI 0)), (1, 54, 0, 0, (nI 0)), (1, 53, 2, 0, p2), (1, 53, 1, 0, p1), (1, 53, 0, 0, (nI 0)), (1, 52, 0, 0, (nI 0)), (1, 51, 0, 0, (nI 2)), (1, 50, 0, 0, (nI 1)), (0, 0, 1248, 0, (nI 1)), (1, 48, 0, 0, (nI 0)), (1, 49, 0, 0, (nI 1)), (0, 0, 1258, 0, (-1)), (0, 0, 1266, 0, (nI 1)), (1, 57, p1.toNatClampNeg, 0, p2), (1, 4, 2, 0, p2), (1, 3, 2, 0, p1), (1, 2, 2, 0, (nI 1)), (1, 25, 2, 0, (nI 0)), (1, 24, 2, 0, (nI 0)), (1, 23, 2, 0, (nI 0)), (1, 22, 2, 0, (nI 0)), (1, 21, 2, 0, (nI 0)), (1, 20, 2, 0, (nI 0)), (2, 12, 32, 48, ((-1))), (2, 16, 32, 48, (nI 0)), (2, 17, 32, 48, ((-1))), (2, 18, 32, 48, (nI 0)), (2, 19, 32, 48, (nI 0)), (1, 15, 2, 0, (nI 0)), (1, 14, 2, 0, (nI 0)), (1, 11, 2, 0, (nI 0)), (1, 10, 2, 0, (nI 0)), (2, 9, 600, 900, (nI 0)), (1, 8, 2, 0, (nI 0)), (1, 7, 2, 0, (nI 0)), (0, 0, 1200, 0, (nI 0))] h)) ok_X12_layAll (mi 9 rfl) rfl ?c rfl rfl rfl (by decide) (Nat.le_of_ble_eq_true rfl) (by decide) ?_
    case c =>
      refine ex_M_of ok_X12_has cw_X12_has rfl hst (Nat.le_of_ble_eq_true rfl) ?_
      refine ex_iload_n ok_X12_has (mi 0 rfl) rfl ?_
      refine ex_iload_n ok_X12_has (mi 1 rfl) rfl ?_
      refine ex_ishr ok_X12_has (mi 2 rfl) ?_
      refine ex_top (w := (nI 0)) (by decide) ?_
      refine ex_iconst ok_X12_has (mi 3 rfl) ?_
      refine ex_iand ok_X12_has (mi 4 rfl) ?_
      refine ex_top (w := (nI 0)) (by decide) ?_
      refine ex_iconst ok_X12_has (mi 5 rfl) ?_
      refine ex_icmp_ne (tgt := 13) ok_X12_has (mi 6 rfl) rfl (fun _ => ?_) (fun hn => absurd hn (by decide))
      refine ex_iconst ok_X12_has (mi 9 rfl) ?_
      refine ex_zret ok_X12_has (mi 10 rfl) rfl (by decide) ?_
      exact ⟨inlI (by decide), rfl⟩
    refine ex_if_eq (tgt := 41) ok_X12_layAll (mi 10 rfl) rfl (fun _ => ?_) (fun hn => absurd (by decide) hn)
    refine ex_iincx (w := (nI 7)) ok_X12_layAll (mi 21 rfl) rfl (by decide) ?_
    refine ex_goto (tgt := 6) ok_X12_layAll (mi 22 rfl) rfl ?_
    refine ex_ls (ls' := [(0, .ref x), (1, .int (nI 1)), (2, .int (nI 2)), (3, .int (nI 7)), (4, .int (nI 0)), (5, .int p1), (6, .int p2), (7, .int (nI 3)), (8, .int (nI 7)), (9, .int (nI 1))]) ⟨rfl, rfl, rfl, rfl, rfl, rfl, rfl, rfl, rfl, rfl, trivial⟩ ?_
    refine ex_iload ok_X12_layAll (mi 4 rfl) rfl ?_
    refine ex_bipush ok_X12_layAll (mi 5 rfl) ?_
    refine ex_icmp_ge (tgt := 47) ok_X12_layAll (mi 6 rfl) rfl (fun hn => absurd hn (by decide)) (fun _ => ?_)
    refine ex_iload_n ok_X12_layAll (mi 7 rfl) rfl ?_
    refine ex_iload ok_X12_layAll (mi 8 rfl) rfl ?_
    refine ex_callSr (As := [_, _]) (v := some (.int (nI 0))) (g1 := (ap x [(0, 0, 1258, 0, (nI 2)), (1, 55, 5, 0, (nI 0)), (1, 55, 4, 0, (nI 0)), (1, 54, 2, 0, (nI 0)), (1, 53, 8, 0, p2), (1, 53, 7, 0, p1), (1, 53, 6, 0, (nI 0)), (1, 52, 2, 0, (nI 2)), (1, 51, 2, 0, (nI 2)), (1, 50, 2, 0, (nI 1)), (0, 0, 1248, 0, (nI 3)), (1, 48, 2, 0, (nI 2)), (1, 49, 2, 0, (nI 1)), (0, 0, 1258, 0, (-1)), (0, 0, 1258, 0, (nI 1)), (1, 55, 3, 0, (nI 0)), (1, 55, 2, 0, (nI 0)), (1, 54, 1, 0, (nI 0)), (1, 53, 5, 0, p2), (1, 53, 4, 0, p1), (1, 53, 3, 0, (nI 0)), (1, 52, 1, 0, (nI 1)), (1, 51, 1, 0, (nI 2)), (1, 50, 1, 0, (nI 1)), (0, 0, 1248, 0, (nI 2)), (1, 48, 1, 0, (nI 1)), (1, 49, 1, 0, (nI 1)), (0, 0, 1258, 0, (-1)), (0, 0, 1258, 0, (nI 0)), (1, 55, 1, 0, (nI 0)), (1, 55, 0, 0, (nI 0)), (1, 54, 0, 0, (nI 0)), (1, 53, 2, 0, p2), (1, 53, 1, 0, p1), (1, 53, 0, 0, (nI 0)), (1, 52, 0, 0, (nI 0)), (1, 51, 0, 0, (nI 2)), (1, 50, 0, 0, (nI 1)), (0, 0, 1248, 0, (nI 1)), (1, 48, 0, 0, (nI 0)), (1, 49, 0, 0, (nI 1)), (0, 0, 1258, 0, (-1)), (0, 0, 1266, 0, (nI 1)), (1, 57, p1.toNatClampNeg, 0, p2), (1, 4, 2, 0, p2), (1, 3, 2, 0, p1), (1, 2, 2, 0, (nI 1)), (1, 25, 2, 0, (nI 0)), (1, 24, 2, 0, (nI 0)), (1, 23, 2, 0, (nI 0)), (1, 22, 2, 0, (nI 0)), (1, 21, 2, 0, (nI 0)), (1, 20, 2, 0, (nI 0)), (2, 12, 32, 48, ((-1))), (2, 16, 32, 48, (nI 0)), (2, 17, 32, 48, ((-1))), (2, 18, 32, 48, (nI 0)), (2, 19, 32, 48, (nI 0)), (1, 15, 2, 0, (nI 0)), (1, 14, 2, 0, (nI 0)), (1, 11, 2, 0, (nI 0)), (1, 10, 2, 0, (nI 0)), (2, 9, 600, 900, (nI 0)), (1, 8, 2, 0, (nI 0)), (1, 7, 2, 0, (nI 0)), (0, 0, 1200, 0, (nI 0))] h)) ok_X12_layAll (mi 9 rfl) rfl ?c rfl rfl rfl (by decide) (Nat.le_of_ble_eq_true rfl) (by decide) ?_
    case c =>
      refine ex_M_of ok_X12_has cw_X12_has rfl hst (Nat.le_of_ble_eq_true rfl) ?_
      refine ex_iload_n ok_X12_has (mi 0 rfl) rfl ?_
      refine ex_iload_n ok_X12_has (mi 1 rfl) rfl ?_
      refine ex_ishr ok_X12_has (mi 2 rfl) ?_
      refine ex_top (w := (nI 0)) (by decide) ?_
      refine ex_iconst ok_X12_has (mi 3 rfl) ?_
      refine ex_iand ok_X12_has (mi 4 rfl) ?_
      refine ex_top (w := (nI 0)) (by decide) ?_
      refine ex_iconst ok_X12_has (mi 5 rfl) ?_
      refine ex_icmp_ne (tgt := 13) ok_X12_has (mi 6 rfl) rfl (fun _ => ?_) (fun hn => absurd hn (by decide))
      refine ex_iconst ok_X12_has (mi 9 rfl) ?_
      refine ex_zret ok_X12_has (mi 10 rfl) rfl (by decide) ?_
      exact ⟨inlI (by decide), rfl⟩
    refine ex_if_eq (tgt := 41) ok_X12_layAll (mi 10 rfl) rfl (fun _ => ?_) (fun hn => absurd (by decide) hn)
    refine ex_iincx (w := (nI 8)) ok_X12_layAll (mi 21 rfl) rfl (by decide) ?_
    refine ex_goto (tgt := 6) ok_X12_layAll (mi 22 rfl) rfl ?_
    refine ex_ls (ls' := [(0, .ref x), (1, .int (nI 1)), (2, .int (nI 2)), (3, .int (nI 7)), (4, .int (nI 0)), (5, .int p1), (6, .int p2), (7, .int (nI 3)), (8, .int (nI 8)), (9, .int (nI 1))]) ⟨rfl, rfl, rfl, rfl, rfl, rfl, rfl, rfl, rfl, rfl, trivial⟩ ?_
    refine ex_iload ok_X12_layAll (mi 4 rfl) rfl ?_
    refine ex_bipush ok_X12_layAll (mi 5 rfl) ?_
    refine ex_icmp_ge (tgt := 47) ok_X12_layAll (mi 6 rfl) rfl (fun hn => absurd hn (by decide)) (fun _ => ?_)
    refine ex_iload_n ok_X12_layAll (mi 7 rfl) rfl ?_
    refine ex_iload ok_X12_layAll (mi 8 rfl) rfl ?_
    refine ex_callSr (As := [_, _]) (v := some (.int (nI 0))) (g1 := (ap x [(0, 0, 1258, 0, (nI 2)), (1, 55, 5, 0, (nI 0)), (1, 55, 4, 0, (nI 0)), (1, 54, 2, 0, (nI 0)), (1, 53, 8, 0, p2), (1, 53, 7, 0, p1), (1, 53, 6, 0, (nI 0)), (1, 52, 2, 0, (nI 2)), (1, 51, 2, 0, (nI 2)), (1, 50, 2, 0, (nI 1)), (0, 0, 1248, 0, (nI 3)), (1, 48, 2, 0, (nI 2)), (1, 49, 2, 0, (nI 1)), (0, 0, 1258, 0, (-1)), (0, 0, 1258, 0, (nI 1)), (1, 55, 3, 0, (nI 0)), (1, 55, 2, 0, (nI 0)), (1, 54, 1, 0, (nI 0)), (1, 53, 5, 0, p2), (1, 53, 4, 0, p1), (1, 53, 3, 0, (nI 0)), (1, 52, 1, 0, (nI 1)), (1, 51, 1, 0, (nI 2)), (1, 50, 1, 0, (nI 1)), (0, 0, 1248, 0, (nI 2)), (1, 48, 1, 0, (nI 1)), (1, 49, 1, 0, (nI 1)), (0, 0, 1258, 0, (-1)), (0, 0, 1258, 0, (nI 0)), (1, 55, 1, 0, (nI 0)), (1, 55, 0, 0, (nI 0)), (1, 54, 0, 0, (nI 0)), (1, 53, 2, 0, p2), (1, 53, 1, 0, p1), (1, 53, 0, 0, (nI 0)), (1, 52, 0, 0, (nI 0)), (1, 51, 0, 0, (nI 2)), (1, 50, 0, 0, (nI 1)), (0, 0, 1248, 0, (nI 1)), (1, 48, 0, 0, (nI 0)), (1, 49, 0, 0, (nI 1)), (0, 0, 1258, 0, (-1)), (0, 0, 1266, 0, (nI 1)), (1, 57, p1.toNatClampNeg, 0, p2), (1, 4, 2, 0, p2), (1, 3, 2, 0, p1), (1, 2, 2, 0, (nI 1)), (1, 25, 2, 0, (nI 0)), (1, 24, 2, 0, (nI 0)), (1, 23, 2, 0, (nI 0)), (1, 22, 2, 0, (nI 0)), (1, 21, 2, 0, (nI 0)), (1, 20, 2, 0, (nI 0)), (2, 12, 32, 48, ((-1))), (2, 16, 32, 48, (nI 0)), (2, 17, 32, 48, ((-1))), (2, 18, 32, 48, (nI 0)), (2, 19, 32, 48, (nI 0)), (1, 15, 2, 0, (nI 0)), (1, 14, 2, 0, (nI 0)), (1, 11, 2, 0, (nI 0)), (1, 10, 2, 0, (nI 0)), (2, 9, 600, 900, (nI 0)), (1, 8, 2, 0, (nI 0)), (1, 7, 2, 0, (nI 0)), (0, 0, 1200, 0, (nI 0))] h)) ok_X12_layAll (mi 9 rfl) rfl ?c rfl rfl rfl (by decide) (Nat.le_of_ble_eq_true rfl) (by decide) ?_
    case c =>
      refine ex_M_of ok_X12_has cw_X12_has rfl hst (Nat.le_of_ble_eq_true rfl) ?_
      refine ex_iload_n ok_X12_has (mi 0 rfl) rfl ?_
      refine ex_iload_n ok_X12_has (mi 1 rfl) rfl ?_
      refine ex_ishr ok_X12_has (mi 2 rfl) ?_
      refine ex_top (w := (nI 0)) (by decide) ?_
      refine ex_iconst ok_X12_has (mi 3 rfl) ?_
      refine ex_iand ok_X12_has (mi 4 rfl) ?_
      refine ex_top (w := (nI 0)) (by decide) ?_
      refine ex_iconst ok_X12_has (mi 5 rfl) ?_
      refine ex_icmp_ne (tgt := 13) ok_X12_has (mi 6 rfl) rfl (fun _ => ?_) (fun hn => absurd hn (by decide))
      refine ex_iconst ok_X12_has (mi 9 rfl) ?_
      refine ex_zret ok_X12_has (mi 10 rfl) rfl (by decide) ?_
      exact ⟨inlI (by decide), rfl⟩
    refine ex_if_eq (tgt := 41) ok_X12_layAll (mi 10 rfl) rfl (fun _ => ?_) (fun hn => absurd (by decide) hn)
    refine ex_iincx (w := (nI 9)) ok_X12_layAll (mi 21 rfl) rfl (by decide) ?_
    refine ex_goto (tgt := 6) ok_X12_layAll (mi 22 rfl) rfl ?_
    refine ex_ls (ls' := [(0, .ref x), (1, .int (nI 1)), (2, .int (nI 2)), (3, .int (nI 7)), (4, .int (nI 0)), (5, .int p1), (6, .int p2), (7, .int (nI 3)), (8, .int (nI 9)), (9, .int (nI 1))]) ⟨rfl, rfl, rfl, rfl, rfl, rfl, rfl, rfl, rfl, rfl, trivial⟩ ?_
    refine ex_iload ok_X12_layAll (mi 4 rfl) rfl ?_
    refine ex_bipush ok_X12_layAll (mi 5 rfl) ?_
    refine ex_icmp_ge (tgt := 47) ok_X12_layAll (mi 6 rfl) rfl (fun hn => absurd hn (by decide)) (fun _ => ?_)
    refine ex_iload_n ok_X12_layAll (mi 7 rfl) rfl ?_
    refine ex_iload ok_X12_layAll (mi 8 rfl) rfl ?_
    refine ex_callSr (As := [_, _]) (v := some (.int (nI 0))) (g1 := (ap x [(0, 0, 1258, 0, (nI 2)), (1, 55, 5, 0, (nI 0)), (1, 55, 4, 0, (nI 0)), (1, 54, 2, 0, (nI 0)), (1, 53, 8, 0, p2), (1, 53, 7, 0, p1), (1, 53, 6, 0, (nI 0)), (1, 52, 2, 0, (nI 2)), (1, 51, 2, 0, (nI 2)), (1, 50, 2, 0, (nI 1)), (0, 0, 1248, 0, (nI 3)), (1, 48, 2, 0, (nI 2)), (1, 49, 2, 0, (nI 1)), (0, 0, 1258, 0, (-1)), (0, 0, 1258, 0, (nI 1)), (1, 55, 3, 0, (nI 0)), (1, 55, 2, 0, (nI 0)), (1, 54, 1, 0, (nI 0)), (1, 53, 5, 0, p2), (1, 53, 4, 0, p1), (1, 53, 3, 0, (nI 0)), (1, 52, 1, 0, (nI 1)), (1, 51, 1, 0, (nI 2)), (1, 50, 1, 0, (nI 1)), (0, 0, 1248, 0, (nI 2)), (1, 48, 1, 0, (nI 1)), (1, 49, 1, 0, (nI 1)), (0, 0, 1258, 0, (-1)), (0, 0, 1258, 0, (nI 0)), (1, 55, 1, 0, (nI 0)), (1, 55, 0, 0, (nI 0)), (1, 54, 0, 0, (nI 0)), (1, 53, 2, 0, p2), (1, 53, 1, 0, p1), (1, 53, 0, 0, (nI 0)), (1, 52, 0, 0, (nI 0)), (1, 51, 0, 0, (nI 2)), (1, 50, 0, 0, (nI 1)), (0, 0, 1248, 0, (nI 1)), (1, 48, 0, 0, (nI 0)), (1, 49, 0, 0, (nI 1)), (0, 0, 1258, 0, (-1)), (0, 0, 1266, 0, (nI 1)), (1, 57, p1.toNatClampNeg, 0, p2), (1, 4, 2, 0, p2), (1, 3, 2, 0, p1), (1, 2, 2, 0, (nI 1)), (1, 25, 2, 0, (nI 0)), (1, 24, 2, 0, (nI 0)), (1, 23, 2, 0, (nI 0)), (1, 22, 2, 0, (nI 0)), (1, 21, 2, 0, (nI 0)), (1, 20, 2, 0, (nI 0)), (2, 12, 32, 48, ((-1))), (2, 16, 32, 48, (nI 0)), (2, 17, 32, 48, ((-1))), (2, 18, 32, 48, (nI 0)), (2, 19, 32, 48, (nI 0)), (1, 15, 2, 0, (nI 0)), (1, 14, 2, 0, (nI 0)), (1, 11, 2, 0, (nI 0)), (1, 10, 2, 0, (nI 0)), (2, 9, 600, 900, (nI 0)), (1, 8, 2, 0, (nI 0)), (1, 7, 2, 0, (nI 0)), (0, 0, 1200, 0, (nI 0))] h)) ok_X12_layAll (mi 9 rfl) rfl ?c rfl rfl rfl (by decide) (Nat.le_of_ble_eq_true rfl) (by decide) ?_
    case c =>
      refine ex_M_of ok_X12_has cw_X12_has rfl hst (Nat.le_of_ble_eq_true rfl) ?_
      refine ex_iload_n ok_X12_has (mi 0 rfl) rfl ?_
      refine ex_iload_n ok_X12_has (mi 1 rfl) rfl ?_
      refine ex_ishr ok_X12_has (mi 2 rfl) ?_
      refine ex_top (w := (nI 0)) (by decide) ?_
      refine ex_iconst ok_X12_has (mi 3 rfl) ?_
      refine ex_iand ok_X12_has (mi 4 rfl) ?_
      refine ex_top (w := (nI 0)) (by decide) ?_
      refine ex_iconst ok_X12_has (mi 5 rfl) ?_
      refine ex_icmp_ne (tgt := 13) ok_X12_has (mi 6 rfl) rfl (fun _ => ?_) (fun hn => absurd hn (by decide))
      refine ex_iconst ok_X12_has (mi 9 rfl) ?_
      refine ex_zret ok_X12_has (mi 10 rfl) rfl (by decide) ?_
      exact ⟨inlI (by decide), rfl⟩
    refine ex_if_eq (tgt := 41) ok_X12_layAll (mi 10 rfl) rfl (fun _ => ?_) (fun hn => absurd (by decide) hn)
    refine ex_iincx (w := (nI 10)) ok_X12_layAll (mi 21 rfl) rfl (by decide) ?_
    refine ex_goto (tgt := 6) ok_X12_layAll (mi 22 rfl) rfl ?_
    refine ex_ls (ls' := [(0, .ref x), (1, .int (nI 1)), (2, .int (nI 2)), (3, .int (nI 7)), (4, .int (nI 0)), (5, .int p1), (6, .int p2), (7, .int (nI 3)), (8, .int (nI 10)), (9, .int (nI 1))]) ⟨rfl, rfl, rfl, rfl, rfl, rfl, rfl, rfl, rfl, rfl, trivial⟩ ?_
    refine ex_iload ok_X12_layAll (mi 4 rfl) rfl ?_
    refine ex_bipush ok_X12_layAll (mi 5 rfl) ?_
    refine ex_icmp_ge (tgt := 47) ok_X12_layAll (mi 6 rfl) rfl (fun hn => absurd hn (by decide)) (fun _ => ?_)
    refine ex_iload_n ok_X12_layAll (mi 7 rfl) rfl ?_
    refine ex_iload ok_X12_layAll (mi 8 rfl) rfl ?_
    refine ex_callSr (As := [_, _]) (v := some (.int (nI 0))) (g1 := (ap x [(0, 0, 1258, 0, (nI 2)), (1, 55, 5, 0, (nI 0)), (1, 55, 4, 0, (nI 0)), (1, 54, 2, 0, (nI 0)), (1, 53, 8, 0, p2), (1, 53, 7, 0, p1), (1, 53, 6, 0, (nI 0)), (1, 52, 2, 0, (nI 2)), (1, 51, 2, 0, (nI 2)), (1, 50, 2, 0, (nI 1)), (0, 0, 1248, 0, (nI 3)), (1, 48, 2, 0, (nI 2)), (1, 49, 2, 0, (nI 1)), (0, 0, 1258, 0, (-1)), (0, 0, 1258, 0, (nI 1)), (1, 55, 3, 0, (nI 0)), (1, 55, 2, 0, (nI 0)), (1, 54, 1, 0, (nI 0)), (1, 53, 5, 0, p2), (1, 53, 4, 0, p1), (1, 53, 3, 0, (nI 0)), (1, 52, 1, 0, (nI 1)), (1, 51, 1, 0, (nI 2)), (1, 50, 1, 0, (nI 1)), (0, 0, 1248, 0, (nI 2)), (1, 48, 1, 0, (nI 1)), (1, 49, 1, 0, (nI 1)), (0, 0, 1258, 0, (-1)), (0, 0, 1258, 0, (nI 0)), (1, 55, 1, 0, (nI 0)), (1, 55, 0, 0, (nI 0)), (1, 54, 0, 0, (nI 0)), (1, 53, 2, 0, p2), (1, 53, 1, 0, p1), (1, 53, 0, 0, (nI 0)), (1, 52, 0, 0, (nI 0)), (1, 51, 0, 0, (nI 2)), (1, 50, 0, 0, (nI 1)), (0, 0, 1248, 0, (nI 1)), (1, 48, 0, 0, (nI 0)), (1, 49, 0, 0, (nI 1)), (0, 0, 1258, 0, (-1)), (0, 0, 1266, 0, (nI 1)), (1, 57, p1.toNatClampNeg, 0, p2), (1, 4, 2, 0, p2), (1, 3, 2, 0, p1), (1, 2, 2, 0, (nI 1)), (1, 25, 2, 0, (nI 0)), (1, 24, 2, 0, (nI 0)), (1, 23, 2, 0, (nI 0)), (1, 22, 2, 0, (nI 0)), (1, 21, 2, 0, (nI 0)), (1, 20, 2, 0, (nI 0)), (2, 12, 32, 48, ((-1))), (2, 16, 32, 48, (nI 0)), (2, 17, 32, 48, ((-1))), (2, 18, 32, 48, (nI 0)), (2, 19, 32, 48, (nI 0)), (1, 15, 2, 0, (nI 0)), (1, 14, 2, 0, (nI 0)), (1, 11, 2, 0, (nI 0)), (1, 10, 2, 0, (nI 0)), (2, 9, 600, 900, (nI 0)), (1, 8, 2, 0, (nI 0)), (1, 7, 2, 0, (nI 0)), (0, 0, 1200, 0, (nI 0))] h)) ok_X12_layAll (mi 9 rfl) rfl ?c rfl rfl rfl (by decide) (Nat.le_of_ble_eq_true rfl) (by decide) ?_
    case c =>
      refine ex_M_of ok_X12_has cw_X12_has rfl hst (Nat.le_of_ble_eq_true rfl) ?_
      refine ex_iload_n ok_X12_has (mi 0 rfl) rfl ?_
      refine ex_iload_n ok_X12_has (mi 1 rfl) rfl ?_
      refine ex_ishr ok_X12_has (mi 2 rfl) ?_
      refine ex_top (w := (nI 0)) (by decide) ?_
      refine ex_iconst ok_X12_has (mi 3 rfl) ?_
      refine ex_iand ok_X12_has (mi 4 rfl) ?_
      refine ex_top (w := (nI 0)) (by decide) ?_
      refine ex_iconst ok_X12_has (mi 5 rfl) ?_
      refine ex_icmp_ne (tgt := 13) ok_X12_has (mi 6 rfl) rfl (fun _ => ?_) (fun hn => absurd hn (by decide))
      refine ex_iconst ok_X12_has (mi 9 rfl) ?_
      refine ex_zret ok_X12_has (mi 10 rfl) rfl (by decide) ?_
      exact ⟨inlI (by decide), rfl⟩
    refine ex_if_eq (tgt := 41) ok_X12_layAll (mi 10 rfl) rfl (fun _ => ?_) (fun hn => absurd (by decide) hn)
    refine ex_iincx (w := (nI 11)) ok_X12_layAll (mi 21 rfl) rfl (by decide) ?_
    refine ex_goto (tgt := 6) ok_X12_layAll (mi 22 rfl) rfl ?_
    refine ex_ls (ls' := [(0, .ref x), (1, .int (nI 1)), (2, .int (nI 2)), (3, .int (nI 7)), (4, .int (nI 0)), (5, .int p1), (6, .int p2), (7, .int (nI 3)), (8, .int (nI 11)), (9, .int (nI 1))]) ⟨rfl, rfl, rfl, rfl, rfl, rfl, rfl, rfl, rfl, rfl, trivial⟩ ?_
    refine ex_iload ok_X12_layAll (mi 4 rfl) rfl ?_
    refine ex_bipush ok_X12_layAll (mi 5 rfl) ?_
    refine ex_icmp_ge (tgt := 47) ok_X12_layAll (mi 6 rfl) rfl (fun hn => absurd hn (by decide)) (fun _ => ?_)
    refine ex_iload_n ok_X12_layAll (mi 7 rfl) rfl ?_
    refine ex_iload ok_X12_layAll (mi 8 rfl) rfl ?_
    refine ex_callSr (As := [_, _]) (v := some (.int (nI 0))) (g1 := (ap x [(0, 0, 1258, 0, (nI 2)), (1, 55, 5, 0, (nI 0)), (1, 55, 4, 0, (nI 0)), (1, 54, 2, 0, (nI 0)), (1, 53, 8, 0, p2), (1, 53, 7, 0, p1), (1, 53, 6, 0, (nI 0)), (1, 52, 2, 0, (nI 2)), (1, 51, 2, 0, (nI 2)), (1, 50, 2, 0, (nI 1)), (0, 0, 1248, 0, (nI 3)), (1, 48, 2, 0, (nI 2)), (1, 49, 2, 0, (nI 1)), (0, 0, 1258, 0, (-1)), (0, 0, 1258, 0, (nI 1)), (1, 55, 3, 0, (nI 0)), (1, 55, 2, 0, (nI 0)), (1, 54, 1, 0, (nI 0)), (1, 53, 5, 0, p2), (1, 53, 4, 0, p1), (1, 53, 3, 0, (nI 0)), (1, 52, 1, 0, (nI 1)), (1, 51, 1, 0, (nI 2)), (1, 50, 1, 0, (nI 1)), (0, 0, 1248, 0, (nI 2)), (1, 48, 1, 0, (nI 1)), (1, 49, 1, 0, (nI 1)), (0, 0, 1258, 0, (-1)), (0, 0, 1258, 0, (nI 0)), (1, 55, 1, 0, (nI 0)), (1, 55, 0, 0, (nI 0)), (1, 54, 0, 0, (nI 0)), (1, 53, 2, 0, p2), (1, 53, 1, 0, p1), (1, 53, 0, 0, (nI 0)), (1, 52, 0, 0, (nI 0)), (1, 51, 0, 0, (nI 2)), (1, 50, 0, 0, (nI 1)), (0, 0, 1248, 0, (nI 1)), (1, 48, 0, 0, (nI 0)), (1, 49, 0, 0, (nI 1)), (0, 0, 1258, 0, (-1)), (0, 0, 1266, 0, (nI 1)), (1, 57, p1.toNatClampNeg, 0, p2), (1, 4, 2, 0, p2), (1, 3, 2, 0, p1), (1, 2, 2, 0, (nI 1)), (1, 25, 2, 0, (nI 0)), (1, 24, 2, 0, (nI 0)), (1, 23, 2, 0, (nI 0)), (1, 22, 2, 0, (nI 0)), (1, 21, 2, 0, (nI 0)), (1, 20, 2, 0, (nI 0)), (2, 12, 32, 48, ((-1))), (2, 16, 32, 48, (nI 0)), (2, 17, 32, 48, ((-1))), (2, 18, 32, 48, (nI 0)), (2, 19, 32, 48, (nI 0)), (1, 15, 2, 0, (nI 0)), (1, 14, 2, 0, (nI 0)), (1, 11, 2, 0, (nI 0)), (1, 10, 2, 0, (nI 0)), (2, 9, 600, 900, (nI 0)), (1, 8, 2, 0, (nI 0)), (1, 7, 2, 0, (nI 0)), (0, 0, 1200, 0, (nI 0))] h)) ok_X12_layAll (mi 9 rfl) rfl ?c rfl rfl rfl (by decide) (Nat.le_of_ble_eq_true rfl) (by decide) ?_
    case c =>
      refine ex_M_of ok_X12_has cw_X12_has rfl hst (Nat.le_of_ble_eq_true rfl) ?_
      refine ex_iload_n ok_X12_has (mi 0 rfl) rfl ?_
      refine ex_iload_n ok_X12_has (mi 1 rfl) rfl ?_
      refine ex_ishr ok_X12_has (mi 2 rfl) ?_
      refine ex_top (w := (nI 0)) (by decide) ?_
      refine ex_iconst ok_X12_has (mi 3 rfl) ?_
      refine ex_iand ok_X12_has (mi 4 rfl) ?_
      refine ex_top (w := (nI 0)) (by decide) ?_
      refine ex_iconst ok_X12_has (mi 5 rfl) ?_
      refine ex_icmp_ne (tgt := 13) ok_X12_has (mi 6 rfl) rfl (fun _ => ?_) (fun hn => absurd hn (by decide))
      refine ex_iconst ok_X12_has (mi 9 rfl) ?_
      refine ex_zret ok_X12_has (mi 10 rfl) rfl (by decide) ?_
      exact ⟨inlI (by decide), rfl⟩
    refine ex_if_eq (tgt := 41) ok_X12_layAll (mi 10 rfl) rfl (fun _ => ?_) (fun hn => absurd (by decide) hn)
    refine ex_iincx (w := (nI 12)) ok_X12_layAll (mi 21 rfl) rfl (by decide) ?_
    refine ex_goto (tgt := 6) ok_X12_layAll (mi 22 rfl) rfl ?_
    refine ex_ls (ls' := [(0, .ref x), (1, .int (nI 1)), (2, .int (nI 2)), (3, .int (nI 7)), (4, .int (nI 0)), (5, .int p1), (6, .int p2), (7, .int (nI 3)), (8, .int (nI 12)), (9, .int (nI 1))]) ⟨rfl, rfl, rfl, rfl, rfl, rfl, rfl, rfl, rfl, rfl, trivial⟩ ?_
    refine ex_iload ok_X12_layAll (mi 4 rfl) rfl ?_
    refine ex_bipush ok_X12_layAll (mi 5 rfl) ?_
    refine ex_icmp_ge (tgt := 47) ok_X12_layAll (mi 6 rfl) rfl (fun _ => ?_) (fun hn => absurd (by decide) hn)
    refine ex_iload ok_X12_layAll (mi 23 rfl) rfl ?_
    refine ex_iret ok_X12_layAll (mi 24 rfl) rfl ?_
    exact ⟨inlI (by decide), rfl⟩
  refine ex_istore ok_X12_begin (mi 96 rfl) ?_
  refine ex_aload_n ok_X12_begin (mi 97 rfl) rfl ?_
  refine ex_getIx ok_X12_begin (mi 98 rfl) rfl rfl (kq apq (fk f.1 0 rfl)) (apI (a := 0) rfl) ?_
  refine ex_iret ok_X12_begin (mi 99 rfl) rfl ?_
  exact ⟨_, rfl, fun _ => by decide, apI (a := 0) rfl, kq apq (fk f.1 0 rfl), kp_ap rfl⟩
