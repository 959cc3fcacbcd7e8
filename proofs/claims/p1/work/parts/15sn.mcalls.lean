theorem d_vote_1_1 {G : GE} (hst : (ge_l G).stackTraces = false) {x : Nat} {j : Nat} (hj : j < 16) : MM G 2 0 0 my_X12_vote x [.int (nI 1), .int (nI j), .int (nI 1)] 0 ((-1)) := by
  intro h f
  refine ex_M_of ok_X12_vote cw_X12_vote rfl hst (Nat.le_of_ble_eq_true rfl) ?_
  refine ex_aload_n ok_X12_vote (mi 0 rfl) rfl ?_
  refine ex_iload_n ok_X12_vote (mi 1 rfl) rfl ?_
  refine ex_iconst ok_X12_vote (mi 2 rfl) ?_
  refine ex_bipush ok_X12_vote (mi 3 rfl) ?_
  refine ex_callSr (As := [_, _, _]) ok_X12_vote (mi 4 rfl) rfl (m_in1 hst (by decide) (by decide)) rfl rfl rfl (by decide) (Nat.le_of_ble_eq_true rfl) (by decide) ?_
  refine ex_if_eq (tgt := 25) ok_X12_vote (mi 5 rfl) rfl (fun hn => absurd hn (by decide)) (fun _ => ?_)
  refine ex_iload_n ok_X12_vote (mi 6 rfl) rfl ?_
  refine ex_iconst ok_X12_vote (mi 7 rfl) ?_
  refine ex_bipush ok_X12_vote (mi 8 rfl) ?_
  refine ex_callSr (As := [_, _, _]) ok_X12_vote (mi 9 rfl) rfl (m_in1 hst (vlo (vp_in_nI hj (by decide)) (by decide)) (vhi (vp_in_nI hj (by decide)) (by decide))) rfl rfl rfl (by decide) (Nat.le_of_ble_eq_true rfl) (by decide) ?_
  refine ex_if_eq (tgt := 25) ok_X12_vote (mi 10 rfl) rfl (fun hn => absurd hn (by decide)) (fun _ => ?_)
  refine ex_iconst ok_X12_vote (mi 11 rfl) ?_
  refine ex_goto (tgt := 26) ok_X12_vote (mi 12 rfl) rfl ?_
  refine ex_iconst ok_X12_vote (mi 14 rfl) ?_
  refine ex_iconst ok_X12_vote (mi 15 rfl) ?_
  refine ex_callVr (As := [_, _, _]) (v := some (.int (nI 0))) (g1 := (ap x [(0, 0, 1200, 0, (nI 0))] h)) ok_X12_vote (mi 16 rfl) rfl (m_ref111 (ws := []) hst f.1) rfl (fk f.1 0 rfl) rfl rfl (by decide) (by decide) (Nat.le_of_ble_eq_true rfl) (by decide) ?_
  refine ex_if_eq (tgt := 36) ok_X12_vote (mi 17 rfl) rfl (fun _ => ?_) (fun hn => absurd (by decide) hn)
  refine ex_bipush ok_X12_vote (mi 20 rfl) ?_
  refine ex_iload_n ok_X12_vote (mi 21 rfl) rfl ?_
  refine ex_imul ok_X12_vote (mi 22 rfl) ?_
  refine ex_top (w := (nI 16)) (by decide) ?_
  refine ex_iload_n ok_X12_vote (mi 23 rfl) rfl ?_
  refine ex_iadd ok_X12_vote (mi 24 rfl) ?_
  refine ex_top (w := (nI (16 + j))) (nI_add 16 j) ?_
  refine ex_istore ok_X12_vote (mi 25 rfl) ?_
  refine ex_aload_n ok_X12_vote (mi 26 rfl) rfl ?_
  refine ex_getRx ok_X12_vote (mi 27 rfl) rfl rfl (kq apq (fk f.1 0 rfl)) (rq apq (fr f.1 44 rfl)) (kq apq (fk f.1 45 rfl)) (by decide) ?_
  refine ex_iload ok_X12_vote (mi 28 rfl) rfl ?_
  refine ex_ialdx ok_X12_vote (mi 29 rfl) (Or.inl (kq apq (fk f.1 45 rfl))) (nq apq (fn f.1 45 rfl)) (vp_in_nI (by omega) (by decide)) (apA0 (rfl) (fg f.2.2.2 5 rfl (by rw [nI_clamp (by omega)]; omega) (by rw [nI_clamp (by omega)]; omega))) ?_
  refine ex_iconst ok_X12_vote (mi 30 rfl) ?_
  refine ex_icmp_ne (tgt := 59) ok_X12_vote (mi 31 rfl) rfl (fun hn => absurd (by decide) hn) (fun _ => ?_)
  refine ex_iconst ok_X12_vote (mi 32 rfl) ?_
  refine ex_goto (tgt := 80) ok_X12_vote (mi 33 rfl) rfl ?_
  refine ex_iret ok_X12_vote (mi 45 rfl) rfl ?_
  exact ⟨_, rfl, fun _ => by decide, apI (a := 0) rfl, kq apq (fk f.1 0 rfl), kp_ap rfl⟩
theorem d_voter_2_0 {G : GE} (hst : (ge_l G).stackTraces = false) {x : Nat}  : MM G 2 0 0 my_X12_voter x [.int (nI 2), .int (nI 0)] 0 ((-1)) := by
  intro h f
  refine ex_M_of ok_X12_voter cw_X12_voter rfl hst (Nat.le_of_ble_eq_true rfl) ?_
  refine ex_aload_n ok_X12_voter (mi 0 rfl) rfl ?_
  refine ex_iload_n ok_X12_voter (mi 1 rfl) rfl ?_
  refine ex_iconst ok_X12_voter (mi 2 rfl) ?_
  refine ex_bipush ok_X12_voter (mi 3 rfl) ?_
  refine ex_callSr (As := [_, _, _]) ok_X12_voter (mi 4 rfl) rfl (m_in1 hst (by decide) (by decide)) rfl rfl rfl (by decide) (Nat.le_of_ble_eq_true rfl) (by decide) ?_
  refine ex_if_eq (tgt := 24) ok_X12_voter (mi 5 rfl) rfl (fun hn => absurd hn (by decide)) (fun _ => ?_)
  refine ex_iload_n ok_X12_voter (mi 6 rfl) rfl ?_
  refine ex_iconst ok_X12_voter (mi 7 rfl) ?_
  refine ex_iconst ok_X12_voter (mi 8 rfl) ?_
  refine ex_callSr (As := [_, _, _]) ok_X12_voter (mi 9 rfl) rfl (m_in1 hst (by decide) (by decide)) rfl rfl rfl (by decide) (Nat.le_of_ble_eq_true rfl) (by decide) ?_
  refine ex_if_eq (tgt := 24) ok_X12_voter (mi 10 rfl) rfl (fun hn => absurd hn (by decide)) (fun _ => ?_)
  refine ex_iconst ok_X12_voter (mi 11 rfl) ?_
  refine ex_goto (tgt := 25) ok_X12_voter (mi 12 rfl) rfl ?_
  refine ex_iconst ok_X12_voter (mi 14 rfl) ?_
  refine ex_iconst ok_X12_voter (mi 15 rfl) ?_
  refine ex_callVr (As := [_, _, _]) (v := some (.int (nI 0))) (g1 := (ap x [(0, 0, 1200, 0, (nI 0))] h)) ok_X12_voter (mi 16 rfl) rfl (m_ref111 (ws := []) hst f.1) rfl (fk f.1 0 rfl) rfl rfl (by decide) (by decide) (Nat.le_of_ble_eq_true rfl) (by decide) ?_
  refine ex_if_eq (tgt := 35) ok_X12_voter (mi 17 rfl) rfl (fun _ => ?_) (fun hn => absurd (by decide) hn)
  refine ex_iconst ok_X12_voter (mi 20 rfl) ?_
  refine ex_istore_n ok_X12_voter (mi 21 rfl) ?_
  refine ex_iconst ok_X12_voter (mi 22 rfl) ?_
  refine ex_istore ok_X12_voter (mi 23 rfl) ?_
  refine ex_ls (ls' := [(0, .ref x), (1, .int (nI 2)), (2, .int (nI 0)), (3, .int (nI 0)), (4, .int (nI 0))]) ⟨rfl, rfl, rfl, rfl, rfl, trivial⟩ (lp_vt2 (shq apq f.1) (ap_tG0 rfl f.2.2.2) ?_ 16 0 rfl)
  refine ex_iload_n ok_X12_voter (mi 45 rfl) rfl ?_
  refine ex_if_ne (tgt := 90) ok_X12_voter (mi 46 rfl) rfl (fun hn => absurd (by decide) hn) (fun _ => ?_)
  refine ex_aload_n ok_X12_voter (mi 47 rfl) rfl ?_
  refine ex_getRx ok_X12_voter (mi 48 rfl) rfl rfl (kq apq (fk f.1 0 rfl)) (rq apq (fr f.1 42 rfl)) (kq apq (fk f.1 43 rfl)) (by decide) ?_
  refine ex_iload_n ok_X12_voter (mi 49 rfl) rfl ?_
  refine ex_ialdx ok_X12_voter (mi 50 rfl) (Or.inl (kq apq (fk f.1 43 rfl))) (nq apq (fn f.1 43 rfl)) (pk_in 2 12 (by decide)) (apA0 (j := 2) rfl (fe f.2.2.1 19 rfl)) ?_
  refine ex_goto (tgt := 105) ok_X12_voter (mi 51 rfl) rfl ?_
  refine ex_iret ok_X12_voter (mi 61 rfl) rfl ?_
  exact ⟨_, rfl, fun _ => by decide, apI (a := 0) rfl, kq apq (fk f.1 0 rfl), kp_ap rfl⟩
theorem d_voter_2_1 {G : GE} (hst : (ge_l G).stackTraces = false) {x : Nat}  : MM G 2 0 0 my_X12_voter x [.int (nI 2), .int (nI 1)] 0 (nI 0) := by
  intro h f
  refine ex_M_of ok_X12_voter cw_X12_voter rfl hst (Nat.le_of_ble_eq_true rfl) ?_
  refine ex_aload_n ok_X12_voter (mi 0 rfl) rfl ?_
  refine ex_iload_n ok_X12_voter (mi 1 rfl) rfl ?_
  refine ex_iconst ok_X12_voter (mi 2 rfl) ?_
  refine ex_bipush ok_X12_voter (mi 3 rfl) ?_
  refine ex_callSr (As := [_, _, _]) ok_X12_voter (mi 4 rfl) rfl (m_in1 hst (by decide) (by decide)) rfl rfl rfl (by decide) (Nat.le_of_ble_eq_true rfl) (by decide) ?_
  refine ex_if_eq (tgt := 24) ok_X12_voter (mi 5 rfl) rfl (fun hn => absurd hn (by decide)) (fun _ => ?_)
  refine ex_iload_n ok_X12_voter (mi 6 rfl) rfl ?_
  refine ex_iconst ok_X12_voter (mi 7 rfl) ?_
  refine ex_iconst ok_X12_voter (mi 8 rfl) ?_
  refine ex_callSr (As := [_, _, _]) ok_X12_voter (mi 9 rfl) rfl (m_in1 hst (by decide) (by decide)) rfl rfl rfl (by decide) (Nat.le_of_ble_eq_true rfl) (by decide) ?_
  refine ex_if_eq (tgt := 24) ok_X12_voter (mi 10 rfl) rfl (fun hn => absurd hn (by decide)) (fun _ => ?_)
  refine ex_iconst ok_X12_voter (mi 11 rfl) ?_
  refine ex_goto (tgt := 25) ok_X12_voter (mi 12 rfl) rfl ?_
  refine ex_iconst ok_X12_voter (mi 14 rfl) ?_
  refine ex_iconst ok_X12_voter (mi 15 rfl) ?_
  refine ex_callVr (As := [_, _, _]) (v := some (.int (nI 0))) (g1 := (ap x [(0, 0, 1200, 0, (nI 0))] h)) ok_X12_voter (mi 16 rfl) rfl (m_ref111 (ws := []) hst f.1) rfl (fk f.1 0 rfl) rfl rfl (by decide) (by decide) (Nat.le_of_ble_eq_true rfl) (by decide) ?_
  refine ex_if_eq (tgt := 35) ok_X12_voter (mi 17 rfl) rfl (fun _ => ?_) (fun hn => absurd (by decide) hn)
  refine ex_iconst ok_X12_voter (mi 20 rfl) ?_
  refine ex_istore_n ok_X12_voter (mi 21 rfl) ?_
  refine ex_iconst ok_X12_voter (mi 22 rfl) ?_
  refine ex_istore ok_X12_voter (mi 23 rfl) ?_
  refine ex_ls (ls' := [(0, .ref x), (1, .int (nI 2)), (2, .int (nI 1)), (3, .int (nI 0)), (4, .int (nI 0))]) ⟨rfl, rfl, rfl, rfl, rfl, trivial⟩ (lp_vt2 (shq apq f.1) (ap_tG0 rfl f.2.2.2) ?_ 16 0 rfl)
  refine ex_iload_n ok_X12_voter (mi 45 rfl) rfl ?_
  refine ex_if_ne (tgt := 90) ok_X12_voter (mi 46 rfl) rfl (fun _ => ?_) (fun hn => absurd hn (by decide))
  refine ex_iload_n ok_X12_voter (mi 52 rfl) rfl ?_
  refine ex_iconst ok_X12_voter (mi 53 rfl) ?_
  refine ex_icmp_ne (tgt := 104) ok_X12_voter (mi 54 rfl) rfl (fun hn => absurd (by decide) hn) (fun _ => ?_)
  refine ex_aload_n ok_X12_voter (mi 55 rfl) rfl ?_
  refine ex_getRx ok_X12_voter (mi 56 rfl) rfl rfl (kq apq (fk f.1 0 rfl)) (rq apq (fr f.1 43 rfl)) (kq apq (fk f.1 44 rfl)) (by decide) ?_
  refine ex_iload_n ok_X12_voter (mi 57 rfl) rfl ?_
  refine ex_ialdx ok_X12_voter (mi 58 rfl) (Or.inl (kq apq (fk f.1 44 rfl))) (nq apq (fn f.1 44 rfl)) (pk_in 2 12 (by decide)) (apA0 (j := 2) rfl (fe f.2.2.1 18 rfl)) ?_
  refine ex_goto (tgt := 105) ok_X12_voter (mi 59 rfl) rfl ?_
  refine ex_iret ok_X12_voter (mi 61 rfl) rfl ?_
  exact ⟨_, rfl, fun _ => by decide, apI (a := 0) rfl, kq apq (fk f.1 0 rfl), kp_ap rfl⟩
theorem d_voter_2_2 {G : GE} (hst : (ge_l G).stackTraces = false) {x : Nat}  : MM G 2 0 0 my_X12_voter x [.int (nI 2), .int (nI 2)] 0 (nI 0) := by
  intro h f
  refine ex_M_of ok_X12_voter cw_X12_voter rfl hst (Nat.le_of_ble_eq_true rfl) ?_
  refine ex_aload_n ok_X12_voter (mi 0 rfl) rfl ?_
  refine ex_iload_n ok_X12_voter (mi 1 rfl) rfl ?_
  refine ex_iconst ok_X12_voter (mi 2 rfl) ?_
  refine ex_bipush ok_X12_voter (mi 3 rfl) ?_
  refine ex_callSr (As := [_, _, _]) ok_X12_voter (mi 4 rfl) rfl (m_in1 hst (by decide) (by decide)) rfl rfl rfl (by decide) (Nat.le_of_ble_eq_true rfl) (by decide) ?_
  refine ex_if_eq (tgt := 24) ok_X12_voter (mi 5 rfl) rfl (fun hn => absurd hn (by decide)) (fun _ => ?_)
  refine ex_iload_n ok_X12_voter (mi 6 rfl) rfl ?_
  refine ex_iconst ok_X12_voter (mi 7 rfl) ?_
  refine ex_iconst ok_X12_voter (mi 8 rfl) ?_
  refine ex_callSr (As := [_, _, _]) ok_X12_voter (mi 9 rfl) rfl (m_in1 hst (by decide) (by decide)) rfl rfl rfl (by decide) (Nat.le_of_ble_eq_true rfl) (by decide) ?_
  refine ex_if_eq (tgt := 24) ok_X12_voter (mi 10 rfl) rfl (fun hn => absurd hn (by decide)) (fun _ => ?_)
  refine ex_iconst ok_X12_voter (mi 11 rfl) ?_
  refine ex_goto (tgt := 25) ok_X12_voter (mi 12 rfl) rfl ?_
  refine ex_iconst ok_X12_voter (mi 14 rfl) ?_
  refine ex_iconst ok_X12_voter (mi 15 rfl) ?_
  refine ex_callVr (As := [_, _, _]) (v := some (.int (nI 0))) (g1 := (ap x [(0, 0, 1200, 0, (nI 0))] h)) ok_X12_voter (mi 16 rfl) rfl (m_ref111 (ws := []) hst f.1) rfl (fk f.1 0 rfl) rfl rfl (by decide) (by decide) (Nat.le_of_ble_eq_true rfl) (by decide) ?_
  refine ex_if_eq (tgt := 35) ok_X12_voter (mi 17 rfl) rfl (fun _ => ?_) (fun hn => absurd (by decide) hn)
  refine ex_iconst ok_X12_voter (mi 20 rfl) ?_
  refine ex_istore_n ok_X12_voter (mi 21 rfl) ?_
  refine ex_iconst ok_X12_voter (mi 22 rfl) ?_
  refine ex_istore ok_X12_voter (mi 23 rfl) ?_
  refine ex_ls (ls' := [(0, .ref x), (1, .int (nI 2)), (2, .int (nI 2)), (3, .int (nI 0)), (4, .int (nI 0))]) ⟨rfl, rfl, rfl, rfl, rfl, trivial⟩ (lp_vt2 (shq apq f.1) (ap_tG0 rfl f.2.2.2) ?_ 16 0 rfl)
  refine ex_iload_n ok_X12_voter (mi 45 rfl) rfl ?_
  refine ex_if_ne (tgt := 90) ok_X12_voter (mi 46 rfl) rfl (fun _ => ?_) (fun hn => absurd hn (by decide))
  refine ex_iload_n ok_X12_voter (mi 52 rfl) rfl ?_
  refine ex_iconst ok_X12_voter (mi 53 rfl) ?_
  refine ex_icmp_ne (tgt := 104) ok_X12_voter (mi 54 rfl) rfl (fun _ => ?_) (fun hn => absurd hn (by decide))
  refine ex_iload_n ok_X12_voter (mi 60 rfl) rfl ?_
  refine ex_iret ok_X12_voter (mi 61 rfl) rfl ?_
  exact ⟨_, rfl, fun _ => by decide, apI (a := 0) rfl, kq apq (fk f.1 0 rfl), kp_ap rfl⟩
theorem d_vote_2_0 {G : GE} (hst : (ge_l G).stackTraces = false) {x : Nat} {j : Nat} (hj : j < 16) : MM G 2 0 0 my_X12_vote x [.int (nI 2), .int (nI j), .int (nI 0)] 0 ((-1)) := by
  intro h f
  refine ex_M_of ok_X12_vote cw_X12_vote rfl hst (Nat.le_of_ble_eq_true rfl) ?_
  refine ex_aload_n ok_X12_vote (mi 0 rfl) rfl ?_
  refine ex_iload_n ok_X12_vote (mi 1 rfl) rfl ?_
  refine ex_iconst ok_X12_vote (mi 2 rfl) ?_
  refine ex_bipush ok_X12_vote (mi 3 rfl) ?_
  refine ex_callSr (As := [_, _, _]) ok_X12_vote (mi 4 rfl) rfl (m_in1 hst (by decide) (by decide)) rfl rfl rfl (by decide) (Nat.le_of_ble_eq_true rfl) (by decide) ?_
  refine ex_if_eq (tgt := 25) ok_X12_vote (mi 5 rfl) rfl (fun hn => absurd hn (by decide)) (fun _ => ?_)
  refine ex_iload_n ok_X12_vote (mi 6 rfl) rfl ?_
  refine ex_iconst ok_X12_vote (mi 7 rfl) ?_
  refine ex_bipush ok_X12_vote (mi 8 rfl) ?_
  refine ex_callSr (As := [_, _, _]) ok_X12_vote (mi 9 rfl) rfl (m_in1 hst (vlo (vp_in_nI hj (by decide)) (by decide)) (vhi (vp_in_nI hj (by decide)) (by decide))) rfl rfl rfl (by decide) (Nat.le_of_ble_eq_true rfl) (by decide) ?_
  refine ex_if_eq (tgt := 25) ok_X12_vote (mi 10 rfl) rfl (fun hn => absurd hn (by decide)) (fun _ => ?_)
  refine ex_iconst ok_X12_vote (mi 11 rfl) ?_
  refine ex_goto (tgt := 26) ok_X12_vote (mi 12 rfl) rfl ?_
  refine ex_iconst ok_X12_vote (mi 14 rfl) ?_
  refine ex_iconst ok_X12_vote (mi 15 rfl) ?_
  refine ex_callVr (As := [_, _, _]) (v := some (.int (nI 0))) (g1 := (ap x [(0, 0, 1200, 0, (nI 0))] h)) ok_X12_vote (mi 16 rfl) rfl (m_ref111 (ws := []) hst f.1) rfl (fk f.1 0 rfl) rfl rfl (by decide) (by decide) (Nat.le_of_ble_eq_true rfl) (by decide) ?_
  refine ex_if_eq (tgt := 36) ok_X12_vote (mi 17 rfl) rfl (fun _ => ?_) (fun hn => absurd (by decide) hn)
  refine ex_bipush ok_X12_vote (mi 20 rfl) ?_
  refine ex_iload_n ok_X12_vote (mi 21 rfl) rfl ?_
  refine ex_imul ok_X12_vote (mi 22 rfl) ?_
  refine ex_top (w := (nI 32)) (by decide) ?_
  refine ex_iload_n ok_X12_vote (mi 23 rfl) rfl ?_
  refine ex_iadd ok_X12_vote (mi 24 rfl) ?_
  refine ex_top (w := (nI (32 + j))) (nI_add 32 j) ?_
  refine ex_istore ok_X12_vote (mi 25 rfl) ?_
  refine ex_aload_n ok_X12_vote (mi 26 rfl) rfl ?_
  refine ex_getRx ok_X12_vote (mi 27 rfl) rfl rfl (kq apq (fk f.1 0 rfl)) (rq apq (fr f.1 44 rfl)) (kq apq (fk f.1 45 rfl)) (by decide) ?_
  refine ex_iload ok_X12_vote (mi 28 rfl) rfl ?_
  refine ex_ialdx ok_X12_vote (mi 29 rfl) (Or.inl (kq apq (fk f.1 45 rfl))) (nq apq (fn f.1 45 rfl)) (vp_in_nI (by omega) (by decide)) (apA0 (rfl) (fg f.2.2.2 5 rfl (by rw [nI_clamp (by omega)]; omega) (by rw [nI_clamp (by omega)]; omega))) ?_
  refine ex_iconst ok_X12_vote (mi 30 rfl) ?_
  refine ex_icmp_ne (tgt := 59) ok_X12_vote (mi 31 rfl) rfl (fun hn => absurd (by decide) hn) (fun _ => ?_)
  refine ex_iconst ok_X12_vote (mi 32 rfl) ?_
  refine ex_goto (tgt := 80) ok_X12_vote (mi 33 rfl) rfl ?_
  refine ex_iret ok_X12_vote (mi 45 rfl) rfl ?_
  exact ⟨_, rfl, fun _ => by decide, apI (a := 0) rfl, kq apq (fk f.1 0 rfl), kp_ap rfl⟩
theorem d_vote_2_1 {G : GE} (hst : (ge_l G).stackTraces = false) {x : Nat} {j : Nat} (hj : j < 16) : MM G 2 0 0 my_X12_vote x [.int (nI 2), .int (nI j), .int (nI 1)] 0 ((-1)) := by
  intro h f
  refine ex_M_of ok_X12_vote cw_X12_vote rfl hst (Nat.le_of_ble_eq_true rfl) ?_
  refine ex_aload_n ok_X12_vote (mi 0 rfl) rfl ?_
  refine ex_iload_n ok_X12_vote (mi 1 rfl) rfl ?_
  refine ex_iconst ok_X12_vote (mi 2 rfl) ?_
  refine ex_bipush ok_X12_vote (mi 3 rfl) ?_
  refine ex_callSr (As := [_, _, _]) ok_X12_vote (mi 4 rfl) rfl (m_in1 hst (by decide) (by decide)) rfl rfl rfl (by decide) (Nat.le_of_ble_eq_true rfl) (by decide) ?_
  refine ex_if_eq (tgt := 25) ok_X12_vote (mi 5 rfl) rfl (fun hn => absurd hn (by decide)) (fun _ => ?_)
  refine ex_iload_n ok_X12_vote (mi 6 rfl) rfl ?_
  refine ex_iconst ok_X12_vote (mi 7 rfl) ?_
  refine ex_bipush ok_X12_vote (mi 8 rfl) ?_
  refine ex_callSr (As := [_, _, _]) ok_X12_vote (mi 9 rfl) rfl (m_in1 hst (vlo (vp_in_nI hj (by decide)) (by decide)) (vhi (vp_in_nI hj (by decide)) (by decide))) rfl rfl rfl (by decide) (Nat.le_of_ble_eq_true rfl) (by decide) ?_
  refine ex_if_eq (tgt := 25) ok_X12_vote (mi 10 rfl) rfl (fun hn => absurd hn (by decide)) (fun _ => ?_)
  refine ex_iconst ok_X12_vote (mi 11 rfl) ?_
  refine ex_goto (tgt := 26) ok_X12_vote (mi 12 rfl) rfl ?_
  refine ex_iconst ok_X12_vote (mi 14 rfl) ?_
  refine ex_iconst ok_X12_vote (mi 15 rfl) ?_
  refine ex_callVr (As := [_, _, _]) (v := some (.int (nI 0))) (g1 := (ap x [(0, 0, 1200, 0, (nI 0))] h)) ok_X12_vote (mi 16 rfl) rfl (m_ref111 (ws := []) hst f.1) rfl (fk f.1 0 rfl) rfl rfl (by decide) (by decide) (Nat.le_of_ble_eq_true rfl) (by decide) ?_
  refine ex_if_eq (tgt := 36) ok_X12_vote (mi 17 rfl) rfl (fun _ => ?_) (fun hn => absurd (by decide) hn)
  refine ex_bipush ok_X12_vote (mi 20 rfl) ?_
  refine ex_iload_n ok_X12_vote (mi 21 rfl) rfl ?_
  refine ex_imul ok_X12_vote (mi 22 rfl) ?_
  refine ex_top (w := (nI 32)) (by decide) ?_
  refine ex_iload_n ok_X12_vote (mi 23 rfl) rfl ?_
  refine ex_iadd ok_X12_vote (mi 24 rfl) ?_
  refine ex_top (w := (nI (32 + j))) (nI_add 32 j) ?_
  refine ex_istore ok_X12_vote (mi 25 rfl) ?_
  refine ex_aload_n ok_X12_vote (mi 26 rfl) rfl ?_
  refine ex_getRx ok_X12_vote (mi 27 rfl) rfl rfl (kq apq (fk f.1 0 rfl)) (rq apq (fr f.1 44 rfl)) (kq apq (fk f.1 45 rfl)) (by decide) ?_
  refine ex_iload ok_X12_vote (mi 28 rfl) rfl ?_
  refine ex_ialdx ok_X12_vote (mi 29 rfl) (Or.inl (kq apq (fk f.1 45 rfl))) (nq apq (fn f.1 45 rfl)) (vp_in_nI (by omega) (by decide)) (apA0 (rfl) (fg f.2.2.2 5 rfl (by rw [nI_clamp (by omega)]; omega) (by rw [nI_clamp (by omega)]; omega))) ?_
  refine ex_iconst ok_X12_vote (mi 30 rfl) ?_
  refine ex_icmp_ne (tgt := 59) ok_X12_vote (mi 31 rfl) rfl (fun hn => absurd (by decide) hn) (fun _ => ?_)
  refine ex_iconst ok_X12_vote (mi 32 rfl) ?_
  refine ex_goto (tgt := 80) ok_X12_vote (mi 33 rfl) rfl ?_
  refine ex_iret ok_X12_vote (mi 45 rfl) rfl ?_
  exact ⟨_, rfl, fun _ => by decide, apI (a := 0) rfl, kq apq (fk f.1 0 rfl), kp_ap rfl⟩
theorem d_voter_3_0 {G : GE} (hst : (ge_l G).stackTraces = false) {x : Nat}  : MM G 2 0 0 my_X12_voter x [.int (nI 3), .int (nI 0)] 0 ((-1)) := by
  intro h f
  refine ex_M_of ok_X12_voter cw_X12_voter rfl hst (Nat.le_of_ble_eq_true rfl) ?_
  refine ex_aload_n ok_X12_voter (mi 0 rfl) rfl ?_
  refine ex_iload_n ok_X12_voter (mi 1 rfl) rfl ?_
  refine ex_iconst ok_X12_voter (mi 2 rfl) ?_
  refine ex_bipush ok_X12_voter (mi 3 rfl) ?_
  refine ex_callSr (As := [_, _, _]) ok_X12_voter (mi 4 rfl) rfl (m_in1 hst (by decide) (by decide)) rfl rfl rfl (by decide) (Nat.le_of_ble_eq_true rfl) (by decide) ?_
  refine ex_if_eq (tgt := 24) ok_X12_voter (mi 5 rfl) rfl (fun hn => absurd hn (by decide)) (fun _ => ?_)
  refine ex_iload_n ok_X12_voter (mi 6 rfl) rfl ?_
  refine ex_iconst ok_X12_voter (mi 7 rfl) ?_
  refine ex_iconst ok_X12_voter (mi 8 rfl) ?_
  refine ex_callSr (As := [_, _, _]) ok_X12_voter (mi 9 rfl) rfl (m_in1 hst (by decide) (by decide)) rfl rfl rfl (by decide) (Nat.le_of_ble_eq_true rfl) (by decide) ?_
  refine ex_if_eq (tgt := 24) ok_X12_voter (mi 10 rfl) rfl (fun hn => absurd hn (by decide)) (fun _ => ?_)
  refine ex_iconst ok_X12_voter (mi 11 rfl) ?_
  refine ex_goto (tgt := 25) ok_X12_voter (mi 12 rfl) rfl ?_
  refine ex_iconst ok_X12_voter (mi 14 rfl) ?_
  refine ex_iconst ok_X12_voter (mi 15 rfl) ?_
  refine ex_callVr (As := [_, _, _]) (v := some (.int (nI 0))) (g1 := (ap x [(0, 0, 1200, 0, (nI 0))] h)) ok_X12_voter (mi 16 rfl) rfl (m_ref111 (ws := []) hst f.1) rfl (fk f.1 0 rfl) rfl rfl (by decide) (by decide) (Nat.le_of_ble_eq_true rfl) (by decide) ?_
  refine ex_if_eq (tgt := 35) ok_X12_voter (mi 17 rfl) rfl (fun _ => ?_) (fun hn => absurd (by decide) hn)
  refine ex_iconst ok_X12_voter (mi 20 rfl) ?_
  refine ex_istore_n ok_X12_voter (mi 21 rfl) ?_
  refine ex_iconst ok_X12_voter (mi 22 rfl) ?_
  refine ex_istore ok_X12_voter (mi 23 rfl) ?_
  refine ex_ls (ls' := [(0, .ref x), (1, .int (nI 3)), (2, .int (nI 0)), (3, .int (nI 0)), (4, .int (nI 0))]) ⟨rfl, rfl, rfl, rfl, rfl, trivial⟩ (lp_vt3 (shq apq f.1) (ap_tG0 rfl f.2.2.2) ?_ 16 0 rfl)
  refine ex_iload_n ok_X12_voter (mi 45 rfl) rfl ?_
  refine ex_if_ne (tgt := 90) ok_X12_voter (mi 46 rfl) rfl (fun hn => absurd (by decide) hn) (fun _ => ?_)
  refine ex_aload_n ok_X12_voter (mi 47 rfl) rfl ?_
  refine ex_getRx ok_X12_voter (mi 48 rfl) rfl rfl (kq apq (fk f.1 0 rfl)) (rq apq (fr f.1 42 rfl)) (kq apq (fk f.1 43 rfl)) (by decide) ?_
  refine ex_iload_n ok_X12_voter (mi 49 rfl) rfl ?_
  refine ex_ialdx ok_X12_voter (mi 50 rfl) (Or.inl (kq apq (fk f.1 43 rfl))) (nq apq (fn f.1 43 rfl)) (pk_in 3 12 (by decide)) (apA0 (j := 3) rfl (fe f.2.2.1 17 rfl)) ?_
  refine ex_goto (tgt := 105) ok_X12_voter (mi 51 rfl) rfl ?_
  refine ex_iret ok_X12_voter (mi 61 rfl) rfl ?_
  exact ⟨_, rfl, fun _ => by decide, apI (a := 0) rfl, kq apq (fk f.1 0 rfl), kp_ap rfl⟩
theorem d_voter_3_1 {G : GE} (hst : (ge_l G).stackTraces = false) {x : Nat}  : MM G 2 0 0 my_X12_voter x [.int (nI 3), .int (nI 1)] 0 (nI 0) := by
  intro h f
  refine ex_M_of ok_X12_voter cw_X12_voter rfl hst (Nat.le_of_ble_eq_true rfl) ?_
  refine ex_aload_n ok_X12_voter (mi 0 rfl) rfl ?_
  refine ex_iload_n ok_X12_voter (mi 1 rfl) rfl ?_
  refine ex_iconst ok_X12_voter (mi 2 rfl) ?_
  refine ex_bipush ok_X12_voter (mi 3 rfl) ?_
  refine ex_callSr (As := [_, _, _]) ok_X12_voter (mi 4 rfl) rfl (m_in1 hst (by decide) (by decide)) rfl rfl rfl (by decide) (Nat.le_of_ble_eq_true rfl) (by decide) ?_
  refine ex_if_eq (tgt := 24) ok_X12_voter (mi 5 rfl) rfl (fun hn => absurd hn (by decide)) (fun _ => ?_)
  refine ex_iload_n ok_X12_voter (mi 6 rfl) rfl ?_
  refine ex_iconst ok_X12_voter (mi 7 rfl) ?_
  refine ex_iconst ok_X12_voter (mi 8 rfl) ?_
  refine ex_callSr (As := [_, _, _]) ok_X12_voter (mi 9 rfl) rfl (m_in1 hst (by decide) (by decide)) rfl rfl rfl (by decide) (Nat.le_of_ble_eq_true rfl) (by decide) ?_
  refine ex_if_eq (tgt := 24) ok_X12_voter (mi 10 rfl) rfl (fun hn => absurd hn (by decide)) (fun _ => ?_)
  refine ex_iconst ok_X12_voter (mi 11 rfl) ?_
  refine ex_goto (tgt := 25) ok_X12_voter (mi 12 rfl) rfl ?_
  refine ex_iconst ok_X12_voter (mi 14 rfl) ?_
  refine ex_iconst ok_X12_voter (mi 15 rfl) ?_
  refine ex_callVr (As := [_, _, _]) (v := some (.int (nI 0))) (g1 := (ap x [(0, 0, 1200, 0, (nI 0))] h)) ok_X12_voter (mi 16 rfl) rfl (m_ref111 (ws := []) hst f.1) rfl (fk f.1 0 rfl) rfl rfl (by decide) (by decide) (Nat.le_of_ble_eq_true rfl) (by decide) ?_
  refine ex_if_eq (tgt := 35) ok_X12_voter (mi 17 rfl) rfl (fun _ => ?_) (fun hn => absurd (by decide) hn)
  refine ex_iconst ok_X12_voter (mi 20 rfl) ?_
  refine ex_istore_n ok_X12_voter (mi 21 rfl) ?_
  refine ex_iconst ok_X12_voter (mi 22 rfl) ?_
  refine ex_istore ok_X12_voter (mi 23 rfl) ?_
  refine ex_ls (ls' := [(0, .ref x), (1, .int (nI 3)), (2, .int (nI 1)), (3, .int (nI 0)), (4, .int (nI 0))]) ⟨rfl, rfl, rfl, rfl, rfl, trivial⟩ (lp_vt3 (shq apq f.1) (ap_tG0 rfl f.2.2.2) ?_ 16 0 rfl)
  refine ex_iload_n ok_X12_voter (mi 45 rfl) rfl ?_
  refine ex_if_ne (tgt := 90) ok_X12_voter (mi 46 rfl) rfl (fun _ => ?_) (fun hn => absurd hn (by decide))
  refine ex_iload_n ok_X12_voter (mi 52 rfl) rfl ?_
  refine ex_iconst ok_X12_voter (mi 53 rfl) ?_
  refine ex_icmp_ne (tgt := 104) ok_X12_voter (mi 54 rfl) rfl (fun hn => absurd (by decide) hn) (fun _ => ?_)
  refine ex_aload_n ok_X12_voter (mi 55 rfl) rfl ?_
  refine ex_getRx ok_X12_voter (mi 56 rfl) rfl rfl (kq apq (fk f.1 0 rfl)) (rq apq (fr f.1 43 rfl)) (kq apq (fk f.1 44 rfl)) (by decide) ?_
  refine ex_iload_n ok_X12_voter (mi 57 rfl) rfl ?_
  refine ex_ialdx ok_X12_voter (mi 58 rfl) (Or.inl (kq apq (fk f.1 44 rfl))) (nq apq (fn f.1 44 rfl)) (pk_in 3 12 (by decide)) (apA0 (j := 3) rfl (fe f.2.2.1 16 rfl)) ?_
  refine ex_goto (tgt := 105) ok_X12_voter (mi 59 rfl) rfl ?_
  refine ex_iret ok_X12_voter (mi 61 rfl) rfl ?_
  exact ⟨_, rfl, fun _ => by decide, apI (a := 0) rfl, kq apq (fk f.1 0 rfl), kp_ap rfl⟩
theorem d_voter_3_2 {G : GE} (hst : (ge_l G).stackTraces = false) {x : Nat}  : MM G 2 0 0 my_X12_voter x [.int (nI 3), .int (nI 2)] 0 (nI 0) := by
  intro h f
  refine ex_M_of ok_X12_voter cw_X12_voter rfl hst (Nat.le_of_ble_eq_true rfl) ?_
  refine ex_aload_n ok_X12_voter (mi 0 rfl) rfl ?_
  refine ex_iload_n ok_X12_voter (mi 1 rfl) rfl ?_
  refine ex_iconst ok_X12_voter (mi 2 rfl) ?_
  refine ex_bipush ok_X12_voter (mi 3 rfl) ?_
  refine ex_callSr (As := [_, _, _]) ok_X12_voter (mi 4 rfl) rfl (m_in1 hst (by decide) (by decide)) rfl rfl rfl (by decide) (Nat.le_of_ble_eq_true rfl) (by decide) ?_
  refine ex_if_eq (tgt := 24) ok_X12_voter (mi 5 rfl) rfl (fun hn => absurd hn (by decide)) (fun _ => ?_)
  refine ex_iload_n ok_X12_voter (mi 6 rfl) rfl ?_
  refine ex_iconst ok_X12_voter (mi 7 rfl) ?_
  refine ex_iconst ok_X12_voter (mi 8 rfl) ?_
  refine ex_callSr (As := [_, _, _]) ok_X12_voter (mi 9 rfl) rfl (m_in1 hst (by decide) (by decide)) rfl rfl rfl (by decide) (Nat.le_of_ble_eq_true rfl) (by decide) ?_
  refine ex_if_eq (tgt := 24) ok_X12_voter (mi 10 rfl) rfl (fun hn => absurd hn (by decide)) (fun _ => ?_)
  refine ex_iconst ok_X12_voter (mi 11 rfl) ?_
  refine ex_goto (tgt := 25) ok_X12_voter (mi 12 rfl) rfl ?_
  refine ex_iconst ok_X12_voter (mi 14 rfl) ?_
  refine ex_iconst ok_X12_voter (mi 15 rfl) ?_
  refine ex_callVr (As := [_, _, _]) (v := some (.int (nI 0))) (g1 := (ap x [(0, 0, 1200, 0, (nI 0))] h)) ok_X12_voter (mi 16 rfl) rfl (m_ref111 (ws := []) hst f.1) rfl (fk f.1 0 rfl) rfl rfl (by decide) (by decide) (Nat.le_of_ble_eq_true rfl) (by decide) ?_
  refine ex_if_eq (tgt := 35) ok_X12_voter (mi 17 rfl) rfl (fun _ => ?_) (fun hn => absurd (by decide) hn)
  refine ex_iconst ok_X12_voter (mi 20 rfl) ?_
  refine ex_istore_n ok_X12_voter (mi 21 rfl) ?_
  refine ex_iconst ok_X12_voter (mi 22 rfl) ?_
  refine ex_istore ok_X12_voter (mi 23 rfl) ?_
  refine ex_ls (ls' := [(0, .ref x), (1, .int (nI 3)), (2, .int (nI 2)), (3, .int (nI 0)), (4, .int (nI 0))]) ⟨rfl, rfl, rfl, rfl, rfl, trivial⟩ (lp_vt3 (shq apq f.1) (ap_tG0 rfl f.2.2.2) ?_ 16 0 rfl)
  refine ex_iload_n ok_X12_voter (mi 45 rfl) rfl ?_
  refine ex_if_ne (tgt := 90) ok_X12_voter (mi 46 rfl) rfl (fun _ => ?_) (fun hn => absurd hn (by decide))
  refine ex_iload_n ok_X12_voter (mi 52 rfl) rfl ?_
  refine ex_iconst ok_X12_voter (mi 53 rfl) ?_
  refine ex_icmp_ne (tgt := 104) ok_X12_voter (mi 54 rfl) rfl (fun _ => ?_) (fun hn => absurd hn (by decide))
  refine ex_iload_n ok_X12_voter (mi 60 rfl) rfl ?_
  refine ex_iret ok_X12_voter (mi 61 rfl) rfl ?_
  exact ⟨_, rfl, fun _ => by decide, apI (a := 0) rfl, kq apq (fk f.1 0 rfl), kp_ap rfl⟩
theorem d_vote_3_0 {G : GE} (hst : (ge_l G).stackTraces = false) {x : Nat} {j : Nat} (hj : j < 16) : MM G 2 0 0 my_X12_vote x [.int (nI 3), .int (nI j), .int (nI 0)] 0 ((-1)) := by
  intro h f
  refine ex_M_of ok_X12_vote cw_X12_vote rfl hst (Nat.le_of_ble_eq_true rfl) ?_
  refine ex_aload_n ok_X12_vote (mi 0 rfl) rfl ?_
  refine ex_iload_n ok_X12_vote (mi 1 rfl) rfl ?_
  refine ex_iconst ok_X12_vote (mi 2 rfl) ?_
  refine ex_bipush ok_X12_vote (mi 3 rfl) ?_
  refine ex_callSr (As := [_, _, _]) ok_X12_vote (mi 4 rfl) rfl (m_in1 hst (by decide) (by decide)) rfl rfl rfl (by decide) (Nat.le_of_ble_eq_true rfl) (by decide) ?_
  refine ex_if_eq (tgt := 25) ok_X12_vote (mi 5 rfl) rfl (fun hn => absurd hn (by decide)) (fun _ => ?_)
  refine ex_iload_n ok_X12_vote (mi 6 rfl) rfl ?_
  refine ex_iconst ok_X12_vote (mi 7 rfl) ?_
  refine ex_bipush ok_X12_vote (mi 8 rfl) ?_
  refine ex_callSr (As := [_, _, _]) ok_X12_vote (mi 9 rfl) rfl (m_in1 hst (vlo (vp_in_nI hj (by decide)) (by decide)) (vhi (vp_in_nI hj (by decide)) (by decide))) rfl rfl rfl (by decide) (Nat.le_of_ble_eq_true rfl) (by decide) ?_
  refine ex_if_eq (tgt := 25) ok_X12_vote (mi 10 rfl) rfl (fun hn => absurd hn (by decide)) (fun _ => ?_)
  refine ex_iconst ok_X12_vote (mi 11 rfl) ?_
  refine ex_goto (tgt := 26) ok_X12_vote (mi 12 rfl) rfl ?_
  refine ex_iconst ok_X12_vote (mi 14 rfl) ?_
  refine ex_iconst ok_X12_vote (mi 15 rfl) ?_
  refine ex_callVr (As := [_, _, _]) (v := some (.int (nI 0))) (g1 := (ap x [(0, 0, 1200, 0, (nI 0))] h)) ok_X12_vote (mi 16 rfl) rfl (m_ref111 (ws := []) hst f.1) rfl (fk f.1 0 rfl) rfl rfl (by decide) (by decide) (Nat.le_of_ble_eq_true rfl) (by decide) ?_
  refine ex_if_eq (tgt := 36) ok_X12_vote (mi 17 rfl) rfl (fun _ => ?_) (fun hn => absurd (by decide) hn)
  refine ex_bipush ok_X12_vote (mi 20 rfl) ?_
  refine ex_iload_n ok_X12_vote (mi 21 rfl) rfl ?_
  refine ex_imul ok_X12_vote (mi 22 rfl) ?_
  refine ex_top (w := (nI 48)) (by decide) ?_
  refine ex_iload_n ok_X12_vote (mi 23 rfl) rfl ?_
  refine ex_iadd ok_X12_vote (mi 24 rfl) ?_
  refine ex_top (w := (nI (48 + j))) (nI_add 48 j) ?_
  refine ex_istore ok_X12_vote (mi 25 rfl) ?_
  refine ex_aload_n ok_X12_vote (mi 26 rfl) rfl ?_
  refine ex_getRx ok_X12_vote (mi 27 rfl) rfl rfl (kq apq (fk f.1 0 rfl)) (rq apq (fr f.1 44 rfl)) (kq apq (fk f.1 45 rfl)) (by decide) ?_
  refine ex_iload ok_X12_vote (mi 28 rfl) rfl ?_
  refine ex_ialdx ok_X12_vote (mi 29 rfl) (Or.inl (kq apq (fk f.1 45 rfl))) (nq apq (fn f.1 45 rfl)) (vp_in_nI (by omega) (by decide)) (apA0 (rfl) (fg f.2.2.2 5 rfl (by rw [nI_clamp (by omega)]; omega) (by rw [nI_clamp (by omega)]; omega))) ?_
  refine ex_iconst ok_X12_vote (mi 30 rfl) ?_
  refine ex_icmp_ne (tgt := 59) ok_X12_vote (mi 31 rfl) rfl (fun hn => absurd (by decide) hn) (fun _ => ?_)
  refine ex_iconst ok_X12_vote (mi 32 rfl) ?_
  refine ex_goto (tgt := 80) ok_X12_vote (mi 33 rfl) rfl ?_
  refine ex_iret ok_X12_vote (mi 45 rfl) rfl ?_
  exact ⟨_, rfl, fun _ => by decide, apI (a := 0) rfl, kq apq (fk f.1 0 rfl), kp_ap rfl⟩
theorem d_vote_3_1 {G : GE} (hst : (ge_l G).stackTraces = false) {x : Nat} {j : Nat} (hj : j < 16) : MM G 2 0 0 my_X12_vote x [.int (nI 3), .int (nI j), .int (nI 1)] 0 ((-1)) := by
  intro h f
  refine ex_M_of ok_X12_vote cw_X12_vote rfl hst (Nat.le_of_ble_eq_true rfl) ?_
  refine ex_aload_n ok_X12_vote (mi 0 rfl) rfl ?_
  refine ex_iload_n ok_X12_vote (mi 1 rfl) rfl ?_
  refine ex_iconst ok_X12_vote (mi 2 rfl) ?_
  refine ex_bipush ok_X12_vote (mi 3 rfl) ?_
  refine ex_callSr (As := [_, _, _]) ok_X12_vote (mi 4 rfl) rfl (m_in1 hst (by decide) (by decide)) rfl rfl rfl (by decide) (Nat.le_of_ble_eq_true rfl) (by decide) ?_
  refine ex_if_eq (tgt := 25) ok_X12_vote (mi 5 rfl) rfl (fun hn => absurd hn (by decide)) (fun _ => ?_)
  refine ex_iload_n ok_X12_vote (mi 6 rfl) rfl ?_
  refine ex_iconst ok_X12_vote (mi 7 rfl) ?_
  refine ex_bipush ok_X12_vote (mi 8 rfl) ?_
  refine ex_callSr (As := [_, _, _]) ok_X12_vote (mi 9 rfl) rfl (m_in1 hst (vlo (vp_in_nI hj (by decide)) (by decide)) (vhi (vp_in_nI hj (by decide)) (by decide))) rfl rfl rfl (by decide) (Nat.le_of_ble_eq_true rfl) (by decide) ?_
  refine ex_if_eq (tgt := 25) ok_X12_vote (mi 10 rfl) rfl (fun hn => absurd hn (by decide)) (fun _ => ?_)
  refine ex_iconst ok_X12_vote (mi 11 rfl) ?_
  refine ex_goto (tgt := 26) ok_X12_vote (mi 12 rfl) rfl ?_
  refine ex_iconst ok_X12_vote (mi 14 rfl) ?_
  refine ex_iconst ok_X12_vote (mi 15 rfl) ?_
  refine ex_callVr (As := [_, _, _]) (v := some (.int (nI 0))) (g1 := (ap x [(0, 0, 1200, 0, (nI 0))] h)) ok_X12_vote (mi 16 rfl) rfl (m_ref111 (ws := []) hst f.1) rfl (fk f.1 0 rfl) rfl rfl (by decide) (by decide) (Nat.le_of_ble_eq_true rfl) (by decide) ?_
  refine ex_if_eq (tgt := 36) ok_X12_vote (mi 17 rfl) rfl (fun _ => ?_) (fun hn => absurd (by decide) hn)
  refine ex_bipush ok_X12_vote (mi 20 rfl) ?_
  refine ex_iload_n ok_X12_vote (mi 21 rfl) rfl ?_
  refine ex_imul ok_X12_vote (mi 22 rfl) ?_
  refine ex_top (w := (nI 48)) (by decide) ?_
  refine ex_iload_n ok_X12_vote (mi 23 rfl) rfl ?_
  refine ex_iadd ok_X12_vote (mi 24 rfl) ?_
  refine ex_top (w := (nI (48 + j))) (nI_add 48 j) ?_
  refine ex_istore ok_X12_vote (mi 25 rfl) ?_
  refine ex_aload_n ok_X12_vote (mi 26 rfl) rfl ?_
  refine ex_getRx ok_X12_vote (mi 27 rfl) rfl rfl (kq apq (fk f.1 0 rfl)) (rq apq (fr f.1 44 rfl)) (kq apq (fk f.1 45 rfl)) (by decide) ?_
  refine ex_iload ok_X12_vote (mi 28 rfl) rfl ?_
  refine ex_ialdx ok_X12_vote (mi 29 rfl) (Or.inl (kq apq (fk f.1 45 rfl))) (nq apq (fn f.1 45 rfl)) (vp_in_nI (by omega) (by decide)) (apA0 (rfl) (fg f.2.2.2 5 rfl (by rw [nI_clamp (by omega)]; omega) (by rw [nI_clamp (by omega)]; omega))) ?_
  refine ex_iconst ok_X12_vote (mi 30 rfl) ?_
  refine ex_icmp_ne (tgt := 59) ok_X12_vote (mi 31 rfl) rfl (fun hn => absurd (by decide) hn) (fun _ => ?_)
  refine ex_iconst ok_X12_vote (mi 32 rfl) ?_
  refine ex_goto (tgt := 80) ok_X12_vote (mi 33 rfl) rfl ?_
  refine ex_iret ok_X12_vote (mi 45 rfl) rfl ?_
  exact ⟨_, rfl, fun _ => by decide, apI (a := 0) rfl, kq apq (fk f.1 0 rfl), kp_ap rfl⟩
theorem d_voter_4_0 {G : GE} (hst : (ge_l G).stackTraces = false) {x : Nat}  : MM G 2 0 0 my_X12_voter x [.int (nI 4), .int (nI 0)] 0 ((-1)) := by
  intro h f
  refine ex_M_of ok_X12_voter cw_X12_voter rfl hst (Nat.le_of_ble_eq_true rfl) ?_
  refine ex_aload_n ok_X12_voter (mi 0 rfl) rfl ?_
  refine ex_iload_n ok_X12_voter (mi 1 rfl) rfl ?_
  refine ex_iconst ok_X12_voter (mi 2 rfl) ?_
  refine ex_bipush ok_X12_voter (mi 3 rfl) ?_
  refine ex_callSr (As := [_, _, _]) ok_X12_voter (mi 4 rfl) rfl (m_in1 hst (by decide) (by decide)) rfl rfl rfl (by decide) (Nat.le_of_ble_eq_true rfl) (by decide) ?_
  refine ex_if_eq (tgt := 24) ok_X12_voter (mi 5 rfl) rfl (fun hn => absurd hn (by decide)) (fun _ => ?_)
  refine ex_iload_n ok_X12_voter (mi 6 rfl) rfl ?_
  refine ex_iconst ok_X12_voter (mi 7 rfl) ?_
  refine ex_iconst ok_X12_voter (mi 8 rfl) ?_
  refine ex_callSr (As := [_, _, _]) ok_X12_voter (mi 9 rfl) rfl (m_in1 hst (by decide) (by decide)) rfl rfl rfl (by decide) (Nat.le_of_ble_eq_true rfl) (by decide) ?_
  refine ex_if_eq (tgt := 24) ok_X12_voter (mi 10 rfl) rfl (fun hn => absurd hn (by decide)) (fun _ => ?_)
  refine ex_iconst ok_X12_voter (mi 11 rfl) ?_
  refine ex_goto (tgt := 25) ok_X12_voter (mi 12 rfl) rfl ?_
  refine ex_iconst ok_X12_voter (mi 14 rfl) ?_
  refine ex_iconst ok_X12_voter (mi 15 rfl) ?_
  refine ex_callVr (As := [_, _, _]) (v := some (.int (nI 0))) (g1 := (ap x [(0, 0, 1200, 0, (nI 0))] h)) ok_X12_voter (mi 16 rfl) rfl (m_ref111 (ws := []) hst f.1) rfl (fk f.1 0 rfl) rfl rfl (by decide) (by decide) (Nat.le_of_ble_eq_true rfl) (by decide) ?_
  refine ex_if_eq (tgt := 35) ok_X12_voter (mi 17 rfl) rfl (fun _ => ?_) (fun hn => absurd (by decide) hn)
  refine ex_iconst ok_X12_voter (mi 20 rfl) ?_
  refine ex_istore_n ok_X12_voter (mi 21 rfl) ?_
  refine ex_iconst ok_X12_voter (mi 22 rfl) ?_
  refine ex_istore ok_X12_voter (mi 23 rfl) ?_
  refine ex_ls (ls' := [(0, .ref x), (1, .int (nI 4)), (2, .int (nI 0)), (3, .int (nI 0)), (4, .int (nI 0))]) ⟨rfl, rfl, rfl, rfl, rfl, trivial⟩ (lp_vt4 (shq apq f.1) (ap_tG0 rfl f.2.2.2) ?_ 16 0 rfl)
  refine ex_iload_n ok_X12_voter (mi 45 rfl) rfl ?_
  refine ex_if_ne (tgt := 90) ok_X12_voter (mi 46 rfl) rfl (fun hn => absurd (by decide) hn) (fun _ => ?_)
  refine ex_aload_n ok_X12_voter (mi 47 rfl) rfl ?_
  refine ex_getRx ok_X12_voter (mi 48 rfl) rfl rfl (kq apq (fk f.1 0 rfl)) (rq apq (fr f.1 42 rfl)) (kq apq (fk f.1 43 rfl)) (by decide) ?_
  refine ex_iload_n ok_X12_voter (mi 49 rfl) rfl ?_
  refine ex_ialdx ok_X12_voter (mi 50 rfl) (Or.inl (kq apq (fk f.1 43 rfl))) (nq apq (fn f.1 43 rfl)) (pk_in 4 12 (by decide)) (apA0 (j := 4) rfl (fe f.2.2.1 15 rfl)) ?_
  refine ex_goto (tgt := 105) ok_X12_voter (mi 51 rfl) rfl ?_
  refine ex_iret ok_X12_voter (mi 61 rfl) rfl ?_
  exact ⟨_, rfl, fun _ => by decide, apI (a := 0) rfl, kq apq (fk f.1 0 rfl), kp_ap rfl⟩
theorem d_voter_4_1 {G : GE} (hst : (ge_l G).stackTraces = false) {x : Nat}  : MM G 2 0 0 my_X12_voter x [.int (nI 4), .int (nI 1)] 0 (nI 0) := by
  intro h f
  refine ex_M_of ok_X12_voter cw_X12_voter rfl hst (Nat.le_of_ble_eq_true rfl) ?_
  refine ex_aload_n ok_X12_voter (mi 0 rfl) rfl ?_
  refine ex_iload_n ok_X12_voter (mi 1 rfl) rfl ?_
  refine ex_iconst ok_X12_voter (mi 2 rfl) ?_
  refine ex_bipush ok_X12_voter (mi 3 rfl) ?_
  refine ex_callSr (As := [_, _, _]) ok_X12_voter (mi 4 rfl) rfl (m_in1 hst (by decide) (by decide)) rfl rfl rfl (by decide) (Nat.le_of_ble_eq_true rfl) (by decide) ?_
  refine ex_if_eq (tgt := 24) ok_X12_voter (mi 5 rfl) rfl (fun hn => absurd hn (by decide)) (fun _ => ?_)
  refine ex_iload_n ok_X12_voter (mi 6 rfl) rfl ?_
  refine ex_iconst ok_X12_voter (mi 7 rfl) ?_
  refine ex_iconst ok_X12_voter (mi 8 rfl) ?_
  refine ex_callSr (As := [_, _, _]) ok_X12_voter (mi 9 rfl) rfl (m_in1 hst (by decide) (by decide)) rfl rfl rfl (by decide) (Nat.le_of_ble_eq_true rfl) (by decide) ?_
  refine ex_if_eq (tgt := 24) ok_X12_voter (mi 10 rfl) rfl (fun hn => absurd hn (by decide)) (fun _ => ?_)
  refine ex_iconst ok_X12_voter (mi 11 rfl) ?_
  refine ex_goto (tgt := 25) ok_X12_voter (mi 12 rfl) rfl ?_
  refine ex_iconst ok_X12_voter (mi 14 rfl) ?_
  refine ex_iconst ok_X12_voter (mi 15 rfl) ?_
  refine ex_callVr (As := [_, _, _]) (v := some (.int (nI 0))) (g1 := (ap x [(0, 0, 1200, 0, (nI 0))] h)) ok_X12_voter (mi 16 rfl) rfl (m_ref111 (ws := []) hst f.1) rfl (fk f.1 0 rfl) rfl rfl (by decide) (by decide) (Nat.le_of_ble_eq_true rfl) (by decide) ?_
  refine ex_if_eq (tgt := 35) ok_X12_voter (mi 17 rfl) rfl (fun _ => ?_) (fun hn => absurd (by decide) hn)
  refine ex_iconst ok_X12_voter (mi 20 rfl) ?_
  refine ex_istore_n ok_X12_voter (mi 21 rfl) ?_
  refine ex_iconst ok_X12_voter (mi 22 rfl) ?_
  refine ex_istore ok_X12_voter (mi 23 rfl) ?_
  refine ex_ls (ls' := [(0, .ref x), (1, .int (nI 4)), (2, .int (nI 1)), (3, .int (nI 0)), (4, .int (nI 0))]) ⟨rfl, rfl, rfl, rfl, rfl, trivial⟩ (lp_vt4 (shq apq f.1) (ap_tG0 rfl f.2.2.2) ?_ 16 0 rfl)
  refine ex_iload_n ok_X12_voter (mi 45 rfl) rfl ?_
  refine ex_if_ne (tgt := 90) ok_X12_voter (mi 46 rfl) rfl (fun _ => ?_) (fun hn => absurd hn (by decide))
  refine ex_iload_n ok_X12_voter (mi 52 rfl) rfl ?_
  refine ex_iconst ok_X12_voter (mi 53 rfl) ?_
  refine ex_icmp_ne (tgt := 104) ok_X12_voter (mi 54 rfl) rfl (fun hn => absurd (by decide) hn) (fun _ => ?_)
  refine ex_aload_n ok_X12_voter (mi 55 rfl) rfl ?_
  refine ex_getRx ok_X12_voter (mi 56 rfl) rfl rfl (kq apq (fk f.1 0 rfl)) (rq apq (fr f.1 43 rfl)) (kq apq (fk f.1 44 rfl)) (by decide) ?_
  refine ex_iload_n ok_X12_voter (mi 57 rfl) rfl ?_
  refine ex_ialdx ok_X12_voter (mi 58 rfl) (Or.inl (kq apq (fk f.1 44 rfl))) (nq apq (fn f.1 44 rfl)) (pk_in 4 12 (by decide)) (apA0 (j := 4) rfl (fe f.2.2.1 14 rfl)) ?_
  refine ex_goto (tgt := 105) ok_X12_voter (mi 59 rfl) rfl ?_
  refine ex_iret ok_X12_voter (mi 61 rfl) rfl ?_
  exact ⟨_, rfl, fun _ => by decide, apI (a := 0) rfl, kq apq (fk f.1 0 rfl), kp_ap rfl⟩
theorem d_voter_4_2 {G : GE} (hst : (ge_l G).stackTraces = false) {x : Nat}  : MM G 2 0 0 my_X12_voter x [.int (nI 4), .int (nI 2)] 0 (nI 0) := by
  intro h f
  refine ex_M_of ok_X12_voter cw_X12_voter rfl hst (Nat.le_of_ble_eq_true rfl) ?_
  refine ex_aload_n ok_X12_voter (mi 0 rfl) rfl ?_
  refine ex_iload_n ok_X12_voter (mi 1 rfl) rfl ?_
  refine ex_iconst ok_X12_voter (mi 2 rfl) ?_
  refine ex_bipush ok_X12_voter (mi 3 rfl) ?_
  refine ex_callSr (As := [_, _, _]) ok_X12_voter (mi 4 rfl) rfl (m_in1 hst (by decide) (by decide)) rfl rfl rfl (by decide) (Nat.le_of_ble_eq_true rfl) (by decide) ?_
  refine ex_if_eq (tgt := 24) ok_X12_voter (mi 5 rfl) rfl (fun hn => absurd hn (by decide)) (fun _ => ?_)
  refine ex_iload_n ok_X12_voter (mi 6 rfl) rfl ?_
  refine ex_iconst ok_X12_voter (mi 7 rfl) ?_
  refine ex_iconst ok_X12_voter (mi 8 rfl) ?_
  refine ex_callSr (As := [_, _, _]) ok_X12_voter (mi 9 rfl) rfl (m_in1 hst (by decide) (by decide)) rfl rfl rfl (by decide) (Nat.le_of_ble_eq_true rfl) (by decide) ?_
  refine ex_if_eq (tgt := 24) ok_X12_voter (mi 10 rfl) rfl (fun hn => absurd hn (by decide)) (fun _ => ?_)
  refine ex_iconst ok_X12_voter (mi 11 rfl) ?_
  refine ex_goto (tgt := 25) ok_X12_voter (mi 12 rfl) rfl ?_
  refine ex_iconst ok_X12_voter (mi 14 rfl) ?_
  refine ex_iconst ok_X12_voter (mi 15 rfl) ?_
  refine ex_callVr (As := [_, _, _]) (v := some (.int (nI 0))) (g1 := (ap x [(0, 0, 1200, 0, (nI 0))] h)) ok_X12_voter (mi 16 rfl) rfl (m_ref111 (ws := []) hst f.1) rfl (fk f.1 0 rfl) rfl rfl (by decide) (by decide) (Nat.le_of_ble_eq_true rfl) (by decide) ?_
  refine ex_if_eq (tgt := 35) ok_X12_voter (mi 17 rfl) rfl (fun _ => ?_) (fun hn => absurd (by decide) hn)
  refine ex_iconst ok_X12_voter (mi 20 rfl) ?_
  refine ex_istore_n ok_X12_voter (mi 21 rfl) ?_
  refine ex_iconst ok_X12_voter (mi 22 rfl) ?_
  refine ex_istore ok_X12_voter (mi 23 rfl) ?_
  refine ex_ls (ls' := [(0, .ref x), (1, .int (nI 4)), (2, .int (nI 2)), (3, .int (nI 0)), (4, .int (nI 0))]) ⟨rfl, rfl, rfl, rfl, rfl, trivial⟩ (lp_vt4 (shq apq f.1) (ap_tG0 rfl f.2.2.2) ?_ 16 0 rfl)
  refine ex_iload_n ok_X12_voter (mi 45 rfl) rfl ?_
  refine ex_if_ne (tgt := 90) ok_X12_voter (mi 46 rfl) rfl (fun _ => ?_) (fun hn => absurd hn (by decide))
  refine ex_iload_n ok_X12_voter (mi 52 rfl) rfl ?_
  refine ex_iconst ok_X12_voter (mi 53 rfl) ?_
  refine ex_icmp_ne (tgt := 104) ok_X12_voter (mi 54 rfl) rfl (fun _ => ?_) (fun hn => absurd hn (by decide))
  refine ex_iload_n ok_X12_voter (mi 60 rfl) rfl ?_
  refine ex_iret ok_X12_voter (mi 61 rfl) rfl ?_
  exact ⟨_, rfl, fun _ => by decide, apI (a := 0) rfl, kq apq (fk f.1 0 rfl), kp_ap rfl⟩
theorem d_vote_4_0 {G : GE} (hst : (ge_l G).stackTraces = false) {x : Nat} {j : Nat} (hj : j < 16) : MM G 2 0 0 my_X12_vote x [.int (nI 4), .int (nI j), .int (nI 0)] 0 ((-1)) := by
  intro h f
  refine ex_M_of ok_X12_vote cw_X12_vote rfl hst (Nat.le_of_ble_eq_true rfl) ?_
  refine ex_aload_n ok_X12_vote (mi 0 rfl) rfl ?_
  refine ex_iload_n ok_X12_vote (mi 1 rfl) rfl ?_
  refine ex_iconst ok_X12_vote (mi 2 rfl) ?_
  refine ex_bipush ok_X12_vote (mi 3 rfl) ?_
  refine ex_callSr (As := [_, _, _]) ok_X12_vote (mi 4 rfl) rfl (m_in1 hst (by decide) (by decide)) rfl rfl rfl (by decide) (Nat.le_of_ble_eq_true rfl) (by decide) ?_
  refine ex_if_eq (tgt := 25) ok_X12_vote (mi 5 rfl) rfl (fun hn => absurd hn (by decide)) (fun _ => ?_)
  refine ex_iload_n ok_X12_vote (mi 6 rfl) rfl ?_
  refine ex_iconst ok_X12_vote (mi 7 rfl) ?_
  refine ex_bipush ok_X12_vote (mi 8 rfl) ?_
  refine ex_callSr (As := [_, _, _]) ok_X12_vote (mi 9 rfl) rfl (m_in1 hst (vlo (vp_in_nI hj (by decide)) (by decide)) (vhi (vp_in_nI hj (by decide)) (by decide))) rfl rfl rfl (by decide) (Nat.le_of_ble_eq_true rfl) (by decide) ?_
  refine ex_if_eq (tgt := 25) ok_X12_vote (mi 10 rfl) rfl (fun hn => absurd hn (by decide)) (fun _ => ?_)
  refine ex_iconst ok_X12_vote (mi 11 rfl) ?_
  refine ex_goto (tgt := 26) ok_X12_vote (mi 12 rfl) rfl ?_
  refine ex_iconst ok_X12_vote (mi 14 rfl) ?_
  refine ex_iconst ok_X12_vote (mi 15 rfl) ?_
  refine ex_callVr (As := [_, _, _]) (v := some (.int (nI 0))) (g1 := (ap x [(0, 0, 1200, 0, (nI 0))] h)) ok_X12_vote (mi 16 rfl) rfl (m_ref111 (ws := []) hst f.1) rfl (fk f.1 0 rfl) rfl rfl (by decide) (by decide) (Nat.le_of_ble_eq_true rfl) (by decide) ?_
  refine ex_if_eq (tgt := 36) ok_X12_vote (mi 17 rfl) rfl (fun _ => ?_) (fun hn => absurd (by decide) hn)
  refine ex_bipush ok_X12_vote (mi 20 rfl) ?_
  refine ex_iload_n ok_X12_vote (mi 21 rfl) rfl ?_
  refine ex_imul ok_X12_vote (mi 22 rfl) ?_
  refine ex_top (w := (nI 64)) (by decide) ?_
  refine ex_iload_n ok_X12_vote (mi 23 rfl) rfl ?_
  refine ex_iadd ok_X12_vote (mi 24 rfl) ?_
  refine ex_top (w := (nI (64 + j))) (nI_add 64 j) ?_
  refine ex_istore ok_X12_vote (mi 25 rfl) ?_
  refine ex_aload_n ok_X12_vote (mi 26 rfl) rfl ?_
  refine ex_getRx ok_X12_vote (mi 27 rfl) rfl rfl (kq apq (fk f.1 0 rfl)) (rq apq (fr f.1 44 rfl)) (kq apq (fk f.1 45 rfl)) (by decide) ?_
  refine ex_iload ok_X12_vote (mi 28 rfl) rfl ?_
  refine ex_ialdx ok_X12_vote (mi 29 rfl) (Or.inl (kq apq (fk f.1 45 rfl))) (nq apq (fn f.1 45 rfl)) (vp_in_nI (by omega) (by decide)) (apA0 (rfl) (fg f.2.2.2 5 rfl (by rw [nI_clamp (by omega)]; omega) (by rw [nI_clamp (by omega)]; omega))) ?_
  refine ex_iconst ok_X12_vote (mi 30 rfl) ?_
  refine ex_icmp_ne (tgt := 59) ok_X12_vote (mi 31 rfl) rfl (fun hn => absurd (by decide) hn) (fun _ => ?_)
  refine ex_iconst ok_X12_vote (mi 32 rfl) ?_
  refine ex_goto (tgt := 80) ok_X12_vote (mi 33 rfl) rfl ?_
  refine ex_iret ok_X12_vote (mi 45 rfl) rfl ?_
  exact ⟨_, rfl, fun _ => by decide, apI (a := 0) rfl, kq apq (fk f.1 0 rfl), kp_ap rfl⟩
theorem d_vote_4_1 {G : GE} (hst : (ge_l G).stackTraces = false) {x : Nat} {j : Nat} (hj : j < 16) : MM G 2 0 0 my_X12_vote x [.int (nI 4), .int (nI j), .int (nI 1)] 0 ((-1)) := by
  intro h f
  refine ex_M_of ok_X12_vote cw_X12_vote rfl hst (Nat.le_of_ble_eq_true rfl) ?_
  refine ex_aload_n ok_X12_vote (mi 0 rfl) rfl ?_
  refine ex_iload_n ok_X12_vote (mi 1 rfl) rfl ?_
  refine ex_iconst ok_X12_vote (mi 2 rfl) ?_
  refine ex_bipush ok_X12_vote (mi 3 rfl) ?_
  refine ex_callSr (As := [_, _, _]) ok_X12_vote (mi 4 rfl) rfl (m_in1 hst (by decide) (by decide)) rfl rfl rfl (by decide) (Nat.le_of_ble_eq_true rfl) (by decide) ?_
  refine ex_if_eq (tgt := 25) ok_X12_vote (mi 5 rfl) rfl (fun hn => absurd hn (by decide)) (fun _ => ?_)
  refine ex_iload_n ok_X12_vote (mi 6 rfl) rfl ?_
  refine ex_iconst ok_X12_vote (mi 7 rfl) ?_
  refine ex_bipush ok_X12_vote (mi 8 rfl) ?_
  refine ex_callSr (As := [_, _, _]) ok_X12_vote (mi 9 rfl) rfl (m_in1 hst (vlo (vp_in_nI hj (by decide)) (by decide)) (vhi (vp_in_nI hj (by decide)) (by decide))) rfl rfl rfl (by decide) (Nat.le_of_ble_eq_true rfl) (by decide) ?_
  refine ex_if_eq (tgt := 25) ok_X12_vote (mi 10 rfl) rfl (fun hn => absurd hn (by decide)) (fun _ => ?_)
  refine ex_iconst ok_X12_vote (mi 11 rfl) ?_
  refine ex_goto (tgt := 26) ok_X12_vote (mi 12 rfl) rfl ?_
  refine ex_iconst ok_X12_vote (mi 14 rfl) ?_
  refine ex_iconst ok_X12_vote (mi 15 rfl) ?_
  refine ex_callVr (As := [_, _, _]) (v := some (.int (nI 0))) (g1 := (ap x [(0, 0, 1200, 0, (nI 0))] h)) ok_X12_vote (mi 16 rfl) rfl (m_ref111 (ws := []) hst f.1) rfl (fk f.1 0 rfl) rfl rfl (by decide) (by decide) (Nat.le_of_ble_eq_true rfl) (by decide) ?_
  refine ex_if_eq (tgt := 36) ok_X12_vote (mi 17 rfl) rfl (fun _ => ?_) (fun hn => absurd (by decide) hn)
  refine ex_bipush ok_X12_vote (mi 20 rfl) ?_
  refine ex_iload_n ok_X12_vote (mi 21 rfl) rfl ?_
  refine ex_imul ok_X12_vote (mi 22 rfl) ?_
  refine ex_top (w := (nI 64)) (by decide) ?_
  refine ex_iload_n ok_X12_vote (mi 23 rfl) rfl ?_
  refine ex_iadd ok_X12_vote (mi 24 rfl) ?_
  refine ex_top (w := (nI (64 + j))) (nI_add 64 j) ?_
  refine ex_istore ok_X12_vote (mi 25 rfl) ?_
  refine ex_aload_n ok_X12_vote (mi 26 rfl) rfl ?_
  refine ex_getRx ok_X12_vote (mi 27 rfl) rfl rfl (kq apq (fk f.1 0 rfl)) (rq apq (fr f.1 44 rfl)) (kq apq (fk f.1 45 rfl)) (by decide) ?_
  refine ex_iload ok_X12_vote (mi 28 rfl) rfl ?_
  refine ex_ialdx ok_X12_vote (mi 29 rfl) (Or.inl (kq apq (fk f.1 45 rfl))) (nq apq (fn f.1 45 rfl)) (vp_in_nI (by omega) (by decide)) (apA0 (rfl) (fg f.2.2.2 5 rfl (by rw [nI_clamp (by omega)]; omega) (by rw [nI_clamp (by omega)]; omega))) ?_
  refine ex_iconst ok_X12_vote (mi 30 rfl) ?_
  refine ex_icmp_ne (tgt := 59) ok_X12_vote (mi 31 rfl) rfl (fun hn => absurd (by decide) hn) (fun _ => ?_)
  refine ex_iconst ok_X12_vote (mi 32 rfl) ?_
  refine ex_goto (tgt := 80) ok_X12_vote (mi 33 rfl) rfl ?_
  refine ex_iret ok_X12_vote (mi 45 rfl) rfl ?_
  exact ⟨_, rfl, fun _ => by decide, apI (a := 0) rfl, kq apq (fk f.1 0 rfl), kp_ap rfl⟩
theorem d_voter_5_0 {G : GE} (hst : (ge_l G).stackTraces = false) {x : Nat}  : MM G 2 0 0 my_X12_voter x [.int (nI 5), .int (nI 0)] 0 ((-1)) := by
  intro h f
  refine ex_M_of ok_X12_voter cw_X12_voter rfl hst (Nat.le_of_ble_eq_true rfl) ?_
  refine ex_aload_n ok_X12_voter (mi 0 rfl) rfl ?_
  refine ex_iload_n ok_X12_voter (mi 1 rfl) rfl ?_
  refine ex_iconst ok_X12_voter (mi 2 rfl) ?_
  refine ex_bipush ok_X12_voter (mi 3 rfl) ?_
  refine ex_callSr (As := [_, _, _]) ok_X12_voter (mi 4 rfl) rfl (m_in1 hst (by decide) (by decide)) rfl rfl rfl (by decide) (Nat.le_of_ble_eq_true rfl) (by decide) ?_
  refine ex_if_eq (tgt := 24) ok_X12_voter (mi 5 rfl) rfl (fun hn => absurd hn (by decide)) (fun _ => ?_)
  refine ex_iload_n ok_X12_voter (mi 6 rfl) rfl ?_
  refine ex_iconst ok_X12_voter (mi 7 rfl) ?_
  refine ex_iconst ok_X12_voter (mi 8 rfl) ?_
  refine ex_callSr (As := [_, _, _]) ok_X12_voter (mi 9 rfl) rfl (m_in1 hst (by decide) (by decide)) rfl rfl rfl (by decide) (Nat.le_of_ble_eq_true rfl) (by decide) ?_
  refine ex_if_eq (tgt := 24) ok_X12_voter (mi 10 rfl) rfl (fun hn => absurd hn (by decide)) (fun _ => ?_)
  refine ex_iconst ok_X12_voter (mi 11 rfl) ?_
  refine ex_goto (tgt := 25) ok_X12_voter (mi 12 rfl) rfl ?_
  refine ex_iconst ok_X12_voter (mi 14 rfl) ?_
  refine ex_iconst ok_X12_voter (mi 15 rfl) ?_
  refine ex_callVr (As := [_, _, _]) (v := some (.int (nI 0))) (g1 := (ap x [(0, 0, 1200, 0, (nI 0))] h)) ok_X12_voter (mi 16 rfl) rfl (m_ref111 (ws := []) hst f.1) rfl (fk f.1 0 rfl) rfl rfl (by decide) (by decide) (Nat.le_of_ble_eq_true rfl) (by decide) ?_
  refine ex_if_eq (tgt := 35) ok_X12_voter (mi 17 rfl) rfl (fun _ => ?_) (fun hn => absurd (by decide) hn)
  refine ex_iconst ok_X12_voter (mi 20 rfl) ?_
  refine ex_istore_n ok_X12_voter (mi 21 rfl) ?_
  refine ex_iconst ok_X12_voter (mi 22 rfl) ?_
  refine ex_istore ok_X12_voter (mi 23 rfl) ?_
  refine ex_ls (ls' := [(0, .ref x), (1, .int (nI 5)), (2, .int (nI 0)), (3, .int (nI 0)), (4, .int (nI 0))]) ⟨rfl, rfl, rfl, rfl, rfl, trivial⟩ (lp_vt5 (shq apq f.1) (ap_tG0 rfl f.2.2.2) ?_ 16 0 rfl)
  refine ex_iload_n ok_X12_voter (mi 45 rfl) rfl ?_
  refine ex_if_ne (tgt := 90) ok_X12_voter (mi 46 rfl) rfl (fun hn => absurd (by decide) hn) (fun _ => ?_)
  refine ex_aload_n ok_X12_voter (mi 47 rfl) rfl ?_
  refine ex_getRx ok_X12_voter (mi 48 rfl) rfl rfl (kq apq (fk f.1 0 rfl)) (rq apq (fr f.1 42 rfl)) (kq apq (fk f.1 43 rfl)) (by decide) ?_
  refine ex_iload_n ok_X12_voter (mi 49 rfl) rfl ?_
  refine ex_ialdx ok_X12_voter (mi 50 rfl) (Or.inl (kq apq (fk f.1 43 rfl))) (nq apq (fn f.1 43 rfl)) (pk_in 5 12 (by decide)) (apA0 (j := 5) rfl (fe f.2.2.1 13 rfl)) ?_
  refine ex_goto (tgt := 105) ok_X12_voter (mi 51 rfl) rfl ?_
  refine ex_iret ok_X12_voter (mi 61 rfl) rfl ?_
  exact ⟨_, rfl, fun _ => by decide, apI (a := 0) rfl, kq apq (fk f.1 0 rfl), kp_ap rfl⟩
theorem d_voter_5_1 {G : GE} (hst : (ge_l G).stackTraces = false) {x : Nat}  : MM G 2 0 0 my_X12_voter x [.int (nI 5), .int (nI 1)] 0 (nI 0) := by
  intro h f
  refine ex_M_of ok_X12_voter cw_X12_voter rfl hst (Nat.le_of_ble_eq_true rfl) ?_
  refine ex_aload_n ok_X12_voter (mi 0 rfl) rfl ?_
  refine ex_iload_n ok_X12_voter (mi 1 rfl) rfl ?_
  refine ex_iconst ok_X12_voter (mi 2 rfl) ?_
  refine ex_bipush ok_X12_voter (mi 3 rfl) ?_
  refine ex_callSr (As := [_, _, _]) ok_X12_voter (mi 4 rfl) rfl (m_in1 hst (by decide) (by decide)) rfl rfl rfl (by decide) (Nat.le_of_ble_eq_true rfl) (by decide) ?_
  refine ex_if_eq (tgt := 24) ok_X12_voter (mi 5 rfl) rfl (fun hn => absurd hn (by decide)) (fun _ => ?_)
  refine ex_iload_n ok_X12_voter (mi 6 rfl) rfl ?_
  refine ex_iconst ok_X12_voter (mi 7 rfl) ?_
  refine ex_iconst ok_X12_voter (mi 8 rfl) ?_
  refine ex_callSr (As := [_, _, _]) ok_X12_voter (mi 9 rfl) rfl (m_in1 hst (by decide) (by decide)) rfl rfl rfl (by decide) (Nat.le_of_ble_eq_true rfl) (by decide) ?_
  refine ex_if_eq (tgt := 24) ok_X12_voter (mi 10 rfl) rfl (fun hn => absurd hn (by decide)) (fun _ => ?_)
  refine ex_iconst ok_X12_voter (mi 11 rfl) ?_
  refine ex_goto (tgt := 25) ok_X12_voter (mi 12 rfl) rfl ?_
  refine ex_iconst ok_X12_voter (mi 14 rfl) ?_
  refine ex_iconst ok_X12_voter (mi 15 rfl) ?_
  refine ex_callVr (As := [_, _, _]) (v := some (.int (nI 0))) (g1 := (ap x [(0, 0, 1200, 0, (nI 0))] h)) ok_X12_voter (mi 16 rfl) rfl (m_ref111 (ws := []) hst f.1) rfl (fk f.1 0 rfl) rfl rfl (by decide) (by decide) (Nat.le_of_ble_eq_true rfl) (by decide) ?_
  refine ex_if_eq (tgt := 35) ok_X12_voter (mi 17 rfl) rfl (fun _ => ?_) (fun hn => absurd (by decide) hn)
  refine ex_iconst ok_X12_voter (mi 20 rfl) ?_
  refine ex_istore_n ok_X12_voter (mi 21 rfl) ?_
  refine ex_iconst ok_X12_voter (mi 22 rfl) ?_
  refine ex_istore ok_X12_voter (mi 23 rfl) ?_
  refine ex_ls (ls' := [(0, .ref x), (1, .int (nI 5)), (2, .int (nI 1)), (3, .int (nI 0)), (4, .int (nI 0))]) ⟨rfl, rfl, rfl, rfl, rfl, trivial⟩ (lp_vt5 (shq apq f.1) (ap_tG0 rfl f.2.2.2) ?_ 16 0 rfl)
  refine ex_iload_n ok_X12_voter (mi 45 rfl) rfl ?_
  refine ex_if_ne (tgt := 90) ok_X12_voter (mi 46 rfl) rfl (fun _ => ?_) (fun hn => absurd hn (by decide))
  refine ex_iload_n ok_X12_voter (mi 52 rfl) rfl ?_
  refine ex_iconst ok_X12_voter (mi 53 rfl) ?_
  refine ex_icmp_ne (tgt := 104) ok_X12_voter (mi 54 rfl) rfl (fun hn => absurd (by decide) hn) (fun _ => ?_)
  refine ex_aload_n ok_X12_voter (mi 55 rfl) rfl ?_
  refine ex_getRx ok_X12_voter (mi 56 rfl) rfl rfl (kq apq (fk f.1 0 rfl)) (rq apq (fr f.1 43 rfl)) (kq apq (fk f.1 44 rfl)) (by decide) ?_
  refine ex_iload_n ok_X12_voter (mi 57 rfl) rfl ?_
  refine ex_ialdx ok_X12_voter (mi 58 rfl) (Or.inl (kq apq (fk f.1 44 rfl))) (nq apq (fn f.1 44 rfl)) (pk_in 5 12 (by decide)) (apA0 (j := 5) rfl (fe f.2.2.1 12 rfl)) ?_
  refine ex_goto (tgt := 105) ok_X12_voter (mi 59 rfl) rfl ?_
  refine ex_iret ok_X12_voter (mi 61 rfl) rfl ?_
  exact ⟨_, rfl, fun _ => by decide, apI (a := 0) rfl, kq apq (fk f.1 0 rfl), kp_ap rfl⟩
theorem d_voter_5_2 {G : GE} (hst : (ge_l G).stackTraces = false) {x : Nat}  : MM G 2 0 0 my_X12_voter x [.int (nI 5), .int (nI 2)] 0 (nI 0) := by
  intro h f
  refine ex_M_of ok_X12_voter cw_X12_voter rfl hst (Nat.le_of_ble_eq_true rfl) ?_
  refine ex_aload_n ok_X12_voter (mi 0 rfl) rfl ?_
  refine ex_iload_n ok_X12_voter (mi 1 rfl) rfl ?_
  refine ex_iconst ok_X12_voter (mi 2 rfl) ?_
  refine ex_bipush ok_X12_voter (mi 3 rfl) ?_
  refine ex_callSr (As := [_, _, _]) ok_X12_voter (mi 4 rfl) rfl (m_in1 hst (by decide) (by decide)) rfl rfl rfl (by decide) (Nat.le_of_ble_eq_true rfl) (by decide) ?_
  refine ex_if_eq (tgt := 24) ok_X12_voter (mi 5 rfl) rfl (fun hn => absurd hn (by decide)) (fun _ => ?_)
  refine ex_iload_n ok_X12_voter (mi 6 rfl) rfl ?_
  refine ex_iconst ok_X12_voter (mi 7 rfl) ?_
  refine ex_iconst ok_X12_voter (mi 8 rfl) ?_
  refine ex_callSr (As := [_, _, _]) ok_X12_voter (mi 9 rfl) rfl (m_in1 hst (by decide) (by decide)) rfl rfl rfl (by decide) (Nat.le_of_ble_eq_true rfl) (by decide) ?_
  refine ex_if_eq (tgt := 24) ok_X12_voter (mi 10 rfl) rfl (fun hn => absurd hn (by decide)) (fun _ => ?_)
  refine ex_iconst ok_X12_voter (mi 11 rfl) ?_
  refine ex_goto (tgt := 25) ok_X12_voter (mi 12 rfl) rfl ?_
  refine ex_iconst ok_X12_voter (mi 14 rfl) ?_
  refine ex_iconst ok_X12_voter (mi 15 rfl) ?_
  refine ex_callVr (As := [_, _, _]) (v := some (.int (nI 0))) (g1 := (ap x [(0, 0, 1200, 0, (nI 0))] h)) ok_X12_voter (mi 16 rfl) rfl (m_ref111 (ws := []) hst f.1) rfl (fk f.1 0 rfl) rfl rfl (by decide) (by decide) (Nat.le_of_ble_eq_true rfl) (by decide) ?_
  refine ex_if_eq (tgt := 35) ok_X12_voter (mi 17 rfl) rfl (fun _ => ?_) (fun hn => absurd (by decide) hn)
  refine ex_iconst ok_X12_voter (mi 20 rfl) ?_
  refine ex_istore_n ok_X12_voter (mi 21 rfl) ?_
  refine ex_iconst ok_X12_voter (mi 22 rfl) ?_
  refine ex_istore ok_X12_voter (mi 23 rfl) ?_
  refine ex_ls (ls' := [(0, .ref x), (1, .int (nI 5)), (2, .int (nI 2)), (3, .int (nI 0)), (4, .int (nI 0))]) ⟨rfl, rfl, rfl, rfl, rfl, trivial⟩ (lp_vt5 (shq apq f.1) (ap_tG0 rfl f.2.2.2) ?_ 16 0 rfl)
  refine ex_iload_n ok_X12_voter (mi 45 rfl) rfl ?_
  refine ex_if_ne (tgt := 90) ok_X12_voter (mi 46 rfl) rfl (fun _ => ?_) (fun hn => absurd hn (by decide))
  refine ex_iload_n ok_X12_voter (mi 52 rfl) rfl ?_
  refine ex_iconst ok_X12_voter (mi 53 rfl) ?_
  refine ex_icmp_ne (tgt := 104) ok_X12_voter (mi 54 rfl) rfl (fun _ => ?_) (fun hn => absurd hn (by decide))
  refine ex_iload_n ok_X12_voter (mi 60 rfl) rfl ?_
  refine ex_iret ok_X12_voter (mi 61 rfl) rfl ?_
  exact ⟨_, rfl, fun _ => by decide, apI (a := 0) rfl, kq apq (fk f.1 0 rfl), kp_ap rfl⟩
theorem d_vote_5_0 {G : GE} (hst : (ge_l G).stackTraces = false) {x : Nat} {j : Nat} (hj : j < 16) : MM G 2 0 0 my_X12_vote x [.int (nI 5), .int (nI j), .int (nI 0)] 0 ((-1)) := by
  intro h f
  refine ex_M_of ok_X12_vote cw_X12_vote rfl hst (Nat.le_of_ble_eq_true rfl) ?_
  refine ex_aload_n ok_X12_vote (mi 0 rfl) rfl ?_
  refine ex_iload_n ok_X12_vote (mi 1 rfl) rfl ?_
  refine ex_iconst ok_X12_vote (mi 2 rfl) ?_
  refine ex_bipush ok_X12_vote (mi 3 rfl) ?_
  refine ex_callSr (As := [_, _, _]) ok_X12_vote (mi 4 rfl) rfl (m_in1 hst (by decide) (by decide)) rfl rfl rfl (by decide) (Nat.le_of_ble_eq_true rfl) (by decide) ?_
  refine ex_if_eq (tgt := 25) ok_X12_vote (mi 5 rfl) rfl (fun hn => absurd hn (by decide)) (fun _ => ?_)
  refine ex_iload_n ok_X12_vote (mi 6 rfl) rfl ?_
  refine ex_iconst ok_X12_vote (mi 7 rfl) ?_
  refine ex_bipush ok_X12_vote (mi 8 rfl) ?_
  refine ex_callSr (As := [_, _, _]) ok_X12_vote (mi 9 rfl) rfl (m_in1 hst (vlo (vp_in_nI hj (by decide)) (by decide)) (vhi (vp_in_nI hj (by decide)) (by decide))) rfl rfl rfl (by decide) (Nat.le_of_ble_eq_true rfl) (by decide) ?_
  refine ex_if_eq (tgt := 25) ok_X12_vote (mi 10 rfl) rfl (fun hn => absurd hn (by decide)) (fun _ => ?_)
  refine ex_iconst ok_X12_vote (mi 11 rfl) ?_
  refine ex_goto (tgt := 26) ok_X12_vote (mi 12 rfl) rfl ?_
  refine ex_iconst ok_X12_vote (mi 14 rfl) ?_
  refine ex_iconst ok_X12_vote (mi 15 rfl) ?_
  refine ex_callVr (As := [_, _, _]) (v := some (.int (nI 0))) (g1 := (ap x [(0, 0, 1200, 0, (nI 0))] h)) ok_X12_vote (mi 16 rfl) rfl (m_ref111 (ws := []) hst f.1) rfl (fk f.1 0 rfl) rfl rfl (by decide) (by decide) (Nat.le_of_ble_eq_true rfl) (by decide) ?_
  refine ex_if_eq (tgt := 36) ok_X12_vote (mi 17 rfl) rfl (fun _ => ?_) (fun hn => absurd (by decide) hn)
  refine ex_bipush ok_X12_vote (mi 20 rfl) ?_
  refine ex_iload_n ok_X12_vote (mi 21 rfl) rfl ?_
  refine ex_imul ok_X12_vote (mi 22 rfl) ?_
  refine ex_top (w := (nI 80)) (by decide) ?_
  refine ex_iload_n ok_X12_vote (mi 23 rfl) rfl ?_
  refine ex_iadd ok_X12_vote (mi 24 rfl) ?_
  refine ex_top (w := (nI (80 + j))) (nI_add 80 j) ?_
  refine ex_istore ok_X12_vote (mi 25 rfl) ?_
  refine ex_aload_n ok_X12_vote (mi 26 rfl) rfl ?_
  refine ex_getRx ok_X12_vote (mi 27 rfl) rfl rfl (kq apq (fk f.1 0 rfl)) (rq apq (fr f.1 44 rfl)) (kq apq (fk f.1 45 rfl)) (by decide) ?_
  refine ex_iload ok_X12_vote (mi 28 rfl) rfl ?_
  refine ex_ialdx ok_X12_vote (mi 29 rfl) (Or.inl (kq apq (fk f.1 45 rfl))) (nq apq (fn f.1 45 rfl)) (vp_in_nI (by omega) (by decide)) (apA0 (rfl) (fg f.2.2.2 5 rfl (by rw [nI_clamp (by omega)]; omega) (by rw [nI_clamp (by omega)]; omega))) ?_
  refine ex_iconst ok_X12_vote (mi 30 rfl) ?_
  refine ex_icmp_ne (tgt := 59) ok_X12_vote (mi 31 rfl) rfl (fun hn => absurd (by decide) hn) (fun _ => ?_)
  refine ex_iconst ok_X12_vote (mi 32 rfl) ?_
  refine ex_goto (tgt := 80) ok_X12_vote (mi 33 rfl) rfl ?_
  refine ex_iret ok_X12_vote (mi 45 rfl) rfl ?_
  exact ⟨_, rfl, fun _ => by decide, apI (a := 0) rfl, kq apq (fk f.1 0 rfl), kp_ap rfl⟩
theorem d_vote_5_1 {G : GE} (hst : (ge_l G).stackTraces = false) {x : Nat} {j : Nat} (hj : j < 16) : MM G 2 0 0 my_X12_vote x [.int (nI 5), .int (nI j), .int (nI 1)] 0 ((-1)) := by
  intro h f
  refine ex_M_of ok_X12_vote cw_X12_vote rfl hst (Nat.le_of_ble_eq_true rfl) ?_
  refine ex_aload_n ok_X12_vote (mi 0 rfl) rfl ?_
  refine ex_iload_n ok_X12_vote (mi 1 rfl) rfl ?_
  refine ex_iconst ok_X12_vote (mi 2 rfl) ?_
  refine ex_bipush ok_X12_vote (mi 3 rfl) ?_
  refine ex_callSr (As := [_, _, _]) ok_X12_vote (mi 4 rfl) rfl (m_in1 hst (by decide) (by decide)) rfl rfl rfl (by decide) (Nat.le_of_ble_eq_true rfl) (by decide) ?_
  refine ex_if_eq (tgt := 25) ok_X12_vote (mi 5 rfl) rfl (fun hn => absurd hn (by decide)) (fun _ => ?_)
  refine ex_iload_n ok_X12_vote (mi 6 rfl) rfl ?_
  refine ex_iconst ok_X12_vote (mi 7 rfl) ?_
  refine ex_bipush ok_X12_vote (mi 8 rfl) ?_
  refine ex_callSr (As := [_, _, _]) ok_X12_vote (mi 9 rfl) rfl (m_in1 hst (vlo (vp_in_nI hj (by decide)) (by decide)) (vhi (vp_in_nI hj (by decide)) (by decide))) rfl rfl rfl (by decide) (Nat.le_of_ble_eq_true rfl) (by decide) ?_
  refine ex_if_eq (tgt := 25) ok_X12_vote (mi 10 rfl) rfl (fun hn => absurd hn (by decide)) (fun _ => ?_)
  refine ex_iconst ok_X12_vote (mi 11 rfl) ?_
  refine ex_goto (tgt := 26) ok_X12_vote (mi 12 rfl) rfl ?_
  refine ex_iconst ok_X12_vote (mi 14 rfl) ?_
  refine ex_iconst ok_X12_vote (mi 15 rfl) ?_
  refine ex_callVr (As := [_, _, _]) (v := some (.int (nI 0))) (g1 := (ap x [(0, 0, 1200, 0, (nI 0))] h)) ok_X12_vote (mi 16 rfl) rfl (m_ref111 (ws := []) hst f.1) rfl (fk f.1 0 rfl) rfl rfl (by decide) (by decide) (Nat.le_of_ble_eq_true rfl) (by decide) ?_
  refine ex_if_eq (tgt := 36) ok_X12_vote (mi 17 rfl) rfl (fun _ => ?_) (fun hn => absurd (by decide) hn)
  refine ex_bipush ok_X12_vote (mi 20 rfl) ?_
  refine ex_iload_n ok_X12_vote (mi 21 rfl) rfl ?_
  refine ex_imul ok_X12_vote (mi 22 rfl) ?_
  refine ex_top (w := (nI 80)) (by decide) ?_
  refine ex_iload_n ok_X12_vote (mi 23 rfl) rfl ?_
  refine ex_iadd ok_X12_vote (mi 24 rfl) ?_
  refine ex_top (w := (nI (80 + j))) (nI_add 80 j) ?_
  refine ex_istore ok_X12_vote (mi 25 rfl) ?_
  refine ex_aload_n ok_X12_vote (mi 26 rfl) rfl ?_
  refine ex_getRx ok_X12_vote (mi 27 rfl) rfl rfl (kq apq (fk f.1 0 rfl)) (rq apq (fr f.1 44 rfl)) (kq apq (fk f.1 45 rfl)) (by decide) ?_
  refine ex_iload ok_X12_vote (mi 28 rfl) rfl ?_
  refine ex_ialdx ok_X12_vote (mi 29 rfl) (Or.inl (kq apq (fk f.1 45 rfl))) (nq apq (fn f.1 45 rfl)) (vp_in_nI (by omega) (by decide)) (apA0 (rfl) (fg f.2.2.2 5 rfl (by rw [nI_clamp (by omega)]; omega) (by rw [nI_clamp (by omega)]; omega))) ?_
  refine ex_iconst ok_X12_vote (mi 30 rfl) ?_
  refine ex_icmp_ne (tgt := 59) ok_X12_vote (mi 31 rfl) rfl (fun hn => absurd (by decide) hn) (fun _ => ?_)
  refine ex_iconst ok_X12_vote (mi 32 rfl) ?_
  refine ex_goto (tgt := 80) ok_X12_vote (mi 33 rfl) rfl ?_
  refine ex_iret ok_X12_vote (mi 45 rfl) rfl ?_
  exact ⟨_, rfl, fun _ => by decide, apI (a := 0) rfl, kq apq (fk f.1 0 rfl), kp_ap rfl⟩
