theorem d_voter_10_1 {G : GE} (hst : (ge_l G).stackTraces = false) {x : Nat}  : MM G 2 0 0 my_X12_voter x [.int (nI 10), .int (nI 1)] 0 (nI 0) := by
  intro h f
  refine ex_M_of ok_X12_voter cw_X12_voter rfl hst (Nat.le_of_ble_eq_true rfl) ?_
  refine ex_aload_n ok_X12_voter (mi 0 rfl) rfl ?_
  refine ex_iload_n ok_X12_voter (mi 1 rfl) rfl ?_
  refine ex_iconst ok_X12_voter (mi 2 rfl) ?_
  refine ex_bipush ok_X12_voter (mi 3 rfl) ?_
  refine ex_callSr (As := [_, _, _]) ok_X12_voter (mi 4 rfl) rfl (m_in1 hst (by decide) (by decide)) rfl rfl rfl (by decide) (Nat.le_of_ble_eq_true rfl) (by decide) ?_
  refine ex_if_eq (tgt := 24) ok_X12_voter (mi 5 rfl) rfl (fun hn => absurd hn (by decide)) (fun _ => ?_)
  refine ex_iload_n ok_X12_voter (mi 6 rfl) rfl ?_
  refine ex_iconst ok_X12_voter (mi 7 rfl) ?_
  refine ex_iconst ok_X12_voter (mi 8 rfl) ?_
  refine ex_callSr (As := [_, _, _]) ok_X12_voter (mi 9 rfl) rfl (m_in1 hst (by decide) (by decide)) rfl rfl rfl (by decide) (Nat.le_of_ble_eq_true rfl) (by decide) ?_
  refine ex_if_eq (tgt := 24) ok_X12_voter (mi 10 rfl) rfl (fun hn => absurd hn (by decide)) (fun _ => ?_)
  refine ex_iconst ok_X12_voter (mi 11 rfl) ?_
  refine ex_goto (tgt := 25) ok_X12_voter (mi 12 rfl) rfl ?_
  refine ex_iconst ok_X12_voter (mi 14 rfl) ?_
  refine ex_iconst ok_X12_voter (mi 15 rfl) ?_
  refine ex_callVr (As := [_, _, _]) (v := some (.int (nI 0))) (g1 := (ap x [(0, 0, 1200, 0, (nI 0))] h)) ok_X12_voter (mi 16 rfl) rfl (m_ref111 (ws := []) hst f.1) rfl (fk f.1 0 rfl) rfl rfl (by decide) (by decide) (Nat.le_of_ble_eq_true rfl) (by decide) ?_
  refine ex_if_eq (tgt := 35) ok_X12_voter (mi 17 rfl) rfl (fun _ => ?_) (fun hn => absurd (by decide) hn)
  refine ex_iconst ok_X12_voter (mi 20 rfl) ?_
  refine ex_istore_n ok_X12_voter (mi 21 rfl) ?_
  refine ex_iconst ok_X12_voter (mi 22 rfl) ?_
  refine ex_istore ok_X12_voter (mi 23 rfl) ?_
  refine ex_ls (ls' := [(0, .ref x), (1, .int (nI 10)), (2, .int (nI 1)), (3, .int (nI 0)), (4, .int (nI 0))]) ⟨rfl, rfl, rfl, rfl, rfl, trivial⟩ (lp_vt10 (shq apq f.1) (ap_tG0 rfl f.2.2.2) ?_ 16 0 rfl)
  refine ex_iload_n ok_X12_voter (mi 45 rfl) rfl ?_
  refine ex_if_ne (tgt := 90) ok_X12_voter (mi 46 rfl) rfl (fun _ => ?_) (fun hn => absurd hn (by decide))
  refine ex_iload_n ok_X12_voter (mi 52 rfl) rfl ?_
  refine ex_iconst ok_X12_voter (mi 53 rfl) ?_
  refine ex_icmp_ne (tgt := 104) ok_X12_voter (mi 54 rfl) rfl (fun hn => absurd (by decide) hn) (fun _ => ?_)
  refine ex_aload_n ok_X12_voter (mi 55 rfl) rfl ?_
  refine ex_getRx ok_X12_voter (mi 56 rfl) rfl rfl (kq apq (fk f.1 0 rfl)) (rq apq (fr f.1 43 rfl)) (kq apq (fk f.1 44 rfl)) (by decide) ?_
  refine ex_iload_n ok_X12_voter (mi 57 rfl) rfl ?_
  refine ex_ialdx ok_X12_voter (mi 58 rfl) (Or.inl (kq apq (fk f.1 44 rfl))) (nq apq (fn f.1 44 rfl)) (pk_in 10 12 (by decide)) (apA0 (j := 10) rfl (fe f.2.2.1 2 rfl)) ?_
  refine ex_goto (tgt := 105) ok_X12_voter (mi 59 rfl) rfl ?_
  refine ex_iret ok_X12_voter (mi 61 rfl) rfl ?_
  exact ⟨_, rfl, fun _ => by decide, apI (a := 0) rfl, kq apq (fk f.1 0 rfl), kp_ap rfl⟩
theorem d_voter_10_2 {G : GE} (hst : (ge_l G).stackTraces = false) {x : Nat}  : MM G 2 0 0 my_X12_voter x [.int (nI 10), .int (nI 2)] 0 (nI 0) := by
  intro h f
  refine ex_M_of ok_X12_voter cw_X12_voter rfl hst (Nat.le_of_ble_eq_true rfl) ?_
  refine ex_aload_n ok_X12_voter (mi 0 rfl) rfl ?_
  refine ex_iload_n ok_X12_voter (mi 1 rfl) rfl ?_
  refine ex_iconst ok_X12_voter (mi 2 rfl) ?_
  refine ex_bipush ok_X12_voter (mi 3 rfl) ?_
  refine ex_callSr (As := [_, _, _]) ok_X12_voter (mi 4 rfl) rfl (m_in1 hst (by decide) (by decide)) rfl rfl rfl (by decide) (Nat.le_of_ble_eq_true rfl) (by decide) ?_
  refine ex_if_eq (tgt := 24) ok_X12_voter (mi 5 rfl) rfl (fun hn => absurd hn (by decide)) (fun _ => ?_)
  refine ex_iload_n ok_X12_voter (mi 6 rfl) rfl ?_
  refine ex_iconst ok_X12_voter (mi 7 rfl) ?_
  refine ex_iconst ok_X12_voter (mi 8 rfl) ?_
  refine ex_callSr (As := [_, _, _]) ok_X12_voter (mi 9 rfl) rfl (m_in1 hst (by decide) (by decide)) rfl rfl rfl (by decide) (Nat.le_of_ble_eq_true rfl) (by decide) ?_
  refine ex_if_eq (tgt := 24) ok_X12_voter (mi 10 rfl) rfl (fun hn => absurd hn (by decide)) (fun _ => ?_)
  refine ex_iconst ok_X12_voter (mi 11 rfl) ?_
  refine ex_goto (tgt := 25) ok_X12_voter (mi 12 rfl) rfl ?_
  refine ex_iconst ok_X12_voter (mi 14 rfl) ?_
  refine ex_iconst ok_X12_voter (mi 15 rfl) ?_
  refine ex_callVr (As := [_, _, _]) (v := some (.int (nI 0))) (g1 := (ap x [(0, 0, 1200, 0, (nI 0))] h)) ok_X12_voter (mi 16 rfl) rfl (m_ref111 (ws := []) hst f.1) rfl (fk f.1 0 rfl) rfl rfl (by decide) (by decide) (Nat.le_of_ble_eq_true rfl) (by decide) ?_
  refine ex_if_eq (tgt := 35) ok_X12_voter (mi 17 rfl) rfl (fun _ => ?_) (fun hn => absurd (by decide) hn)
  refine ex_iconst ok_X12_voter (mi 20 rfl) ?_
  refine ex_istore_n ok_X12_voter (mi 21 rfl) ?_
  refine ex_iconst ok_X12_voter (mi 22 rfl) ?_
  refine ex_istore ok_X12_voter (mi 23 rfl) ?_
  refine ex_ls (ls' := [(0, .ref x), (1, .int (nI 10)), (2, .int (nI 2)), (3, .int (nI 0)), (4, .int (nI 0))]) ⟨rfl, rfl, rfl, rfl, rfl, trivial⟩ (lp_vt10 (shq apq f.1) (ap_tG0 rfl f.2.2.2) ?_ 16 0 rfl)
  refine ex_iload_n ok_X12_voter (mi 45 rfl) rfl ?_
  refine ex_if_ne (tgt := 90) ok_X12_voter (mi 46 rfl) rfl (fun _ => ?_) (fun hn => absurd hn (by decide))
  refine ex_iload_n ok_X12_voter (mi 52 rfl) rfl ?_
  refine ex_iconst ok_X12_voter (mi 53 rfl) ?_
  refine ex_icmp_ne (tgt := 104) ok_X12_voter (mi 54 rfl) rfl (fun _ => ?_) (fun hn => absurd hn (by decide))
  refine ex_iload_n ok_X12_voter (mi 60 rfl) rfl ?_
  refine ex_iret ok_X12_voter (mi 61 rfl) rfl ?_
  exact ⟨_, rfl, fun _ => by decide, apI (a := 0) rfl, kq apq (fk f.1 0 rfl), kp_ap rfl⟩
theorem d_vote_10_0 {G : GE} (hst : (ge_l G).stackTraces = false) {x : Nat} {j : Nat} (hj : j < 16) : MM G 2 0 0 my_X12_vote x [.int (nI 10), .int (nI j), .int (nI 0)] 0 ((-1)) := by
  intro h f
  refine ex_M_of ok_X12_vote cw_X12_vote rfl hst (Nat.le_of_ble_eq_true rfl) ?_
  refine ex_aload_n ok_X12_vote (mi 0 rfl) rfl ?_
  refine ex_iload_n ok_X12_vote (mi 1 rfl) rfl ?_
  refine ex_iconst ok_X12_vote (mi 2 rfl) ?_
  refine ex_bipush ok_X12_vote (mi 3 rfl) ?_
  refine ex_callSr (As := [_, _, _]) ok_X12_vote (mi 4 rfl) rfl (m_in1 hst (by decide) (by decide)) rfl rfl rfl (by decide) (Nat.le_of_ble_eq_true rfl) (by decide) ?_
  refine ex_if_eq (tgt := 25) ok_X12_vote (mi 5 rfl) rfl (fun hn => absurd hn (by decide)) (fun _ => ?_)
  refine ex_iload_n ok_X12_vote (mi 6 rfl) rfl ?_
  refine ex_iconst ok_X12_vote (mi 7 rfl) ?_
  refine ex_bipush ok_X12_vote (mi 8 rfl) ?_
  refine ex_callSr (As := [_, _, _]) ok_X12_vote (mi 9 rfl) rfl (m_in1 hst (vlo (vp_in_nI hj (by decide)) (by decide)) (vhi (vp_in_nI hj (by decide)) (by decide))) rfl rfl rfl (by decide) (Nat.le_of_ble_eq_true rfl) (by decide) ?_
  refine ex_if_eq (tgt := 25) ok_X12_vote (mi 10 rfl) rfl (fun hn => absurd hn (by decide)) (fun _ => ?_)
  refine ex_iconst ok_X12_vote (mi 11 rfl) ?_
  refine ex_goto (tgt := 26) ok_X12_vote (mi 12 rfl) rfl ?_
  refine ex_iconst ok_X12_vote (mi 14 rfl) ?_
  refine ex_iconst ok_X12_vote (mi 15 rfl) ?_
  refine ex_callVr (As := [_, _, _]) (v := some (.int (nI 0))) (g1 := (ap x [(0, 0, 1200, 0, (nI 0))] h)) ok_X12_vote (mi 16 rfl) rfl (m_ref111 (ws := []) hst f.1) rfl (fk f.1 0 rfl) rfl rfl (by decide) (by decide) (Nat.le_of_ble_eq_true rfl) (by decide) ?_
  refine ex_if_eq (tgt := 36) ok_X12_vote (mi 17 rfl) rfl (fun _ => ?_) (fun hn => absurd (by decide) hn)
  refine ex_bipush ok_X12_vote (mi 20 rfl) ?_
  refine ex_iload_n ok_X12_vote (mi 21 rfl) rfl ?_
  refine ex_imul ok_X12_vote (mi 22 rfl) ?_
  refine ex_top (w := (nI 160)) (by decide) ?_
  refine ex_iload_n ok_X12_vote (mi 23 rfl) rfl ?_
  refine ex_iadd ok_X12_vote (mi 24 rfl) ?_
  refine ex_top (w := (nI (160 + j))) (nI_add 160 j) ?_
  refine ex_istore ok_X12_vote (mi 25 rfl) ?_
  refine ex_aload_n ok_X12_vote (mi 26 rfl) rfl ?_
  refine ex_getRx ok_X12_vote (mi 27 rfl) rfl rfl (kq apq (fk f.1 0 rfl)) (rq apq (fr f.1 44 rfl)) (kq apq (fk f.1 45 rfl)) (by decide) ?_
  refine ex_iload ok_X12_vote (mi 28 rfl) rfl ?_
  refine ex_ialdx ok_X12_vote (mi 29 rfl) (Or.inl (kq apq (fk f.1 45 rfl))) (nq apq (fn f.1 45 rfl)) (vp_in_nI (by omega) (by decide)) (apA0 (rfl) (fg f.2.2.2 5 rfl (by rw [nI_clamp (by omega)]; omega) (by rw [nI_clamp (by omega)]; omega))) ?_
  refine ex_iconst ok_X12_vote (mi 30 rfl) ?_
  refine ex_icmp_ne (tgt := 59) ok_X12_vote (mi 31 rfl) rfl (fun hn => absurd (by decide) hn) (fun _ => ?_)
  refine ex_iconst ok_X12_vote (mi 32 rfl) ?_
  refine ex_goto (tgt := 80) ok_X12_vote (mi 33 rfl) rfl ?_
  refine ex_iret ok_X12_vote (mi 45 rfl) rfl ?_
  exact ⟨_, rfl, fun _ => by decide, apI (a := 0) rfl, kq apq (fk f.1 0 rfl), kp_ap rfl⟩
theorem d_vote_10_1 {G : GE} (hst : (ge_l G).stackTraces = false) {x : Nat} {j : Nat} (hj : j < 16) : MM G 2 0 0 my_X12_vote x [.int (nI 10), .int (nI j), .int (nI 1)] 0 ((-1)) := by
  intro h f
  refine ex_M_of ok_X12_vote cw_X12_vote rfl hst (Nat.le_of_ble_eq_true rfl) ?_
  refine ex_aload_n ok_X12_vote (mi 0 rfl) rfl ?_
  refine ex_iload_n ok_X12_vote (mi 1 rfl) rfl ?_
  refine ex_iconst ok_X12_vote (mi 2 rfl) ?_
  refine ex_bipush ok_X12_vote (mi 3 rfl) ?_
  refine ex_callSr (As := [_, _, _]) ok_X12_vote (mi 4 rfl) rfl (m_in1 hst (by decide) (by decide)) rfl rfl rfl (by decide) (Nat.le_of_ble_eq_true rfl) (by decide) ?_
  refine ex_if_eq (tgt := 25) ok_X12_vote (mi 5 rfl) rfl (fun hn => absurd hn (by decide)) (fun _ => ?_)
  refine ex_iload_n ok_X12_vote (mi 6 rfl) rfl ?_
  refine ex_iconst ok_X12_vote (mi 7 rfl) ?_
  refine ex_bipush ok_X12_vote (mi 8 rfl) ?_
  refine ex_callSr (As := [_, _, _]) ok_X12_vote (mi 9 rfl) rfl (m_in1 hst (vlo (vp_in_nI hj (by decide)) (by decide)) (vhi (vp_in_nI hj (by decide)) (by decide))) rfl rfl rfl (by decide) (Nat.le_of_ble_eq_true rfl) (by decide) ?_
  refine ex_if_eq (tgt := 25) ok_X12_vote (mi 10 rfl) rfl (fun hn => absurd hn (by decide)) (fun _ => ?_)
  refine ex_iconst ok_X12_vote (mi 11 rfl) ?_
  refine ex_goto (tgt := 26) ok_X12_vote (mi 12 rfl) rfl ?_
  refine ex_iconst ok_X12_vote (mi 14 rfl) ?_
  refine ex_iconst ok_X12_vote (mi 15 rfl) ?_
  refine ex_callVr (As := [_, _, _]) (v := some (.int (nI 0))) (g1 := (ap x [(0, 0, 1200, 0, (nI 0))] h)) ok_X12_vote (mi 16 rfl) rfl (m_ref111 (ws := []) hst f.1) rfl (fk f.1 0 rfl) rfl rfl (by decide) (by decide) (Nat.le_of_ble_eq_true rfl) (by decide) ?_
  refine ex_if_eq (tgt := 36) ok_X12_vote (mi 17 rfl) rfl (fun _ => ?_) (fun hn => absurd (by decide) hn)
  refine ex_bipush ok_X12_vote (mi 20 rfl) ?_
  refine ex_iload_n ok_X12_vote (mi 21 rfl) rfl ?_
  refine ex_imul ok_X12_vote (mi 22 rfl) ?_
  refine ex_top (w := (nI 160)) (by decide) ?_
  refine ex_iload_n ok_X12_vote (mi 23 rfl) rfl ?_
  refine ex_iadd ok_X12_vote (mi 24 rfl) ?_
  refine ex_top (w := (nI (160 + j))) (nI_add 160 j) ?_
  refine ex_istore ok_X12_vote (mi 25 rfl) ?_
  refine ex_aload_n ok_X12_vote (mi 26 rfl) rfl ?_
  refine ex_getRx ok_X12_vote (mi 27 rfl) rfl rfl (kq apq (fk f.1 0 rfl)) (rq apq (fr f.1 44 rfl)) (kq apq (fk f.1 45 rfl)) (by decide) ?_
  refine ex_iload ok_X12_vote (mi 28 rfl) rfl ?_
  refine ex_ialdx ok_X12_vote (mi 29 rfl) (Or.inl (kq apq (fk f.1 45 rfl))) (nq apq (fn f.1 45 rfl)) (vp_in_nI (by omega) (by decide)) (apA0 (rfl) (fg f.2.2.2 5 rfl (by rw [nI_clamp (by omega)]; omega) (by rw [nI_clamp (by omega)]; omega))) ?_
  refine ex_iconst ok_X12_vote (mi 30 rfl) ?_
  refine ex_icmp_ne (tgt := 59) ok_X12_vote (mi 31 rfl) rfl (fun hn => absurd (by decide) hn) (fun _ => ?_)
  refine ex_iconst ok_X12_vote (mi 32 rfl) ?_
  refine ex_goto (tgt := 80) ok_X12_vote (mi 33 rfl) rfl ?_
  refine ex_iret ok_X12_vote (mi 45 rfl) rfl ?_
  exact ⟨_, rfl, fun _ => by decide, apI (a := 0) rfl, kq apq (fk f.1 0 rfl), kp_ap rfl⟩
theorem d_voter_11_0 {G : GE} (hst : (ge_l G).stackTraces = false) {x : Nat}  : MM G 2 0 0 my_X12_voter x [.int (nI 11), .int (nI 0)] 0 ((-1)) := by
  intro h f
  refine ex_M_of ok_X12_voter cw_X12_voter rfl hst (Nat.le_of_ble_eq_true rfl) ?_
  refine ex_aload_n ok_X12_voter (mi 0 rfl) rfl ?_
  refine ex_iload_n ok_X12_voter (mi 1 rfl) rfl ?_
  refine ex_iconst ok_X12_voter (mi 2 rfl) ?_
  refine ex_bipush ok_X12_voter (mi 3 rfl) ?_
  refine ex_callSr (As := [_, _, _]) ok_X12_voter (mi 4 rfl) rfl (m_in1 hst (by decide) (by decide)) rfl rfl rfl (by decide) (Nat.le_of_ble_eq_true rfl) (by decide) ?_
  refine ex_if_eq (tgt := 24) ok_X12_voter (mi 5 rfl) rfl (fun hn => absurd hn (by decide)) (fun _ => ?_)
  refine ex_iload_n ok_X12_voter (mi 6 rfl) rfl ?_
  refine ex_iconst ok_X12_voter (mi 7 rfl) ?_
  refine ex_iconst ok_X12_voter (mi 8 rfl) ?_
  refine ex_callSr (As := [_, _, _]) ok_X12_voter (mi 9 rfl) rfl (m_in1 hst (by decide) (by decide)) rfl rfl rfl (by decide) (Nat.le_of_ble_eq_true rfl) (by decide) ?_
  refine ex_if_eq (tgt := 24) ok_X12_voter (mi 10 rfl) rfl (fun hn => absurd hn (by decide)) (fun _ => ?_)
  refine ex_iconst ok_X12_voter (mi 11 rfl) ?_
  refine ex_goto (tgt := 25) ok_X12_voter (mi 12 rfl) rfl ?_
  refine ex_iconst ok_X12_voter (mi 14 rfl) ?_
  refine ex_iconst ok_X12_voter (mi 15 rfl) ?_
  refine ex_callVr (As := [_, _, _]) (v := some (.int (nI 0))) (g1 := (ap x [(0, 0, 1200, 0, (nI 0))] h)) ok_X12_voter (mi 16 rfl) rfl (m_ref111 (ws := []) hst f.1) rfl (fk f.1 0 rfl) rfl rfl (by decide) (by decide) (Nat.le_of_ble_eq_true rfl) (by decide) ?_
  refine ex_if_eq (tgt := 35) ok_X12_voter (mi 17 rfl) rfl (fun _ => ?_) (fun hn => absurd (by decide) hn)
  refine ex_iconst ok_X12_voter (mi 20 rfl) ?_
  refine ex_istore_n ok_X12_voter (mi 21 rfl) ?_
  refine ex_iconst ok_X12_voter (mi 22 rfl) ?_
  refine ex_istore ok_X12_voter (mi 23 rfl) ?_
  refine ex_ls (ls' := [(0, .ref x), (1, .int (nI 11)), (2, .int (nI 0)), (3, .int (nI 0)), (4, .int (nI 0))]) ⟨rfl, rfl, rfl, rfl, rfl, trivial⟩ (lp_vt11 (shq apq f.1) (ap_tG0 rfl f.2.2.2) ?_ 16 0 rfl)
  refine ex_iload_n ok_X12_voter (mi 45 rfl) rfl ?_
  refine ex_if_ne (tgt := 90) ok_X12_voter (mi 46 rfl) rfl (fun hn => absurd (by decide) hn) (fun _ => ?_)
  refine ex_aload_n ok_X12_voter (mi 47 rfl) rfl ?_
  refine ex_getRx ok_X12_voter (mi 48 rfl) rfl rfl (kq apq (fk f.1 0 rfl)) (rq apq (fr f.1 42 rfl)) (kq apq (fk f.1 43 rfl)) (by decide) ?_
  refine ex_iload_n ok_X12_voter (mi 49 rfl) rfl ?_
  refine ex_ialdx ok_X12_voter (mi 50 rfl) (Or.inl (kq apq (fk f.1 43 rfl))) (nq apq (fn f.1 43 rfl)) (pk_in 11 12 (by decide)) (apA0 (j := 11) rfl (fe f.2.2.1 1 rfl)) ?_
  refine ex_goto (tgt := 105) ok_X12_voter (mi 51 rfl) rfl ?_
  refine ex_iret ok_X12_voter (mi 61 rfl) rfl ?_
  exact ⟨_, rfl, fun _ => by decide, apI (a := 0) rfl, kq apq (fk f.1 0 rfl), kp_ap rfl⟩
theorem d_voter_11_1 {G : GE} (hst : (ge_l G).stackTraces = false) {x : Nat}  : MM G 2 0 0 my_X12_voter x [.int (nI 11), .int (nI 1)] 0 (nI 0) := by
  intro h f
  refine ex_M_of ok_X12_voter cw_X12_voter rfl hst (Nat.le_of_ble_eq_true rfl) ?_
  refine ex_aload_n ok_X12_voter (mi 0 rfl) rfl ?_
  refine ex_iload_n ok_X12_voter (mi 1 rfl) rfl ?_
  refine ex_iconst ok_X12_voter (mi 2 rfl) ?_
  refine ex_bipush ok_X12_voter (mi 3 rfl) ?_
  refine ex_callSr (As := [_, _, _]) ok_X12_voter (mi 4 rfl) rfl (m_in1 hst (by decide) (by decide)) rfl rfl rfl (by decide) (Nat.le_of_ble_eq_true rfl) (by decide) ?_
  refine ex_if_eq (tgt := 24) ok_X12_voter (mi 5 rfl) rfl (fun hn => absurd hn (by decide)) (fun _ => ?_)
  refine ex_iload_n ok_X12_voter (mi 6 rfl) rfl ?_
  refine ex_iconst ok_X12_voter (mi 7 rfl) ?_
  refine ex_iconst ok_X12_voter (mi 8 rfl) ?_
  refine ex_callSr (As := [_, _, _]) ok_X12_voter (mi 9 rfl) rfl (m_in1 hst (by decide) (by decide)) rfl rfl rfl (by decide) (Nat.le_of_ble_eq_true rfl) (by decide) ?_
  refine ex_if_eq (tgt := 24) ok_X12_voter (mi 10 rfl) rfl (fun hn => absurd hn (by decide)) (fun _ => ?_)
  refine ex_iconst ok_X12_voter (mi 11 rfl) ?_
  refine ex_goto (tgt := 25) ok_X12_voter (mi 12 rfl) rfl ?_
  refine ex_iconst ok_X12_voter (mi 14 rfl) ?_
  refine ex_iconst ok_X12_voter (mi 15 rfl) ?_
  refine ex_callVr (As := [_, _, _]) (v := some (.int (nI 0))) (g1 := (ap x [(0, 0, 1200, 0, (nI 0))] h)) ok_X12_voter (mi 16 rfl) rfl (m_ref111 (ws := []) hst f.1) rfl (fk f.1 0 rfl) rfl rfl (by decide) (by decide) (Nat.le_of_ble_eq_true rfl) (by decide) ?_
  refine ex_if_eq (tgt := 35) ok_X12_voter (mi 17 rfl) rfl (fun _ => ?_) (fun hn => absurd (by decide) hn)
  refine ex_iconst ok_X12_voter (mi 20 rfl) ?_
  refine ex_istore_n ok_X12_voter (mi 21 rfl) ?_
  refine ex_iconst ok_X12_voter (mi 22 rfl) ?_
  refine ex_istore ok_X12_voter (mi 23 rfl) ?_
  refine ex_ls (ls' := [(0, .ref x), (1, .int (nI 11)), (2, .int (nI 1)), (3, .int (nI 0)), (4, .int (nI 0))]) ⟨rfl, rfl, rfl, rfl, rfl, trivial⟩ (lp_vt11 (shq apq f.1) (ap_tG0 rfl f.2.2.2) ?_ 16 0 rfl)
  refine ex_iload_n ok_X12_voter (mi 45 rfl) rfl ?_
  refine ex_if_ne (tgt := 90) ok_X12_voter (mi 46 rfl) rfl (fun _ => ?_) (fun hn => absurd hn (by decide))
  refine ex_iload_n ok_X12_voter (mi 52 rfl) rfl ?_
  refine ex_iconst ok_X12_voter (mi 53 rfl) ?_
  refine ex_icmp_ne (tgt := 104) ok_X12_voter (mi 54 rfl) rfl (fun hn => absurd (by decide) hn) (fun _ => ?_)
  refine ex_aload_n ok_X12_voter (mi 55 rfl) rfl ?_
  refine ex_getRx ok_X12_voter (mi 56 rfl) rfl rfl (kq apq (fk f.1 0 rfl)) (rq apq (fr f.1 43 rfl)) (kq apq (fk f.1 44 rfl)) (by decide) ?_
  refine ex_iload_n ok_X12_voter (mi 57 rfl) rfl ?_
  refine ex_ialdx ok_X12_voter (mi 58 rfl) (Or.inl (kq apq (fk f.1 44 rfl))) (nq apq (fn f.1 44 rfl)) (pk_in 11 12 (by decide)) (apA0 (j := 11) rfl (fe f.2.2.1 0 rfl)) ?_
  refine ex_goto (tgt := 105) ok_X12_voter (mi 59 rfl) rfl ?_
  refine ex_iret ok_X12_voter (mi 61 rfl) rfl ?_
  exact ⟨_, rfl, fun _ => by decide, apI (a := 0) rfl, kq apq (fk f.1 0 rfl), kp_ap rfl⟩
theorem d_voter_11_2 {G : GE} (hst : (ge_l G).stackTraces = false) {x : Nat}  : MM G 2 0 0 my_X12_voter x [.int (nI 11), .int (nI 2)] 0 (nI 0) := by
  intro h f
  refine ex_M_of ok_X12_voter cw_X12_voter rfl hst (Nat.le_of_ble_eq_true rfl) ?_
  refine ex_aload_n ok_X12_voter (mi 0 rfl) rfl ?_
  refine ex_iload_n ok_X12_voter (mi 1 rfl) rfl ?_
  refine ex_iconst ok_X12_voter (mi 2 rfl) ?_
  refine ex_bipush ok_X12_voter (mi 3 rfl) ?_
  refine ex_callSr (As := [_, _, _]) ok_X12_voter (mi 4 rfl) rfl (m_in1 hst (by decide) (by decide)) rfl rfl rfl (by decide) (Nat.le_of_ble_eq_true rfl) (by decide) ?_
  refine ex_if_eq (tgt := 24) ok_X12_voter (mi 5 rfl) rfl (fun hn => absurd hn (by decide)) (fun _ => ?_)
  refine ex_iload_n ok_X12_voter (mi 6 rfl) rfl ?_
  refine ex_iconst ok_X12_voter (mi 7 rfl) ?_
  refine ex_iconst ok_X12_voter (mi 8 rfl) ?_
  refine ex_callSr (As := [_, _, _]) ok_X12_voter (mi 9 rfl) rfl (m_in1 hst (by decide) (by decide)) rfl rfl rfl (by decide) (Nat.le_of_ble_eq_true rfl) (by decide) ?_
  refine ex_if_eq (tgt := 24) ok_X12_voter (mi 10 rfl) rfl (fun hn => absurd hn (by decide)) (fun _ => ?_)
  refine ex_iconst ok_X12_voter (mi 11 rfl) ?_
  refine ex_goto (tgt := 25) ok_X12_voter (mi 12 rfl) rfl ?_
  refine ex_iconst ok_X12_voter (mi 14 rfl) ?_
  refine ex_iconst ok_X12_voter (mi 15 rfl) ?_
  refine ex_callVr (As := [_, _, _]) (v := some (.int (nI 0))) (g1 := (ap x [(0, 0, 1200, 0, (nI 0))] h)) ok_X12_voter (mi 16 rfl) rfl (m_ref111 (ws := []) hst f.1) rfl (fk f.1 0 rfl) rfl rfl (by decide) (by decide) (Nat.le_of_ble_eq_true rfl) (by decide) ?_
  refine ex_if_eq (tgt := 35) ok_X12_voter (mi 17 rfl) rfl (fun _ => ?_) (fun hn => absurd (by decide) hn)
  refine ex_iconst ok_X12_voter (mi 20 rfl) ?_
  refine ex_istore_n ok_X12_voter (mi 21 rfl) ?_
  refine ex_iconst ok_X12_voter (mi 22 rfl) ?_
  refine ex_istore ok_X12_voter (mi 23 rfl) ?_
  refine ex_ls (ls' := [(0, .ref x), (1, .int (nI 11)), (2, .int (nI 2)), (3, .int (nI 0)), (4, .int (nI 0))]) ⟨rfl, rfl, rfl, rfl, rfl, trivial⟩ (lp_vt11 (shq apq f.1) (ap_tG0 rfl f.2.2.2) ?_ 16 0 rfl)
  refine ex_iload_n ok_X12_voter (mi 45 rfl) rfl ?_
  refine ex_if_ne (tgt := 90) ok_X12_voter (mi 46 rfl) rfl (fun _ => ?_) (fun hn => absurd hn (by decide))
  refine ex_iload_n ok_X12_voter (mi 52 rfl) rfl ?_
  refine ex_iconst ok_X12_voter (mi 53 rfl) ?_
  refine ex_icmp_ne (tgt := 104) ok_X12_voter (mi 54 rfl) rfl (fun _ => ?_) (fun hn => absurd hn (by decide))
  refine ex_iload_n ok_X12_voter (mi 60 rfl) rfl ?_
  refine ex_iret ok_X12_voter (mi 61 rfl) rfl ?_
  exact ⟨_, rfl, fun _ => by decide, apI (a := 0) rfl, kq apq (fk f.1 0 rfl), kp_ap rfl⟩
theorem d_vote_11_0 {G : GE} (hst : (ge_l G).stackTraces = false) {x : Nat} {j : Nat} (hj : j < 16) : MM G 2 0 0 my_X12_vote x [.int (nI 11), .int (nI j), .int (nI 0)] 0 ((-1)) := by
  intro h f
  refine ex_M_of ok_X12_vote cw_X12_vote rfl hst (Nat.le_of_ble_eq_true rfl) ?_
  refine ex_aload_n ok_X12_vote (mi 0 rfl) rfl ?_
  refine ex_iload_n ok_X12_vote (mi 1 rfl) rfl ?_
  refine ex_iconst ok_X12_vote (mi 2 rfl) ?_
  refine ex_bipush ok_X12_vote (mi 3 rfl) ?_
  refine ex_callSr (As := [_, _, _]) ok_X12_vote (mi 4 rfl) rfl (m_in1 hst (by decide) (by decide)) rfl rfl rfl (by decide) (Nat.le_of_ble_eq_true rfl) (by decide) ?_
  refine ex_if_eq (tgt := 25) ok_X12_vote (mi 5 rfl) rfl (fun hn => absurd hn (by decide)) (fun _ => ?_)
  refine ex_iload_n ok_X12_vote (mi 6 rfl) rfl ?_
  refine ex_iconst ok_X12_vote (mi 7 rfl) ?_
  refine ex_bipush ok_X12_vote (mi 8 rfl) ?_
  refine ex_callSr (As := [_, _, _]) ok_X12_vote (mi 9 rfl) rfl (m_in1 hst (vlo (vp_in_nI hj (by decide)) (by decide)) (vhi (vp_in_nI hj (by decide)) (by decide))) rfl rfl rfl (by decide) (Nat.le_of_ble_eq_true rfl) (by decide) ?_
  refine ex_if_eq (tgt := 25) ok_X12_vote (mi 10 rfl) rfl (fun hn => absurd hn (by decide)) (fun _ => ?_)
  refine ex_iconst ok_X12_vote (mi 11 rfl) ?_
  refine ex_goto (tgt := 26) ok_X12_vote (mi 12 rfl) rfl ?_
  refine ex_iconst ok_X12_vote (mi 14 rfl) ?_
  refine ex_iconst ok_X12_vote (mi 15 rfl) ?_
  refine ex_callVr (As := [_, _, _]) (v := some (.int (nI 0))) (g1 := (ap x [(0, 0, 1200, 0, (nI 0))] h)) ok_X12_vote (mi 16 rfl) rfl (m_ref111 (ws := []) hst f.1) rfl (fk f.1 0 rfl) rfl rfl (by decide) (by decide) (Nat.le_of_ble_eq_true rfl) (by decide) ?_
  refine ex_if_eq (tgt := 36) ok_X12_vote (mi 17 rfl) rfl (fun _ => ?_) (fun hn => absurd (by decide) hn)
  refine ex_bipush ok_X12_vote (mi 20 rfl) ?_
  refine ex_iload_n ok_X12_vote (mi 21 rfl) rfl ?_
  refine ex_imul ok_X12_vote (mi 22 rfl) ?_
  refine ex_top (w := (nI 176)) (by decide) ?_
  refine ex_iload_n ok_X12_vote (mi 23 rfl) rfl ?_
  refine ex_iadd ok_X12_vote (mi 24 rfl) ?_
  refine ex_top (w := (nI (176 + j))) (nI_add 176 j) ?_
  refine ex_istore ok_X12_vote (mi 25 rfl) ?_
  refine ex_aload_n ok_X12_vote (mi 26 rfl) rfl ?_
  refine ex_getRx ok_X12_vote (mi 27 rfl) rfl rfl (kq apq (fk f.1 0 rfl)) (rq apq (fr f.1 44 rfl)) (kq apq (fk f.1 45 rfl)) (by decide) ?_
  refine ex_iload ok_X12_vote (mi 28 rfl) rfl ?_
  refine ex_ialdx ok_X12_vote (mi 29 rfl) (Or.inl (kq apq (fk f.1 45 rfl))) (nq apq (fn f.1 45 rfl)) (vp_in_nI (by omega) (by decide)) (apA0 (rfl) (fg f.2.2.2 5 rfl (by rw [nI_clamp (by omega)]; omega) (by rw [nI_clamp (by omega)]; omega))) ?_
  refine ex_iconst ok_X12_vote (mi 30 rfl) ?_
  refine ex_icmp_ne (tgt := 59) ok_X12_vote (mi 31 rfl) rfl (fun hn => absurd (by decide) hn) (fun _ => ?_)
  refine ex_iconst ok_X12_vote (mi 32 rfl) ?_
  refine ex_goto (tgt := 80) ok_X12_vote (mi 33 rfl) rfl ?_
  refine ex_iret ok_X12_vote (mi 45 rfl) rfl ?_
  exact ⟨_, rfl, fun _ => by decide, apI (a := 0) rfl, kq apq (fk f.1 0 rfl), kp_ap rfl⟩
theorem d_vote_11_1 {G : GE} (hst : (ge_l G).stackTraces = false) {x : Nat} {j : Nat} (hj : j < 16) : MM G 2 0 0 my_X12_vote x [.int (nI 11), .int (nI j), .int (nI 1)] 0 ((-1)) := by
  intro h f
  refine ex_M_of ok_X12_vote cw_X12_vote rfl hst (Nat.le_of_ble_eq_true rfl) ?_
  refine ex_aload_n ok_X12_vote (mi 0 rfl) rfl ?_
  refine ex_iload_n ok_X12_vote (mi 1 rfl) rfl ?_
  refine ex_iconst ok_X12_vote (mi 2 rfl) ?_
  refine ex_bipush ok_X12_vote (mi 3 rfl) ?_
  refine ex_callSr (As := [_, _, _]) ok_X12_vote (mi 4 rfl) rfl (m_in1 hst (by decide) (by decide)) rfl rfl rfl (by decide) (Nat.le_of_ble_eq_true rfl) (by decide) ?_
  refine ex_if_eq (tgt := 25) ok_X12_vote (mi 5 rfl) rfl (fun hn => absurd hn (by decide)) (fun _ => ?_)
  refine ex_iload_n ok_X12_vote (mi 6 rfl) rfl ?_
  refine ex_iconst ok_X12_vote (mi 7 rfl) ?_
  refine ex_bipush ok_X12_vote (mi 8 rfl) ?_
  refine ex_callSr (As := [_, _, _]) ok_X12_vote (mi 9 rfl) rfl (m_in1 hst (vlo (vp_in_nI hj (by decide)) (by decide)) (vhi (vp_in_nI hj (by decide)) (by decide))) rfl rfl rfl (by decide) (Nat.le_of_ble_eq_true rfl) (by decide) ?_
  refine ex_if_eq (tgt := 25) ok_X12_vote (mi 10 rfl) rfl (fun hn => absurd hn (by decide)) (fun _ => ?_)
  refine ex_iconst ok_X12_vote (mi 11 rfl) ?_
  refine ex_goto (tgt := 26) ok_X12_vote (mi 12 rfl) rfl ?_
  refine ex_iconst ok_X12_vote (mi 14 rfl) ?_
  refine ex_iconst ok_X12_vote (mi 15 rfl) ?_
  refine ex_callVr (As := [_, _, _]) (v := some (.int (nI 0))) (g1 := (ap x [(0, 0, 1200, 0, (nI 0))] h)) ok_X12_vote (mi 16 rfl) rfl (m_ref111 (ws := []) hst f.1) rfl (fk f.1 0 rfl) rfl rfl (by decide) (by decide) (Nat.le_of_ble_eq_true rfl) (by decide) ?_
  refine ex_if_eq (tgt := 36) ok_X12_vote (mi 17 rfl) rfl (fun _ => ?_) (fun hn => absurd (by decide) hn)
  refine ex_bipush ok_X12_vote (mi 20 rfl) ?_
  refine ex_iload_n ok_X12_vote (mi 21 rfl) rfl ?_
  refine ex_imul ok_X12_vote (mi 22 rfl) ?_
  refine ex_top (w := (nI 176)) (by decide) ?_
  refine ex_iload_n ok_X12_vote (mi 23 rfl) rfl ?_
  refine ex_iadd ok_X12_vote (mi 24 rfl) ?_
  refine ex_top (w := (nI (176 + j))) (nI_add 176 j) ?_
  refine ex_istore ok_X12_vote (mi 25 rfl) ?_
  refine ex_aload_n ok_X12_vote (mi 26 rfl) rfl ?_
  refine ex_getRx ok_X12_vote (mi 27 rfl) rfl rfl (kq apq (fk f.1 0 rfl)) (rq apq (fr f.1 44 rfl)) (kq apq (fk f.1 45 rfl)) (by decide) ?_
  refine ex_iload ok_X12_vote (mi 28 rfl) rfl ?_
  refine ex_ialdx ok_X12_vote (mi 29 rfl) (Or.inl (kq apq (fk f.1 45 rfl))) (nq apq (fn f.1 45 rfl)) (vp_in_nI (by omega) (by decide)) (apA0 (rfl) (fg f.2.2.2 5 rfl (by rw [nI_clamp (by omega)]; omega) (by rw [nI_clamp (by omega)]; omega))) ?_
  refine ex_iconst ok_X12_vote (mi 30 rfl) ?_
  refine ex_icmp_ne (tgt := 59) ok_X12_vote (mi 31 rfl) rfl (fun hn => absurd (by decide) hn) (fun _ => ?_)
  refine ex_iconst ok_X12_vote (mi 32 rfl) ?_
  refine ex_goto (tgt := 80) ok_X12_vote (mi 33 rfl) rfl ?_
  refine ex_iret ok_X12_vote (mi 45 rfl) rfl ?_
  exact ⟨_, rfl, fun _ => by decide, apI (a := 0) rfl, kq apq (fk f.1 0 rfl), kp_ap rfl⟩
theorem d_agreed_b0 {G : GE} (hst : (ge_l G).stackTraces = false) {x : Nat} {p0 p1 p2 : Int32} (c0 : ¬ vp_in p0 16) : MM G 2 0 0 my_X12_agreed x [.int p0] 1 (nI 0) := by
  intro h f
  refine ex_M_of ok_X12_agreed cw_X12_agreed rfl hst (Nat.le_of_ble_eq_true rfl) ?_
  refine ex_aload_n ok_X12_agreed (mi 0 rfl) rfl ?_
  refine ex_iload_n ok_X12_agreed (mi 1 rfl) rfl ?_
  refine ex_iconst ok_X12_agreed (mi 2 rfl) ?_
  refine ex_bipush ok_X12_agreed (mi 3 rfl) ?_
  refine ex_callSr (As := [_, _, _]) ok_X12_agreed (mi 4 rfl) rfl (m_in0 hst (vbad c0 (by decide))) rfl rfl rfl (by decide) (Nat.le_of_ble_eq_true rfl) (by decide) ?_
  refine ex_iconst ok_X12_agreed (mi 5 rfl) ?_
  refine ex_iconst ok_X12_agreed (mi 6 rfl) ?_
  refine ex_callVr (As := [_, _, _]) (v := some (.int (nI 1))) (g1 := (ap x [(0, 0, 1200, 0, (nI 1))] h)) ok_X12_agreed (mi 7 rfl) rfl (m_ref011 (ws := []) hst f.1) rfl (fk f.1 0 rfl) rfl rfl (by decide) (by decide) (Nat.le_of_ble_eq_true rfl) (by decide) ?_
  refine ex_if_eq (tgt := 20) ok_X12_agreed (mi 8 rfl) rfl (fun hn => absurd hn (by decide)) (fun _ => ?_)
  refine ex_iconst ok_X12_agreed (mi 9 rfl) ?_
  refine ex_goto (tgt := 26) ok_X12_agreed (mi 10 rfl) rfl ?_
  refine ex_iret ok_X12_agreed (mi 15 rfl) rfl ?_
  exact ⟨_, rfl, fun e => absurd e (by decide), apI (a := 0) rfl, kq apq (fk f.1 0 rfl), kp_ap rfl⟩
theorem d_agreed_k {G : GE} (hst : (ge_l G).stackTraces = false) {x : Nat} {j : Nat} (hj : j < 16) : MM G 2 0 0 my_X12_agreed x [.int (nI j)] 0 ((-1)) := by
  intro h f
  refine ex_M_of ok_X12_agreed cw_X12_agreed rfl hst (Nat.le_of_ble_eq_true rfl) ?_
  refine ex_aload_n ok_X12_agreed (mi 0 rfl) rfl ?_
  refine ex_iload_n ok_X12_agreed (mi 1 rfl) rfl ?_
  refine ex_iconst ok_X12_agreed (mi 2 rfl) ?_
  refine ex_bipush ok_X12_agreed (mi 3 rfl) ?_
  refine ex_callSr (As := [_, _, _]) ok_X12_agreed (mi 4 rfl) rfl (m_in1 hst (vlo (vp_in_nI hj (by decide)) (by decide)) (vhi (vp_in_nI hj (by decide)) (by decide))) rfl rfl rfl (by decide) (Nat.le_of_ble_eq_true rfl) (by decide) ?_
  refine ex_iconst ok_X12_agreed (mi 5 rfl) ?_
  refine ex_iconst ok_X12_agreed (mi 6 rfl) ?_
  refine ex_callVr (As := [_, _, _]) (v := some (.int (nI 0))) (g1 := (ap x [(0, 0, 1200, 0, (nI 0))] h)) ok_X12_agreed (mi 7 rfl) rfl (m_ref111 (ws := []) hst f.1) rfl (fk f.1 0 rfl) rfl rfl (by decide) (by decide) (Nat.le_of_ble_eq_true rfl) (by decide) ?_
  refine ex_if_eq (tgt := 20) ok_X12_agreed (mi 8 rfl) rfl (fun _ => ?_) (fun hn => absurd (by decide) hn)
  refine ex_aload_n ok_X12_agreed (mi 11 rfl) rfl ?_
  refine ex_getRx ok_X12_agreed (mi 12 rfl) rfl rfl (kq apq (fk f.1 0 rfl)) (rq apq (fr f.1 58 rfl)) (kq apq (fk f.1 59 rfl)) (by decide) ?_
  refine ex_iload_n ok_X12_agreed (mi 13 rfl) rfl ?_
  refine ex_ialdx ok_X12_agreed (mi 14 rfl) (Or.inl (kq apq (fk f.1 59 rfl))) (nq apq (fn f.1 59 rfl)) (vp_in_nI (by omega) (by decide)) (apA0 (rfl) (fg f.2.2.2 0 rfl (Nat.zero_le _) (by rw [nI_clamp (by omega)]; omega))) ?_
  refine ex_iret ok_X12_agreed (mi 15 rfl) rfl ?_
  exact ⟨_, rfl, fun _ => by decide, apI (a := 0) rfl, kq apq (fk f.1 0 rfl), kp_ap rfl⟩
theorem d_count_b0 {G : GE} (hst : (ge_l G).stackTraces = false) {x : Nat} {p0 p1 p2 : Int32} (c0 : ¬ vp_in p0 6) : MM G 2 0 0 my_X12_count x [.int p0] 1 (nI 0) := by
  intro h f
  refine ex_M_of ok_X12_count cw_X12_count rfl hst (Nat.le_of_ble_eq_true rfl) ?_
  refine ex_aload_n ok_X12_count (mi 0 rfl) rfl ?_
  refine ex_iload_n ok_X12_count (mi 1 rfl) rfl ?_
  refine ex_iconst ok_X12_count (mi 2 rfl) ?_
  refine ex_iconst ok_X12_count (mi 3 rfl) ?_
  refine ex_callSr (As := [_, _, _]) ok_X12_count (mi 4 rfl) rfl (m_in0 hst (vbad c0 (by decide))) rfl rfl rfl (by decide) (Nat.le_of_ble_eq_true rfl) (by decide) ?_
  refine ex_iconst ok_X12_count (mi 5 rfl) ?_
  refine ex_iconst ok_X12_count (mi 6 rfl) ?_
  refine ex_callVr (As := [_, _, _]) (v := some (.int (nI 1))) (g1 := (ap x [(0, 0, 1200, 0, (nI 1))] h)) ok_X12_count (mi 7 rfl) rfl (m_ref011 (ws := []) hst f.1) rfl (fk f.1 0 rfl) rfl rfl (by decide) (by decide) (Nat.le_of_ble_eq_true rfl) (by decide) ?_
  refine ex_if_eq (tgt := 17) ok_X12_count (mi 8 rfl) rfl (fun hn => absurd hn (by decide)) (fun _ => ?_)
  refine ex_iconst ok_X12_count (mi 9 rfl) ?_
  refine ex_iret ok_X12_count (mi 10 rfl) rfl ?_
  exact ⟨_, rfl, fun e => absurd e (by decide), apI (a := 0) rfl, kq apq (fk f.1 0 rfl), kp_ap rfl⟩
theorem d_count_0 {G : GE} (hst : (ge_l G).stackTraces = false) {x : Nat}  : MM G 2 0 0 my_X12_count x [.int (nI 0)] 0 (nI 0) := by
  intro h f
  refine ex_M_of ok_X12_count cw_X12_count rfl hst (Nat.le_of_ble_eq_true rfl) ?_
  refine ex_aload_n ok_X12_count (mi 0 rfl) rfl ?_
  refine ex_iload_n ok_X12_count (mi 1 rfl) rfl ?_
  refine ex_iconst ok_X12_count (mi 2 rfl) ?_
  refine ex_iconst ok_X12_count (mi 3 rfl) ?_
  refine ex_callSr (As := [_, _, _]) ok_X12_count (mi 4 rfl) rfl (m_in1 hst (by decide) (by decide)) rfl rfl rfl (by decide) (Nat.le_of_ble_eq_true rfl) (by decide) ?_
  refine ex_iconst ok_X12_count (mi 5 rfl) ?_
  refine ex_iconst ok_X12_count (mi 6 rfl) ?_
  refine ex_callVr (As := [_, _, _]) (v := some (.int (nI 0))) (g1 := (ap x [(0, 0, 1200, 0, (nI 0))] h)) ok_X12_count (mi 7 rfl) rfl (m_ref111 (ws := []) hst f.1) rfl (fk f.1 0 rfl) rfl rfl (by decide) (by decide) (Nat.le_of_ble_eq_true rfl) (by decide) ?_
  refine ex_if_eq (tgt := 17) ok_X12_count (mi 8 rfl) rfl (fun _ => ?_) (fun hn => absurd (by decide) hn)
  refine ex_iload_n ok_X12_count (mi 11 rfl) rfl ?_
  refine ex_if_ne (tgt := 28) ok_X12_count (mi 12 rfl) rfl (fun hn => absurd (by decide) hn) (fun _ => ?_)
  refine ex_aload_n ok_X12_count (mi 13 rfl) rfl ?_
  refine ex_getIx ok_X12_count (mi 14 rfl) rfl rfl (kq apq (fk f.1 0 rfl)) (apI0 (a := 0) rfl (fi f.2.1 5 rfl)) ?_
  refine ex_goto (tgt := 80) ok_X12_count (mi 15 rfl) rfl ?_
  refine ex_iret ok_X12_count (mi 42 rfl) rfl ?_
  exact ⟨_, rfl, fun _ => by decide, apI (a := 0) rfl, kq apq (fk f.1 0 rfl), kp_ap rfl⟩
theorem d_count_1 {G : GE} (hst : (ge_l G).stackTraces = false) {x : Nat}  : MM G 2 0 0 my_X12_count x [.int (nI 1)] 0 (nI 0) := by
  intro h f
  refine ex_M_of ok_X12_count cw_X12_count rfl hst (Nat.le_of_ble_eq_true rfl) ?_
  refine ex_aload_n ok_X12_count (mi 0 rfl) rfl ?_
  refine ex_iload_n ok_X12_count (mi 1 rfl) rfl ?_
  refine ex_iconst ok_X12_count (mi 2 rfl) ?_
  refine ex_iconst ok_X12_count (mi 3 rfl) ?_
  refine ex_callSr (As := [_, _, _]) ok_X12_count (mi 4 rfl) rfl (m_in1 hst (by decide) (by decide)) rfl rfl rfl (by decide) (Nat.le_of_ble_eq_true rfl) (by decide) ?_
  refine ex_iconst ok_X12_count (mi 5 rfl) ?_
  refine ex_iconst ok_X12_count (mi 6 rfl) ?_
  refine ex_callVr (As := [_, _, _]) (v := some (.int (nI 0))) (g1 := (ap x [(0, 0, 1200, 0, (nI 0))] h)) ok_X12_count (mi 7 rfl) rfl (m_ref111 (ws := []) hst f.1) rfl (fk f.1 0 rfl) rfl rfl (by decide) (by decide) (Nat.le_of_ble_eq_true rfl) (by decide) ?_
  refine ex_if_eq (tgt := 17) ok_X12_count (mi 8 rfl) rfl (fun _ => ?_) (fun hn => absurd (by decide) hn)
  refine ex_iload_n ok_X12_count (mi 11 rfl) rfl ?_
  refine ex_if_ne (tgt := 28) ok_X12_count (mi 12 rfl) rfl (fun _ => ?_) (fun hn => absurd hn (by decide))
  refine ex_iload_n ok_X12_count (mi 16 rfl) rfl ?_
  refine ex_iconst ok_X12_count (mi 17 rfl) ?_
  refine ex_icmp_ne (tgt := 40) ok_X12_count (mi 18 rfl) rfl (fun hn => absurd (by decide) hn) (fun _ => ?_)
  refine ex_aload_n ok_X12_count (mi 19 rfl) rfl ?_
  refine ex_getIx ok_X12_count (mi 20 rfl) rfl rfl (kq apq (fk f.1 0 rfl)) (apI0 (a := 0) rfl (fi f.2.1 4 rfl)) ?_
  refine ex_goto (tgt := 80) ok_X12_count (mi 21 rfl) rfl ?_
  refine ex_iret ok_X12_count (mi 42 rfl) rfl ?_
  exact ⟨_, rfl, fun _ => by decide, apI (a := 0) rfl, kq apq (fk f.1 0 rfl), kp_ap rfl⟩
theorem d_count_2 {G : GE} (hst : (ge_l G).stackTraces = false) {x : Nat}  : MM G 2 0 0 my_X12_count x [.int (nI 2)] 0 (nI 0) := by
  intro h f
  refine ex_M_of ok_X12_count cw_X12_count rfl hst (Nat.le_of_ble_eq_true rfl) ?_
  refine ex_aload_n ok_X12_count (mi 0 rfl) rfl ?_
  refine ex_iload_n ok_X12_count (mi 1 rfl) rfl ?_
  refine ex_iconst ok_X12_count (mi 2 rfl) ?_
  refine ex_iconst ok_X12_count (mi 3 rfl) ?_
  refine ex_callSr (As := [_, _, _]) ok_X12_count (mi 4 rfl) rfl (m_in1 hst (by decide) (by decide)) rfl rfl rfl (by decide) (Nat.le_of_ble_eq_true rfl) (by decide) ?_
  refine ex_iconst ok_X12_count (mi 5 rfl) ?_
  refine ex_iconst ok_X12_count (mi 6 rfl) ?_
  refine ex_callVr (As := [_, _, _]) (v := some (.int (nI 0))) (g1 := (ap x [(0, 0, 1200, 0, (nI 0))] h)) ok_X12_count (mi 7 rfl) rfl (m_ref111 (ws := []) hst f.1) rfl (fk f.1 0 rfl) rfl rfl (by decide) (by decide) (Nat.le_of_ble_eq_true rfl) (by decide) ?_
  refine ex_if_eq (tgt := 17) ok_X12_count (mi 8 rfl) rfl (fun _ => ?_) (fun hn => absurd (by decide) hn)
  refine ex_iload_n ok_X12_count (mi 11 rfl) rfl ?_
  refine ex_if_ne (tgt := 28) ok_X12_count (mi 12 rfl) rfl (fun _ => ?_) (fun hn => absurd hn (by decide))
  refine ex_iload_n ok_X12_count (mi 16 rfl) rfl ?_
  refine ex_iconst ok_X12_count (mi 17 rfl) ?_
  refine ex_icmp_ne (tgt := 40) ok_X12_count (mi 18 rfl) rfl (fun _ => ?_) (fun hn => absurd hn (by decide))
  refine ex_iload_n ok_X12_count (mi 22 rfl) rfl ?_
  refine ex_iconst ok_X12_count (mi 23 rfl) ?_
  refine ex_icmp_ne (tgt := 52) ok_X12_count (mi 24 rfl) rfl (fun hn => absurd (by decide) hn) (fun _ => ?_)
  refine ex_aload_n ok_X12_count (mi 25 rfl) rfl ?_
  refine ex_getIx ok_X12_count (mi 26 rfl) rfl rfl (kq apq (fk f.1 0 rfl)) (apI0 (a := 0) rfl (fi f.2.1 3 rfl)) ?_
  refine ex_goto (tgt := 80) ok_X12_count (mi 27 rfl) rfl ?_
  refine ex_iret ok_X12_count (mi 42 rfl) rfl ?_
  exact ⟨_, rfl, fun _ => by decide, apI (a := 0) rfl, kq apq (fk f.1 0 rfl), kp_ap rfl⟩
theorem d_count_3 {G : GE} (hst : (ge_l G).stackTraces = false) {x : Nat}  : MM G 2 0 0 my_X12_count x [.int (nI 3)] 0 (nI 0) := by
  intro h f
  refine ex_M_of ok_X12_count cw_X12_count rfl hst (Nat.le_of_ble_eq_true rfl) ?_
  refine ex_aload_n ok_X12_count (mi 0 rfl) rfl ?_
  refine ex_iload_n ok_X12_count (mi 1 rfl) rfl ?_
  refine ex_iconst ok_X12_count (mi 2 rfl) ?_
  refine ex_iconst ok_X12_count (mi 3 rfl) ?_
  refine ex_callSr (As := [_, _, _]) ok_X12_count (mi 4 rfl) rfl (m_in1 hst (by decide) (by decide)) rfl rfl rfl (by decide) (Nat.le_of_ble_eq_true rfl) (by decide) ?_
  refine ex_iconst ok_X12_count (mi 5 rfl) ?_
  refine ex_iconst ok_X12_count (mi 6 rfl) ?_
  refine ex_callVr (As := [_, _, _]) (v := some (.int (nI 0))) (g1 := (ap x [(0, 0, 1200, 0, (nI 0))] h)) ok_X12_count (mi 7 rfl) rfl (m_ref111 (ws := []) hst f.1) rfl (fk f.1 0 rfl) rfl rfl (by decide) (by decide) (Nat.le_of_ble_eq_true rfl) (by decide) ?_
  refine ex_if_eq (tgt := 17) ok_X12_count (mi 8 rfl) rfl (fun _ => ?_) (fun hn => absurd (by decide) hn)
  refine ex_iload_n ok_X12_count (mi 11 rfl) rfl ?_
  refine ex_if_ne (tgt := 28) ok_X12_count (mi 12 rfl) rfl (fun _ => ?_) (fun hn => absurd hn (by decide))
  refine ex_iload_n ok_X12_count (mi 16 rfl) rfl ?_
  refine ex_iconst ok_X12_count (mi 17 rfl) ?_
  refine ex_icmp_ne (tgt := 40) ok_X12_count (mi 18 rfl) rfl (fun _ => ?_) (fun hn => absurd hn (by decide))
  refine ex_iload_n ok_X12_count (mi 22 rfl) rfl ?_
  refine ex_iconst ok_X12_count (mi 23 rfl) ?_
  refine ex_icmp_ne (tgt := 52) ok_X12_count (mi 24 rfl) rfl (fun _ => ?_) (fun hn => absurd hn (by decide))
  refine ex_iload_n ok_X12_count (mi 28 rfl) rfl ?_
  refine ex_iconst ok_X12_count (mi 29 rfl) ?_
  refine ex_icmp_ne (tgt := 64) ok_X12_count (mi 30 rfl) rfl (fun hn => absurd (by decide) hn) (fun _ => ?_)
  refine ex_aload_n ok_X12_count (mi 31 rfl) rfl ?_
  refine ex_getIx ok_X12_count (mi 32 rfl) rfl rfl (kq apq (fk f.1 0 rfl)) (apI0 (a := 0) rfl (fi f.2.1 2 rfl)) ?_
  refine ex_goto (tgt := 80) ok_X12_count (mi 33 rfl) rfl ?_
  refine ex_iret ok_X12_count (mi 42 rfl) rfl ?_
  exact ⟨_, rfl, fun _ => by decide, apI (a := 0) rfl, kq apq (fk f.1 0 rfl), kp_ap rfl⟩
theorem d_count_4 {G : GE} (hst : (ge_l G).stackTraces = false) {x : Nat}  : MM G 2 0 0 my_X12_count x [.int (nI 4)] 0 (nI 0) := by
  intro h f
  refine ex_M_of ok_X12_count cw_X12_count rfl hst (Nat.le_of_ble_eq_true rfl) ?_
  refine ex_aload_n ok_X12_count (mi 0 rfl) rfl ?_
  refine ex_iload_n ok_X12_count (mi 1 rfl) rfl ?_
  refine ex_iconst ok_X12_count (mi 2 rfl) ?_
  refine ex_iconst ok_X12_count (mi 3 rfl) ?_
  refine ex_callSr (As := [_, _, _]) ok_X12_count (mi 4 rfl) rfl (m_in1 hst (by decide) (by decide)) rfl rfl rfl (by decide) (Nat.le_of_ble_eq_true rfl) (by decide) ?_
  refine ex_iconst ok_X12_count (mi 5 rfl) ?_
  refine ex_iconst ok_X12_count (mi 6 rfl) ?_
  refine ex_callVr (As := [_, _, _]) (v := some (.int (nI 0))) (g1 := (ap x [(0, 0, 1200, 0, (nI 0))] h)) ok_X12_count (mi 7 rfl) rfl (m_ref111 (ws := []) hst f.1) rfl (fk f.1 0 rfl) rfl rfl (by decide) (by decide) (Nat.le_of_ble_eq_true rfl) (by decide) ?_
  refine ex_if_eq (tgt := 17) ok_X12_count (mi 8 rfl) rfl (fun _ => ?_) (fun hn => absurd (by decide) hn)
  refine ex_iload_n ok_X12_count (mi 11 rfl) rfl ?_
  refine ex_if_ne (tgt := 28) ok_X12_count (mi 12 rfl) rfl (fun _ => ?_) (fun hn => absurd hn (by decide))
  refine ex_iload_n ok_X12_count (mi 16 rfl) rfl ?_
  refine ex_iconst ok_X12_count (mi 17 rfl) ?_
  refine ex_icmp_ne (tgt := 40) ok_X12_count (mi 18 rfl) rfl (fun _ => ?_) (fun hn => absurd hn (by decide))
  refine ex_iload_n ok_X12_count (mi 22 rfl) rfl ?_
  refine ex_iconst ok_X12_count (mi 23 rfl) ?_
  refine ex_icmp_ne (tgt := 52) ok_X12_count (mi 24 rfl) rfl (fun _ => ?_) (fun hn => absurd hn (by decide))
  refine ex_iload_n ok_X12_count (mi 28 rfl) rfl ?_
  refine ex_iconst ok_X12_count (mi 29 rfl) ?_
  refine ex_icmp_ne (tgt := 64) ok_X12_count (mi 30 rfl) rfl (fun _ => ?_) (fun hn => absurd hn (by decide))
  refine ex_iload_n ok_X12_count (mi 34 rfl) rfl ?_
  refine ex_iconst ok_X12_count (mi 35 rfl) ?_
  refine ex_icmp_ne (tgt := 76) ok_X12_count (mi 36 rfl) rfl (fun hn => absurd (by decide) hn) (fun _ => ?_)
  refine ex_aload_n ok_X12_count (mi 37 rfl) rfl ?_
  refine ex_getIx ok_X12_count (mi 38 rfl) rfl rfl (kq apq (fk f.1 0 rfl)) (apI0 (a := 0) rfl (fi f.2.1 1 rfl)) ?_
  refine ex_goto (tgt := 80) ok_X12_count (mi 39 rfl) rfl ?_
  refine ex_iret ok_X12_count (mi 42 rfl) rfl ?_
  exact ⟨_, rfl, fun _ => by decide, apI (a := 0) rfl, kq apq (fk f.1 0 rfl), kp_ap rfl⟩
theorem d_count_5 {G : GE} (hst : (ge_l G).stackTraces = false) {x : Nat}  : MM G 2 0 0 my_X12_count x [.int (nI 5)] 0 (nI 0) := by
  intro h f
  refine ex_M_of ok_X12_count cw_X12_count rfl hst (Nat.le_of_ble_eq_true rfl) ?_
  refine ex_aload_n ok_X12_count (mi 0 rfl) rfl ?_
  refine ex_iload_n ok_X12_count (mi 1 rfl) rfl ?_
  refine ex_iconst ok_X12_count (mi 2 rfl) ?_
  refine ex_iconst ok_X12_count (mi 3 rfl) ?_
  refine ex_callSr (As := [_, _, _]) ok_X12_count (mi 4 rfl) rfl (m_in1 hst (by decide) (by decide)) rfl rfl rfl (by decide) (Nat.le_of_ble_eq_true rfl) (by decide) ?_
  refine ex_iconst ok_X12_count (mi 5 rfl) ?_
  refine ex_iconst ok_X12_count (mi 6 rfl) ?_
  refine ex_callVr (As := [_, _, _]) (v := some (.int (nI 0))) (g1 := (ap x [(0, 0, 1200, 0, (nI 0))] h)) ok_X12_count (mi 7 rfl) rfl (m_ref111 (ws := []) hst f.1) rfl (fk f.1 0 rfl) rfl rfl (by decide) (by decide) (Nat.le_of_ble_eq_true rfl) (by decide) ?_
  refine ex_if_eq (tgt := 17) ok_X12_count (mi 8 rfl) rfl (fun _ => ?_) (fun hn => absurd (by decide) hn)
  refine ex_iload_n ok_X12_count (mi 11 rfl) rfl ?_
  refine ex_if_ne (tgt := 28) ok_X12_count (mi 12 rfl) rfl (fun _ => ?_) (fun hn => absurd hn (by decide))
  refine ex_iload_n ok_X12_count (mi 16 rfl) rfl ?_
  refine ex_iconst ok_X12_count (mi 17 rfl) ?_
  refine ex_icmp_ne (tgt := 40) ok_X12_count (mi 18 rfl) rfl (fun _ => ?_) (fun hn => absurd hn (by decide))
  refine ex_iload_n ok_X12_count (mi 22 rfl) rfl ?_
  refine ex_iconst ok_X12_count (mi 23 rfl) ?_
  refine ex_icmp_ne (tgt := 52) ok_X12_count (mi 24 rfl) rfl (fun _ => ?_) (fun hn => absurd hn (by decide))
  refine ex_iload_n ok_X12_count (mi 28 rfl) rfl ?_
  refine ex_iconst ok_X12_count (mi 29 rfl) ?_
  refine ex_icmp_ne (tgt := 64) ok_X12_count (mi 30 rfl) rfl (fun _ => ?_) (fun hn => absurd hn (by decide))
  refine ex_iload_n ok_X12_count (mi 34 rfl) rfl ?_
  refine ex_iconst ok_X12_count (mi 35 rfl) ?_
  refine ex_icmp_ne (tgt := 76) ok_X12_count (mi 36 rfl) rfl (fun _ => ?_) (fun hn => absurd hn (by decide))
  refine ex_aload_n ok_X12_count (mi 40 rfl) rfl ?_
  refine ex_getIx ok_X12_count (mi 41 rfl) rfl rfl (kq apq (fk f.1 0 rfl)) (apI0 (a := 0) rfl (fi f.2.1 0 rfl)) ?_
  refine ex_iret ok_X12_count (mi 42 rfl) rfl ?_
  exact ⟨_, rfl, fun _ => by decide, apI (a := 0) rfl, kq apq (fk f.1 0 rfl), kp_ap rfl⟩
theorem d_up_b0 {G : GE} (hst : (ge_l G).stackTraces = false) {x : Nat} {p0 p1 p2 : Int32} (c0 : ¬ vp_in p0 4) : MM G 2 0 0 my_X12_up x [.int p0, .int p1, .int p2] 1 (nI 0) := by
  intro h f
  refine ex_M_of ok_X12_up cw_X12_up rfl hst (Nat.le_of_ble_eq_true rfl) ?_
  refine ex_aload_n ok_X12_up (mi 0 rfl) rfl ?_
  refine ex_iload_n ok_X12_up (mi 1 rfl) rfl ?_
  refine ex_iconst ok_X12_up (mi 2 rfl) ?_
  refine ex_iconst ok_X12_up (mi 3 rfl) ?_
  refine ex_callSr (As := [_, _, _]) ok_X12_up (mi 4 rfl) rfl (m_in0 hst (vbad c0 (by decide))) rfl rfl rfl (by decide) (Nat.le_of_ble_eq_true rfl) (by decide) ?_
  refine ex_if_eq (tgt := 28) ok_X12_up (mi 5 rfl) rfl (fun _ => ?_) (fun hn => absurd (by decide) hn)
  refine ex_iconst ok_X12_up (mi 16 rfl) ?_
  refine ex_iconst ok_X12_up (mi 17 rfl) ?_
  refine ex_iconst ok_X12_up (mi 18 rfl) ?_
  refine ex_callVr (As := [_, _, _]) (v := some (.int (nI 1))) (g1 := (ap x [(0, 0, 1200, 0, (nI 1))] h)) ok_X12_up (mi 19 rfl) rfl (m_ref011 (ws := []) hst f.1) rfl (fk f.1 0 rfl) rfl rfl (by decide) (by decide) (Nat.le_of_ble_eq_true rfl) (by decide) ?_
  refine ex_if_eq (tgt := 39) ok_X12_up (mi 20 rfl) rfl (fun hn => absurd hn (by decide)) (fun _ => ?_)
  refine ex_iconst ok_X12_up (mi 21 rfl) ?_
  refine ex_zret ok_X12_up (mi 22 rfl) rfl (by decide) ?_
  exact ⟨_, rfl, fun e => absurd e (by decide), apI (a := 0) rfl, kq apq (fk f.1 0 rfl), kp_ap rfl⟩
theorem d_up_0_b1 {G : GE} (hst : (ge_l G).stackTraces = false) {x : Nat} {p1 p2 : Int32} (c1 : ¬ vp_in p1 3) : MM G 2 0 0 my_X12_up x [.int (nI 0), .int p1, .int p2] 1 (nI 0) := by
  intro h f
  refine ex_M_of ok_X12_up cw_X12_up rfl hst (Nat.le_of_ble_eq_true rfl) ?_
  refine ex_aload_n ok_X12_up (mi 0 rfl) rfl ?_
  refine ex_iload_n ok_X12_up (mi 1 rfl) rfl ?_
  refine ex_iconst ok_X12_up (mi 2 rfl) ?_
  refine ex_iconst ok_X12_up (mi 3 rfl) ?_
  refine ex_callSr (As := [_, _, _]) ok_X12_up (mi 4 rfl) rfl (m_in1 hst (by decide) (by decide)) rfl rfl rfl (by decide) (Nat.le_of_ble_eq_true rfl) (by decide) ?_
  refine ex_if_eq (tgt := 28) ok_X12_up (mi 5 rfl) rfl (fun hn => absurd hn (by decide)) (fun _ => ?_)
  refine ex_iload_n ok_X12_up (mi 6 rfl) rfl ?_
  refine ex_iconst ok_X12_up (mi 7 rfl) ?_
  refine ex_iload_n ok_X12_up (mi 8 rfl) rfl ?_
  refine ex_callSr (As := [_]) (v := some (.int (nI 3))) (g1 := h) ok_X12_up (mi 9 rfl) rfl ?c rfl rfl rfl (by decide) (Nat.le_of_ble_eq_true rfl) (by decide) ?_
  case c =>
    refine ex_M_of ok_X12_nodes cw_X12_nodes rfl hst (Nat.le_of_ble_eq_true rfl) ?_
    refine ex_iload_n ok_X12_nodes (mi 0 rfl) rfl ?_
    refine ex_iconst ok_X12_nodes (mi 1 rfl) ?_
    refine ex_icmp_ne (tgt := 10) ok_X12_nodes (mi 2 rfl) rfl (fun _ => ?_) (fun hn => absurd hn (by decide))
    refine ex_iload_n ok_X12_nodes (mi 5 rfl) rfl ?_
    refine ex_iconst ok_X12_nodes (mi 6 rfl) ?_
    refine ex_icmp_ne (tgt := 20) ok_X12_nodes (mi 7 rfl) rfl (fun _ => ?_) (fun hn => absurd hn (by decide))
    refine ex_iconst ok_X12_nodes (mi 10 rfl) ?_
    refine ex_iret ok_X12_nodes (mi 11 rfl) rfl ?_
    exact ⟨inlI (by decide), rfl⟩
  refine ex_iconst ok_X12_up (mi 10 rfl) ?_
  refine ex_isub ok_X12_up (mi 11 rfl) ?_
  refine ex_top (w := (nI 2)) (by decide) ?_
  refine ex_callSr (As := [_, _, _]) ok_X12_up (mi 12 rfl) rfl (m_in0 hst (vbad c1 (by decide))) rfl rfl rfl (by decide) (Nat.le_of_ble_eq_true rfl) (by decide) ?_
  refine ex_if_eq (tgt := 28) ok_X12_up (mi 13 rfl) rfl (fun _ => ?_) (fun hn => absurd (by decide) hn)
  refine ex_iconst ok_X12_up (mi 16 rfl) ?_
  refine ex_iconst ok_X12_up (mi 17 rfl) ?_
  refine ex_iconst ok_X12_up (mi 18 rfl) ?_
  refine ex_callVr (As := [_, _, _]) (v := some (.int (nI 1))) (g1 := (ap x [(0, 0, 1200, 0, (nI 1))] h)) ok_X12_up (mi 19 rfl) rfl (m_ref011 (ws := []) hst f.1) rfl (fk f.1 0 rfl) rfl rfl (by decide) (by decide) (Nat.le_of_ble_eq_true rfl) (by decide) ?_
  refine ex_if_eq (tgt := 39) ok_X12_up (mi 20 rfl) rfl (fun hn => absurd hn (by decide)) (fun _ => ?_)
  refine ex_iconst ok_X12_up (mi 21 rfl) ?_
  refine ex_zret ok_X12_up (mi 22 rfl) rfl (by decide) ?_
  exact ⟨_, rfl, fun e => absurd e (by decide), apI (a := 0) rfl, kq apq (fk f.1 0 rfl), kp_ap rfl⟩
theorem d_up_0_0 {G : GE} (hst : (ge_l G).stackTraces = false) {x : Nat} {j : Nat} (hj : j < 3) : MM G 2 0 0 my_X12_up x [.int (nI 0), .int (nI j), .int (nI 0)] 0 (nI 1) := by
  intro h f
  refine ex_M_of ok_X12_up cw_X12_up rfl hst (Nat.le_of_ble_eq_true rfl) ?_
  refine ex_aload_n ok_X12_up (mi 0 rfl) rfl ?_
  refine ex_iload_n ok_X12_up (mi 1 rfl) rfl ?_
  refine ex_iconst ok_X12_up (mi 2 rfl) ?_
  refine ex_iconst ok_X12_up (mi 3 rfl) ?_
  refine ex_callSr (As := [_, _, _]) ok_X12_up (mi 4 rfl) rfl (m_in1 hst (by decide) (by decide)) rfl rfl rfl (by decide) (Nat.le_of_ble_eq_true rfl) (by decide) ?_
  refine ex_if_eq (tgt := 28) ok_X12_up (mi 5 rfl) rfl (fun hn => absurd hn (by decide)) (fun _ => ?_)
  refine ex_iload_n ok_X12_up (mi 6 rfl) rfl ?_
  refine ex_iconst ok_X12_up (mi 7 rfl) ?_
  refine ex_iload_n ok_X12_up (mi 8 rfl) rfl ?_
  refine ex_callSr (As := [_]) (v := some (.int (nI 3))) (g1 := h) ok_X12_up (mi 9 rfl) rfl ?c rfl rfl rfl (by decide) (Nat.le_of_ble_eq_true rfl) (by decide) ?_
  case c =>
    refine ex_M_of ok_X12_nodes cw_X12_nodes rfl hst (Nat.le_of_ble_eq_true rfl) ?_
    refine ex_iload_n ok_X12_nodes (mi 0 rfl) rfl ?_
    refine ex_iconst ok_X12_nodes (mi 1 rfl) ?_
    refine ex_icmp_ne (tgt := 10) ok_X12_nodes (mi 2 rfl) rfl (fun _ => ?_) (fun hn => absurd hn (by decide))
    refine ex_iload_n ok_X12_nodes (mi 5 rfl) rfl ?_
    refine ex_iconst ok_X12_nodes (mi 6 rfl) ?_
    refine ex_icmp_ne (tgt := 20) ok_X12_nodes (mi 7 rfl) rfl (fun _ => ?_) (fun hn => absurd hn (by decide))
    refine ex_iconst ok_X12_nodes (mi 10 rfl) ?_
    refine ex_iret ok_X12_nodes (mi 11 rfl) rfl ?_
    exact ⟨inlI (by decide), rfl⟩
  refine ex_iconst ok_X12_up (mi 10 rfl) ?_
  refine ex_isub ok_X12_up (mi 11 rfl) ?_
  refine ex_top (w := (nI 2)) (by decide) ?_
  refine ex_callSr (As := [_, _, _]) ok_X12_up (mi 12 rfl) rfl (m_in1 hst (vlo (vp_in_nI hj (by decide)) (by decide)) (vhi (vp_in_nI hj (by decide)) (by decide))) rfl rfl rfl (by decide) (Nat.le_of_ble_eq_true rfl) (by decide) ?_
  refine ex_if_eq (tgt := 28) ok_X12_up (mi 13 rfl) rfl (fun hn => absurd hn (by decide)) (fun _ => ?_)
  refine ex_iconst ok_X12_up (mi 14 rfl) ?_
  refine ex_goto (tgt := 29) ok_X12_up (mi 15 rfl) rfl ?_
  refine ex_iconst ok_X12_up (mi 17 rfl) ?_
  refine ex_iconst ok_X12_up (mi 18 rfl) ?_
  refine ex_callVr (As := [_, _, _]) (v := some (.int (nI 0))) (g1 := (ap x [(0, 0, 1200, 0, (nI 0))] h)) ok_X12_up (mi 19 rfl) rfl (m_ref111 (ws := []) hst f.1) rfl (fk f.1 0 rfl) rfl rfl (by decide) (by decide) (Nat.le_of_ble_eq_true rfl) (by decide) ?_
  refine ex_if_eq (tgt := 39) ok_X12_up (mi 20 rfl) rfl (fun _ => ?_) (fun hn => absurd (by decide) hn)
  refine ex_aload_n ok_X12_up (mi 23 rfl) rfl ?_
  refine ex_getRx ok_X12_up (mi 24 rfl) rfl rfl (kq apq (fk f.1 0 rfl)) (rq apq (fr f.1 0 rfl)) (kq apq (fk f.1 1 rfl)) (by decide) ?_
  refine ex_iload_n ok_X12_up (mi 25 rfl) rfl ?_
  refine ex_callSr (As := [_]) (v := some (.int (nI 0))) (g1 := (ap x [(0, 0, 1200, 0, (nI 0))] h)) ok_X12_up (mi 26 rfl) rfl ?c rfl rfl rfl (by decide) (Nat.le_of_ble_eq_true rfl) (by decide) ?_
  case c =>
    refine ex_M_of ok_X12_first cw_X12_first rfl hst (Nat.le_of_ble_eq_true rfl) ?_
    refine ex_iload_n ok_X12_first (mi 0 rfl) rfl ?_
    refine ex_if_ne (tgt := 8) ok_X12_first (mi 1 rfl) rfl (fun hn => absurd (by decide) hn) (fun _ => ?_)
    refine ex_iconst ok_X12_first (mi 2 rfl) ?_
    refine ex_goto (tgt := 29) ok_X12_first (mi 3 rfl) rfl ?_
    refine ex_iret ok_X12_first (mi 15 rfl) rfl ?_
    exact ⟨inlI (by decide), rfl⟩
  refine ex_iload_n ok_X12_up (mi 27 rfl) rfl ?_
  refine ex_iadd ok_X12_up (mi 28 rfl) ?_
  refine ex_top (w := (nI (0 + j))) (nI_add 0 j) ?_
  refine ex_baldx ok_X12_up (mi 29 rfl) (kq apq (fk f.1 1 rfl)) (nq apq (fn f.1 1 rfl)) (vp_in_nI (by omega) (by decide)) (apA0 (rfl) (fg f.2.2.2 28 rfl (Nat.zero_le _) (by rw [nI_clamp (by omega)]; omega))) ?_
  refine ex_if_ne (tgt := 57) ok_X12_up (mi 30 rfl) rfl (fun hn => absurd (by decide) hn) (fun _ => ?_)
  refine ex_iconst ok_X12_up (mi 31 rfl) ?_
  refine ex_goto (tgt := 58) ok_X12_up (mi 32 rfl) rfl ?_
  refine ex_istore ok_X12_up (mi 34 rfl) ?_
  refine ex_aload_n ok_X12_up (mi 35 rfl) rfl ?_
  refine ex_getRx ok_X12_up (mi 36 rfl) rfl rfl (kq apq (fk f.1 0 rfl)) (rq apq (fr f.1 0 rfl)) (kq apq (fk f.1 1 rfl)) (by decide) ?_
  refine ex_iload_n ok_X12_up (mi 37 rfl) rfl ?_
  refine ex_callSr (As := [_]) (v := some (.int (nI 0))) (g1 := (ap x [(0, 0, 1200, 0, (nI 0))] h)) ok_X12_up (mi 38 rfl) rfl ?c rfl rfl rfl (by decide) (Nat.le_of_ble_eq_true rfl) (by decide) ?_
  case c =>
    refine ex_M_of ok_X12_first cw_X12_first rfl hst (Nat.le_of_ble_eq_true rfl) ?_
    refine ex_iload_n ok_X12_first (mi 0 rfl) rfl ?_
    refine ex_if_ne (tgt := 8) ok_X12_first (mi 1 rfl) rfl (fun hn => absurd (by decide) hn) (fun _ => ?_)
    refine ex_iconst ok_X12_first (mi 2 rfl) ?_
    refine ex_goto (tgt := 29) ok_X12_first (mi 3 rfl) rfl ?_
    refine ex_iret ok_X12_first (mi 15 rfl) rfl ?_
    exact ⟨inlI (by decide), rfl⟩
  refine ex_iload_n ok_X12_up (mi 39 rfl) rfl ?_
  refine ex_iadd ok_X12_up (mi 40 rfl) ?_
  refine ex_top (w := (nI (0 + j))) (nI_add 0 j) ?_
  refine ex_iload_n ok_X12_up (mi 41 rfl) rfl ?_
  refine ex_if_ne (tgt := 78) ok_X12_up (mi 42 rfl) rfl (fun hn => absurd (by decide) hn) (fun _ => ?_)
  refine ex_iconst ok_X12_up (mi 43 rfl) ?_
  refine ex_goto (tgt := 79) ok_X12_up (mi 44 rfl) rfl ?_
  refine ex_basta (a := 1) (j := 0 + j) (v := (nI 1)) ok_X12_up (mi 46 rfl) (fk f.1 1 rfl) (fn f.1 1 rfl) (vp_in_nI (by omega) (by decide)) (nI_clamp (by omega)) (by decide) (by decide) ?_
  refine ex_iload ok_X12_up (mi 47 rfl) rfl ?_
  refine ex_zret ok_X12_up (mi 48 rfl) rfl (by decide) ?_
  exact ⟨_, rfl, fun _ => by decide, apI (a := 0) rfl, kq apq (fk f.1 0 rfl), kp_ap rfl⟩
theorem d_up_0_1 {G : GE} (hst : (ge_l G).stackTraces = false) {x : Nat} {j : Nat} (hj : j < 3) : MM G 2 0 0 my_X12_up x [.int (nI 0), .int (nI j), .int (nI 1)] 0 (nI 1) := by
  intro h f
  refine ex_M_of ok_X12_up cw_X12_up rfl hst (Nat.le_of_ble_eq_true rfl) ?_
  refine ex_aload_n ok_X12_up (mi 0 rfl) rfl ?_
  refine ex_iload_n ok_X12_up (mi 1 rfl) rfl ?_
  refine ex_iconst ok_X12_up (mi 2 rfl) ?_
  refine ex_iconst ok_X12_up (mi 3 rfl) ?_
  refine ex_callSr (As := [_, _, _]) ok_X12_up (mi 4 rfl) rfl (m_in1 hst (by decide) (by decide)) rfl rfl rfl (by decide) (Nat.le_of_ble_eq_true rfl) (by decide) ?_
  refine ex_if_eq (tgt := 28) ok_X12_up (mi 5 rfl) rfl (fun hn => absurd hn (by decide)) (fun _ => ?_)
  refine ex_iload_n ok_X12_up (mi 6 rfl) rfl ?_
  refine ex_iconst ok_X12_up (mi 7 rfl) ?_
  refine ex_iload_n ok_X12_up (mi 8 rfl) rfl ?_
  refine ex_callSr (As := [_]) (v := some (.int (nI 3))) (g1 := h) ok_X12_up (mi 9 rfl) rfl ?c rfl rfl rfl (by decide) (Nat.le_of_ble_eq_true rfl) (by decide) ?_
  case c =>
    refine ex_M_of ok_X12_nodes cw_X12_nodes rfl hst (Nat.le_of_ble_eq_true rfl) ?_
    refine ex_iload_n ok_X12_nodes (mi 0 rfl) rfl ?_
    refine ex_iconst ok_X12_nodes (mi 1 rfl) ?_
    refine ex_icmp_ne (tgt := 10) ok_X12_nodes (mi 2 rfl) rfl (fun _ => ?_) (fun hn => absurd hn (by decide))
    refine ex_iload_n ok_X12_nodes (mi 5 rfl) rfl ?_
    refine ex_iconst ok_X12_nodes (mi 6 rfl) ?_
    refine ex_icmp_ne (tgt := 20) ok_X12_nodes (mi 7 rfl) rfl (fun _ => ?_) (fun hn => absurd hn (by decide))
    refine ex_iconst ok_X12_nodes (mi 10 rfl) ?_
    refine ex_iret ok_X12_nodes (mi 11 rfl) rfl ?_
    exact ⟨inlI (by decide), rfl⟩
  refine ex_iconst ok_X12_up (mi 10 rfl) ?_
  refine ex_isub ok_X12_up (mi 11 rfl) ?_
  refine ex_top (w := (nI 2)) (by decide) ?_
  refine ex_callSr (As := [_, _, _]) ok_X12_up (mi 12 rfl) rfl (m_in1 hst (vlo (vp_in_nI hj (by decide)) (by decide)) (vhi (vp_in_nI hj (by decide)) (by decide))) rfl rfl rfl (by decide) (Nat.le_of_ble_eq_true rfl) (by decide) ?_
  refine ex_if_eq (tgt := 28) ok_X12_up (mi 13 rfl) rfl (fun hn => absurd hn (by decide)) (fun _ => ?_)
  refine ex_iconst ok_X12_up (mi 14 rfl) ?_
  refine ex_goto (tgt := 29) ok_X12_up (mi 15 rfl) rfl ?_
  refine ex_iconst ok_X12_up (mi 17 rfl) ?_
  refine ex_iconst ok_X12_up (mi 18 rfl) ?_
  refine ex_callVr (As := [_, _, _]) (v := some (.int (nI 0))) (g1 := (ap x [(0, 0, 1200, 0, (nI 0))] h)) ok_X12_up (mi 19 rfl) rfl (m_ref111 (ws := []) hst f.1) rfl (fk f.1 0 rfl) rfl rfl (by decide) (by decide) (Nat.le_of_ble_eq_true rfl) (by decide) ?_
  refine ex_if_eq (tgt := 39) ok_X12_up (mi 20 rfl) rfl (fun _ => ?_) (fun hn => absurd (by decide) hn)
  refine ex_aload_n ok_X12_up (mi 23 rfl) rfl ?_
  refine ex_getRx ok_X12_up (mi 24 rfl) rfl rfl (kq apq (fk f.1 0 rfl)) (rq apq (fr f.1 0 rfl)) (kq apq (fk f.1 1 rfl)) (by decide) ?_
  refine ex_iload_n ok_X12_up (mi 25 rfl) rfl ?_
  refine ex_callSr (As := [_]) (v := some (.int (nI 0))) (g1 := (ap x [(0, 0, 1200, 0, (nI 0))] h)) ok_X12_up (mi 26 rfl) rfl ?c rfl rfl rfl (by decide) (Nat.le_of_ble_eq_true rfl) (by decide) ?_
  case c =>
    refine ex_M_of ok_X12_first cw_X12_first rfl hst (Nat.le_of_ble_eq_true rfl) ?_
    refine ex_iload_n ok_X12_first (mi 0 rfl) rfl ?_
    refine ex_if_ne (tgt := 8) ok_X12_first (mi 1 rfl) rfl (fun hn => absurd (by decide) hn) (fun _ => ?_)
    refine ex_iconst ok_X12_first (mi 2 rfl) ?_
    refine ex_goto (tgt := 29) ok_X12_first (mi 3 rfl) rfl ?_
    refine ex_iret ok_X12_first (mi 15 rfl) rfl ?_
    exact ⟨inlI (by decide), rfl⟩
  refine ex_iload_n ok_X12_up (mi 27 rfl) rfl ?_
  refine ex_iadd ok_X12_up (mi 28 rfl) ?_
  refine ex_top (w := (nI (0 + j))) (nI_add 0 j) ?_
  refine ex_baldx ok_X12_up (mi 29 rfl) (kq apq (fk f.1 1 rfl)) (nq apq (fn f.1 1 rfl)) (vp_in_nI (by omega) (by decide)) (apA0 (rfl) (fg f.2.2.2 28 rfl (Nat.zero_le _) (by rw [nI_clamp (by omega)]; omega))) ?_
  refine ex_if_ne (tgt := 57) ok_X12_up (mi 30 rfl) rfl (fun hn => absurd (by decide) hn) (fun _ => ?_)
  refine ex_iconst ok_X12_up (mi 31 rfl) ?_
  refine ex_goto (tgt := 58) ok_X12_up (mi 32 rfl) rfl ?_
  refine ex_istore ok_X12_up (mi 34 rfl) ?_
  refine ex_aload_n ok_X12_up (mi 35 rfl) rfl ?_
  refine ex_getRx ok_X12_up (mi 36 rfl) rfl rfl (kq apq (fk f.1 0 rfl)) (rq apq (fr f.1 0 rfl)) (kq apq (fk f.1 1 rfl)) (by decide) ?_
  refine ex_iload_n ok_X12_up (mi 37 rfl) rfl ?_
  refine ex_callSr (As := [_]) (v := some (.int (nI 0))) (g1 := (ap x [(0, 0, 1200, 0, (nI 0))] h)) ok_X12_up (mi 38 rfl) rfl ?c rfl rfl rfl (by decide) (Nat.le_of_ble_eq_true rfl) (by decide) ?_
  case c =>
    refine ex_M_of ok_X12_first cw_X12_first rfl hst (Nat.le_of_ble_eq_true rfl) ?_
    refine ex_iload_n ok_X12_first (mi 0 rfl) rfl ?_
    refine ex_if_ne (tgt := 8) ok_X12_first (mi 1 rfl) rfl (fun hn => absurd (by decide) hn) (fun _ => ?_)
    refine ex_iconst ok_X12_first (mi 2 rfl) ?_
    refine ex_goto (tgt := 29) ok_X12_first (mi 3 rfl) rfl ?_
    refine ex_iret ok_X12_first (mi 15 rfl) rfl ?_
    exact ⟨inlI (by decide), rfl⟩
  refine ex_iload_n ok_X12_up (mi 39 rfl) rfl ?_
  refine ex_iadd ok_X12_up (mi 40 rfl) ?_
  refine ex_top (w := (nI (0 + j))) (nI_add 0 j) ?_
  refine ex_iload_n ok_X12_up (mi 41 rfl) rfl ?_
  refine ex_if_ne (tgt := 78) ok_X12_up (mi 42 rfl) rfl (fun _ => ?_) (fun hn => absurd hn (by decide))
  refine ex_iconst ok_X12_up (mi 45 rfl) ?_
  refine ex_basta (a := 1) (j := 0 + j) (v := (nI 0)) ok_X12_up (mi 46 rfl) (fk f.1 1 rfl) (fn f.1 1 rfl) (vp_in_nI (by omega) (by decide)) (nI_clamp (by omega)) (by decide) (by decide) ?_
  refine ex_iload ok_X12_up (mi 47 rfl) rfl ?_
  refine ex_zret ok_X12_up (mi 48 rfl) rfl (by decide) ?_
  exact ⟨_, rfl, fun _ => by decide, apI (a := 0) rfl, kq apq (fk f.1 0 rfl), kp_ap rfl⟩
theorem d_up_1_b1 {G : GE} (hst : (ge_l G).stackTraces = false) {x : Nat} {p1 p2 : Int32} (c1 : ¬ vp_in p1 9) : MM G 2 0 0 my_X12_up x [.int (nI 1), .int p1, .int p2] 1 (nI 0) := by
  intro h f
  refine ex_M_of ok_X12_up cw_X12_up rfl hst (Nat.le_of_ble_eq_true rfl) ?_
  refine ex_aload_n ok_X12_up (mi 0 rfl) rfl ?_
  refine ex_iload_n ok_X12_up (mi 1 rfl) rfl ?_
  refine ex_iconst ok_X12_up (mi 2 rfl) ?_
  refine ex_iconst ok_X12_up (mi 3 rfl) ?_
  refine ex_callSr (As := [_, _, _]) ok_X12_up (mi 4 rfl) rfl (m_in1 hst (by decide) (by decide)) rfl rfl rfl (by decide) (Nat.le_of_ble_eq_true rfl) (by decide) ?_
  refine ex_if_eq (tgt := 28) ok_X12_up (mi 5 rfl) rfl (fun hn => absurd hn (by decide)) (fun _ => ?_)
  refine ex_iload_n ok_X12_up (mi 6 rfl) rfl ?_
  refine ex_iconst ok_X12_up (mi 7 rfl) ?_
  refine ex_iload_n ok_X12_up (mi 8 rfl) rfl ?_
  refine ex_callSr (As := [_]) (v := some (.int (nI 9))) (g1 := h) ok_X12_up (mi 9 rfl) rfl ?c rfl rfl rfl (by decide) (Nat.le_of_ble_eq_true rfl) (by decide) ?_
  case c =>
    refine ex_M_of ok_X12_nodes cw_X12_nodes rfl hst (Nat.le_of_ble_eq_true rfl) ?_
    refine ex_iload_n ok_X12_nodes (mi 0 rfl) rfl ?_
    refine ex_iconst ok_X12_nodes (mi 1 rfl) ?_
    refine ex_icmp_ne (tgt := 10) ok_X12_nodes (mi 2 rfl) rfl (fun hn => absurd (by decide) hn) (fun _ => ?_)
    refine ex_bipush ok_X12_nodes (mi 3 rfl) ?_
    refine ex_goto (tgt := 21) ok_X12_nodes (mi 4 rfl) rfl ?_
    refine ex_iret ok_X12_nodes (mi 11 rfl) rfl ?_
    exact ⟨inlI (by decide), rfl⟩
  refine ex_iconst ok_X12_up (mi 10 rfl) ?_
  refine ex_isub ok_X12_up (mi 11 rfl) ?_
  refine ex_top (w := (nI 8)) (by decide) ?_
  refine ex_callSr (As := [_, _, _]) ok_X12_up (mi 12 rfl) rfl (m_in0 hst (vbad c1 (by decide))) rfl rfl rfl (by decide) (Nat.le_of_ble_eq_true rfl) (by decide) ?_
  refine ex_if_eq (tgt := 28) ok_X12_up (mi 13 rfl) rfl (fun _ => ?_) (fun hn => absurd (by decide) hn)
  refine ex_iconst ok_X12_up (mi 16 rfl) ?_
  refine ex_iconst ok_X12_up (mi 17 rfl) ?_
  refine ex_iconst ok_X12_up (mi 18 rfl) ?_
  refine ex_callVr (As := [_, _, _]) (v := some (.int (nI 1))) (g1 := (ap x [(0, 0, 1200, 0, (nI 1))] h)) ok_X12_up (mi 19 rfl) rfl (m_ref011 (ws := []) hst f.1) rfl (fk f.1 0 rfl) rfl rfl (by decide) (by decide) (Nat.le_of_ble_eq_true rfl) (by decide) ?_
  refine ex_if_eq (tgt := 39) ok_X12_up (mi 20 rfl) rfl (fun hn => absurd hn (by decide)) (fun _ => ?_)
  refine ex_iconst ok_X12_up (mi 21 rfl) ?_
  refine ex_zret ok_X12_up (mi 22 rfl) rfl (by decide) ?_
  exact ⟨_, rfl, fun e => absurd e (by decide), apI (a := 0) rfl, kq apq (fk f.1 0 rfl), kp_ap rfl⟩
