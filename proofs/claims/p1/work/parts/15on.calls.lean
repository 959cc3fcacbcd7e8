theorem c_voter_7_2 {G : GE} (hst : (ge_l G).stackTraces = false) {x : Nat}  : CC G 3 4 24 my_X11_voter x [.int (nI 7), .int (nI 2)] E3 0 (nI 0) := by
  intro h f
  refine ex_M_of ok_X11_voter cw_X11_voter rfl hst (Nat.le_of_ble_eq_true rfl) ?_
  refine ex_iload_n ok_X11_voter (mi 0 rfl) rfl ?_
  refine ex_bipush ok_X11_voter (mi 1 rfl) ?_
  refine ex_callSr (As := [_, _]) ok_X11_voter (mi 2 rfl) rfl (m_reqOk hst (pk_in 7 12 (by decide)) (by decide) (by decide)) rfl rfl rfl (by decide) (Nat.le_of_ble_eq_true rfl) (by decide) ?_
  refine ex_iload_n ok_X11_voter (mi 3 rfl) rfl ?_
  refine ex_iconst ok_X11_voter (mi 4 rfl) ?_
  refine ex_callSr (As := [_, _]) ok_X11_voter (mi 5 rfl) rfl (m_reqOk hst (pk_in 2 3 (by decide)) (by decide) (by decide)) rfl rfl rfl (by decide) (Nat.le_of_ble_eq_true rfl) (by decide) ?_
  refine ex_aload_n ok_X11_voter (mi 6 rfl) rfl ?_
  refine ex_getRx ok_X11_voter (mi 7 rfl) rfl rfl (fk f.1 0 rfl) (fr f.1 84 rfl) (fk f.1 63 rfl) (by decide) ?_
  refine ex_iload_n ok_X11_voter (mi 8 rfl) rfl ?_
  refine ex_aaldx (n := 3) ok_X11_voter (mi 9 rfl) (by decide) (fk f.1 63 rfl) (fn f.1 63 rfl) (pk_in 7 12 (by decide)) (fo f.2.1 19 rfl) (fk f.1 78 rfl) (by decide) ?_
  refine ex_iload_n ok_X11_voter (mi 10 rfl) rfl ?_
  refine ex_callVr (As := [_]) (v := some (.int (nI 0))) (g1 := h) ok_X11_voter (mi 11 rfl) rfl ?c rfl (fk f.1 78 rfl) rfl rfl (by decide) (by decide) (Nat.le_of_ble_eq_true rfl) (by decide) ?_
  case c =>
    refine ex_M_of ok_X10_tell cw_X10_tell rfl hst (Nat.le_of_ble_eq_true rfl) ?_
    refine ex_iload_n ok_X10_tell (mi 0 rfl) rfl ?_
    refine ex_lookup (tgt := 38) ok_X10_tell (mi 1 rfl) (by decide) (by decide) ?_
    refine ex_aload_n ok_X10_tell (mi 8 rfl) rfl ?_
    refine ex_getRx ok_X10_tell (mi 9 rfl) rfl rfl (fk f.1 78 rfl) (fr f.1 106 rfl) (fk f.1 79 rfl) (by decide) ?_
    refine ex_callSr (As := [_]) ok_X10_tell (mi 10 rfl) rfl (m_votesIn0 hst (sh_sub 883 f.1 (by decide +kernel) (by decide +kernel)) (tA_sub 883 16 ((-1)) f.2.2.2.1 (by decide +kernel))) rfl rfl rfl (by decide) (Nat.le_of_ble_eq_true rfl) (by decide) ?_
    refine ex_iret ok_X10_tell (mi 11 rfl) rfl ?_
    exact ⟨inlI (by decide), rfl⟩
  refine ex_iret ok_X11_voter (mi 12 rfl) rfl ?_
  exact ⟨Or.inl ⟨rfl, inlI (by decide)⟩, kp0⟩
theorem c_vote_7_0 {G : GE} (hst : (ge_l G).stackTraces = false) {x : Nat} {j : Nat} (hj : j < 16) : CC G 2 4 24 my_X11_vote x [.int (nI 7), .int (nI j), .int (nI 0)] E3 0 ((-1)) := by
  intro h f
  refine ex_M_of ok_X11_vote cw_X11_vote rfl hst (Nat.le_of_ble_eq_true rfl) ?_
  refine ex_iload_n ok_X11_vote (mi 0 rfl) rfl ?_
  refine ex_bipush ok_X11_vote (mi 1 rfl) ?_
  refine ex_callSr (As := [_, _]) ok_X11_vote (mi 2 rfl) rfl (m_reqOk hst (pk_in 7 12 (by decide)) (by decide) (by decide)) rfl rfl rfl (by decide) (Nat.le_of_ble_eq_true rfl) (by decide) ?_
  refine ex_iload_n ok_X11_vote (mi 3 rfl) rfl ?_
  refine ex_bipush ok_X11_vote (mi 4 rfl) ?_
  refine ex_callSr (As := [_, _]) ok_X11_vote (mi 5 rfl) rfl (m_reqOk hst (vp_in_nI hj (by decide)) (by decide) (by decide)) rfl rfl rfl (by decide) (Nat.le_of_ble_eq_true rfl) (by decide) ?_
  refine ex_aload_n ok_X11_vote (mi 6 rfl) rfl ?_
  refine ex_getRx ok_X11_vote (mi 7 rfl) rfl rfl (fk f.1 0 rfl) (fr f.1 84 rfl) (fk f.1 63 rfl) (by decide) ?_
  refine ex_iload_n ok_X11_vote (mi 8 rfl) rfl ?_
  refine ex_aaldx (n := 3) ok_X11_vote (mi 9 rfl) (by decide) (fk f.1 63 rfl) (fn f.1 63 rfl) (pk_in 7 12 (by decide)) (fo f.2.1 19 rfl) (fk f.1 78 rfl) (by decide) ?_
  refine ex_getRx ok_X11_vote (mi 10 rfl) rfl rfl (fk f.1 78 rfl) (fr f.1 106 rfl) (fk f.1 79 rfl) (by decide) ?_
  refine ex_iload_n ok_X11_vote (mi 11 rfl) rfl ?_
  refine ex_ialdx ok_X11_vote (mi 12 rfl) (Or.inl (fk f.1 79 rfl)) (fn f.1 79 rfl) (vp_in_nI hj (by decide)) (fa f.2.2.2.1 40 rfl (by rw [nI_clamp (by omega)]; exact hj)) ?_
  refine ex_istore ok_X11_vote (mi 13 rfl) ?_
  refine ex_iload_n ok_X11_vote (mi 14 rfl) rfl ?_
  refine ex_if_eq (tgt := 37) ok_X11_vote (mi 15 rfl) rfl (fun _ => ?_) (fun hn => absurd (by decide) hn)
  refine ex_iload ok_X11_vote (mi 19 rfl) rfl ?_
  refine ex_callSr (As := [_]) (v := some (.int (-1))) (g1 := h) ok_X11_vote (mi 20 rfl) rfl ?c rfl rfl rfl (by decide) (Nat.le_of_ble_eq_true rfl) (by decide) ?_
  case c =>
    refine ex_M_of ok_X10_roundOf cw_X10_roundOf rfl hst (Nat.le_of_ble_eq_true rfl) ?_
    refine ex_iload_n ok_X10_roundOf (mi 0 rfl) rfl ?_
    refine ex_iconst ok_X10_roundOf (mi 1 rfl) ?_
    refine ex_icmp_ne (tgt := 9) ok_X10_roundOf (mi 2 rfl) rfl (fun hn => absurd (by decide) hn) (fun _ => ?_)
    refine ex_iconst ok_X10_roundOf (mi 3 rfl) ?_
    refine ex_goto (tgt := 13) ok_X10_roundOf (mi 4 rfl) rfl ?_
    refine ex_iret ok_X10_roundOf (mi 8 rfl) rfl ?_
    exact ⟨inlI (by decide), rfl⟩
  refine ex_iret ok_X11_vote (mi 21 rfl) rfl ?_
  exact ⟨Or.inl ⟨rfl, inlI (by decide)⟩, kp0⟩
theorem c_vote_7_1 {G : GE} (hst : (ge_l G).stackTraces = false) {x : Nat} {j : Nat} (hj : j < 16) : CC G 2 4 24 my_X11_vote x [.int (nI 7), .int (nI j), .int (nI 1)] E3 0 ((-1)) := by
  intro h f
  refine ex_M_of ok_X11_vote cw_X11_vote rfl hst (Nat.le_of_ble_eq_true rfl) ?_
  refine ex_iload_n ok_X11_vote (mi 0 rfl) rfl ?_
  refine ex_bipush ok_X11_vote (mi 1 rfl) ?_
  refine ex_callSr (As := [_, _]) ok_X11_vote (mi 2 rfl) rfl (m_reqOk hst (pk_in 7 12 (by decide)) (by decide) (by decide)) rfl rfl rfl (by decide) (Nat.le_of_ble_eq_true rfl) (by decide) ?_
  refine ex_iload_n ok_X11_vote (mi 3 rfl) rfl ?_
  refine ex_bipush ok_X11_vote (mi 4 rfl) ?_
  refine ex_callSr (As := [_, _]) ok_X11_vote (mi 5 rfl) rfl (m_reqOk hst (vp_in_nI hj (by decide)) (by decide) (by decide)) rfl rfl rfl (by decide) (Nat.le_of_ble_eq_true rfl) (by decide) ?_
  refine ex_aload_n ok_X11_vote (mi 6 rfl) rfl ?_
  refine ex_getRx ok_X11_vote (mi 7 rfl) rfl rfl (fk f.1 0 rfl) (fr f.1 84 rfl) (fk f.1 63 rfl) (by decide) ?_
  refine ex_iload_n ok_X11_vote (mi 8 rfl) rfl ?_
  refine ex_aaldx (n := 3) ok_X11_vote (mi 9 rfl) (by decide) (fk f.1 63 rfl) (fn f.1 63 rfl) (pk_in 7 12 (by decide)) (fo f.2.1 19 rfl) (fk f.1 78 rfl) (by decide) ?_
  refine ex_getRx ok_X11_vote (mi 10 rfl) rfl rfl (fk f.1 78 rfl) (fr f.1 106 rfl) (fk f.1 79 rfl) (by decide) ?_
  refine ex_iload_n ok_X11_vote (mi 11 rfl) rfl ?_
  refine ex_ialdx ok_X11_vote (mi 12 rfl) (Or.inl (fk f.1 79 rfl)) (fn f.1 79 rfl) (vp_in_nI hj (by decide)) (fa f.2.2.2.1 40 rfl (by rw [nI_clamp (by omega)]; exact hj)) ?_
  refine ex_istore ok_X11_vote (mi 13 rfl) ?_
  refine ex_iload_n ok_X11_vote (mi 14 rfl) rfl ?_
  refine ex_if_eq (tgt := 37) ok_X11_vote (mi 15 rfl) rfl (fun hn => absurd hn (by decide)) (fun _ => ?_)
  refine ex_iload ok_X11_vote (mi 16 rfl) rfl ?_
  refine ex_callSr (As := [_]) (v := some (.int (-1))) (g1 := h) ok_X11_vote (mi 17 rfl) rfl ?c rfl rfl rfl (by decide) (Nat.le_of_ble_eq_true rfl) (by decide) ?_
  case c =>
    refine ex_M_of ok_X10_valueOf cw_X10_valueOf rfl hst (Nat.le_of_ble_eq_true rfl) ?_
    refine ex_iload_n ok_X10_valueOf (mi 0 rfl) rfl ?_
    refine ex_iconst ok_X10_valueOf (mi 1 rfl) ?_
    refine ex_icmp_ne (tgt := 9) ok_X10_valueOf (mi 2 rfl) rfl (fun hn => absurd (by decide) hn) (fun _ => ?_)
    refine ex_iconst ok_X10_valueOf (mi 3 rfl) ?_
    refine ex_goto (tgt := 13) ok_X10_valueOf (mi 4 rfl) rfl ?_
    refine ex_iret ok_X10_valueOf (mi 8 rfl) rfl ?_
    exact ⟨inlI (by decide), rfl⟩
  refine ex_goto (tgt := 42) ok_X11_vote (mi 18 rfl) rfl ?_
  refine ex_iret ok_X11_vote (mi 21 rfl) rfl ?_
  exact ⟨Or.inl ⟨rfl, inlI (by decide)⟩, kp0⟩
theorem c_voter_8_0 {G : GE} (hst : (ge_l G).stackTraces = false) {x : Nat}  : CC G 3 4 24 my_X11_voter x [.int (nI 8), .int (nI 0)] E3 0 ((-1)) := by
  intro h f
  refine ex_M_of ok_X11_voter cw_X11_voter rfl hst (Nat.le_of_ble_eq_true rfl) ?_
  refine ex_iload_n ok_X11_voter (mi 0 rfl) rfl ?_
  refine ex_bipush ok_X11_voter (mi 1 rfl) ?_
  refine ex_callSr (As := [_, _]) ok_X11_voter (mi 2 rfl) rfl (m_reqOk hst (pk_in 8 12 (by decide)) (by decide) (by decide)) rfl rfl rfl (by decide) (Nat.le_of_ble_eq_true rfl) (by decide) ?_
  refine ex_iload_n ok_X11_voter (mi 3 rfl) rfl ?_
  refine ex_iconst ok_X11_voter (mi 4 rfl) ?_
  refine ex_callSr (As := [_, _]) ok_X11_voter (mi 5 rfl) rfl (m_reqOk hst (pk_in 0 3 (by decide)) (by decide) (by decide)) rfl rfl rfl (by decide) (Nat.le_of_ble_eq_true rfl) (by decide) ?_
  refine ex_aload_n ok_X11_voter (mi 6 rfl) rfl ?_
  refine ex_getRx ok_X11_voter (mi 7 rfl) rfl rfl (fk f.1 0 rfl) (fr f.1 84 rfl) (fk f.1 63 rfl) (by decide) ?_
  refine ex_iload_n ok_X11_voter (mi 8 rfl) rfl ?_
  refine ex_aaldx (n := 3) ok_X11_voter (mi 9 rfl) (by decide) (fk f.1 63 rfl) (fn f.1 63 rfl) (pk_in 8 12 (by decide)) (fo f.2.1 20 rfl) (fk f.1 80 rfl) (by decide) ?_
  refine ex_iload_n ok_X11_voter (mi 10 rfl) rfl ?_
  refine ex_callVr (As := [_]) (v := some (.int (-1))) (g1 := h) ok_X11_voter (mi 11 rfl) rfl ?c rfl (fk f.1 80 rfl) rfl rfl (by decide) (by decide) (Nat.le_of_ble_eq_true rfl) (by decide) ?_
  case c =>
    refine ex_M_of ok_X10_tell cw_X10_tell rfl hst (Nat.le_of_ble_eq_true rfl) ?_
    refine ex_iload_n ok_X10_tell (mi 0 rfl) rfl ?_
    refine ex_lookup (tgt := 28) ok_X10_tell (mi 1 rfl) (by decide) (by decide) ?_
    refine ex_aload_n ok_X10_tell (mi 2 rfl) rfl ?_
    refine ex_getIx ok_X10_tell (mi 3 rfl) rfl rfl (fk f.1 80 rfl) (fi f.2.2.1 197 rfl) ?_
    refine ex_iret ok_X10_tell (mi 4 rfl) rfl ?_
    exact ⟨inlI (by decide), rfl⟩
  refine ex_iret ok_X11_voter (mi 12 rfl) rfl ?_
  exact ⟨Or.inl ⟨rfl, inlI (by decide)⟩, kp0⟩
theorem c_voter_8_1 {G : GE} (hst : (ge_l G).stackTraces = false) {x : Nat}  : CC G 3 4 24 my_X11_voter x [.int (nI 8), .int (nI 1)] E3 0 (nI 0) := by
  intro h f
  refine ex_M_of ok_X11_voter cw_X11_voter rfl hst (Nat.le_of_ble_eq_true rfl) ?_
  refine ex_iload_n ok_X11_voter (mi 0 rfl) rfl ?_
  refine ex_bipush ok_X11_voter (mi 1 rfl) ?_
  refine ex_callSr (As := [_, _]) ok_X11_voter (mi 2 rfl) rfl (m_reqOk hst (pk_in 8 12 (by decide)) (by decide) (by decide)) rfl rfl rfl (by decide) (Nat.le_of_ble_eq_true rfl) (by decide) ?_
  refine ex_iload_n ok_X11_voter (mi 3 rfl) rfl ?_
  refine ex_iconst ok_X11_voter (mi 4 rfl) ?_
  refine ex_callSr (As := [_, _]) ok_X11_voter (mi 5 rfl) rfl (m_reqOk hst (pk_in 1 3 (by decide)) (by decide) (by decide)) rfl rfl rfl (by decide) (Nat.le_of_ble_eq_true rfl) (by decide) ?_
  refine ex_aload_n ok_X11_voter (mi 6 rfl) rfl ?_
  refine ex_getRx ok_X11_voter (mi 7 rfl) rfl rfl (fk f.1 0 rfl) (fr f.1 84 rfl) (fk f.1 63 rfl) (by decide) ?_
  refine ex_iload_n ok_X11_voter (mi 8 rfl) rfl ?_
  refine ex_aaldx (n := 3) ok_X11_voter (mi 9 rfl) (by decide) (fk f.1 63 rfl) (fn f.1 63 rfl) (pk_in 8 12 (by decide)) (fo f.2.1 20 rfl) (fk f.1 80 rfl) (by decide) ?_
  refine ex_iload_n ok_X11_voter (mi 10 rfl) rfl ?_
  refine ex_callVr (As := [_]) (v := some (.int (nI 0))) (g1 := h) ok_X11_voter (mi 11 rfl) rfl ?c rfl (fk f.1 80 rfl) rfl rfl (by decide) (by decide) (Nat.le_of_ble_eq_true rfl) (by decide) ?_
  case c =>
    refine ex_M_of ok_X10_tell cw_X10_tell rfl hst (Nat.le_of_ble_eq_true rfl) ?_
    refine ex_iload_n ok_X10_tell (mi 0 rfl) rfl ?_
    refine ex_lookup (tgt := 33) ok_X10_tell (mi 1 rfl) (by decide) (by decide) ?_
    refine ex_aload_n ok_X10_tell (mi 5 rfl) rfl ?_
    refine ex_getIx ok_X10_tell (mi 6 rfl) rfl rfl (fk f.1 80 rfl) (fi f.2.2.1 198 rfl) ?_
    refine ex_iret ok_X10_tell (mi 7 rfl) rfl ?_
    exact ⟨inlI (by decide), rfl⟩
  refine ex_iret ok_X11_voter (mi 12 rfl) rfl ?_
  exact ⟨Or.inl ⟨rfl, inlI (by decide)⟩, kp0⟩
theorem c_voter_8_2 {G : GE} (hst : (ge_l G).stackTraces = false) {x : Nat}  : CC G 3 4 24 my_X11_voter x [.int (nI 8), .int (nI 2)] E3 0 (nI 0) := by
  intro h f
  refine ex_M_of ok_X11_voter cw_X11_voter rfl hst (Nat.le_of_ble_eq_true rfl) ?_
  refine ex_iload_n ok_X11_voter (mi 0 rfl) rfl ?_
  refine ex_bipush ok_X11_voter (mi 1 rfl) ?_
  refine ex_callSr (As := [_, _]) ok_X11_voter (mi 2 rfl) rfl (m_reqOk hst (pk_in 8 12 (by decide)) (by decide) (by decide)) rfl rfl rfl (by decide) (Nat.le_of_ble_eq_true rfl) (by decide) ?_
  refine ex_iload_n ok_X11_voter (mi 3 rfl) rfl ?_
  refine ex_iconst ok_X11_voter (mi 4 rfl) ?_
  refine ex_callSr (As := [_, _]) ok_X11_voter (mi 5 rfl) rfl (m_reqOk hst (pk_in 2 3 (by decide)) (by decide) (by decide)) rfl rfl rfl (by decide) (Nat.le_of_ble_eq_true rfl) (by decide) ?_
  refine ex_aload_n ok_X11_voter (mi 6 rfl) rfl ?_
  refine ex_getRx ok_X11_voter (mi 7 rfl) rfl rfl (fk f.1 0 rfl) (fr f.1 84 rfl) (fk f.1 63 rfl) (by decide) ?_
  refine ex_iload_n ok_X11_voter (mi 8 rfl) rfl ?_
  refine ex_aaldx (n := 3) ok_X11_voter (mi 9 rfl) (by decide) (fk f.1 63 rfl) (fn f.1 63 rfl) (pk_in 8 12 (by decide)) (fo f.2.1 20 rfl) (fk f.1 80 rfl) (by decide) ?_
  refine ex_iload_n ok_X11_voter (mi 10 rfl) rfl ?_
  refine ex_callVr (As := [_]) (v := some (.int (nI 0))) (g1 := h) ok_X11_voter (mi 11 rfl) rfl ?c rfl (fk f.1 80 rfl) rfl rfl (by decide) (by decide) (Nat.le_of_ble_eq_true rfl) (by decide) ?_
  case c =>
    refine ex_M_of ok_X10_tell cw_X10_tell rfl hst (Nat.le_of_ble_eq_true rfl) ?_
    refine ex_iload_n ok_X10_tell (mi 0 rfl) rfl ?_
    refine ex_lookup (tgt := 38) ok_X10_tell (mi 1 rfl) (by decide) (by decide) ?_
    refine ex_aload_n ok_X10_tell (mi 8 rfl) rfl ?_
    refine ex_getRx ok_X10_tell (mi 9 rfl) rfl rfl (fk f.1 80 rfl) (fr f.1 109 rfl) (fk f.1 81 rfl) (by decide) ?_
    refine ex_callSr (As := [_]) ok_X10_tell (mi 10 rfl) rfl (m_votesIn0 hst (sh_sub 885 f.1 (by decide +kernel) (by decide +kernel)) (tA_sub 885 16 ((-1)) f.2.2.2.1 (by decide +kernel))) rfl rfl rfl (by decide) (Nat.le_of_ble_eq_true rfl) (by decide) ?_
    refine ex_iret ok_X10_tell (mi 11 rfl) rfl ?_
    exact ⟨inlI (by decide), rfl⟩
  refine ex_iret ok_X11_voter (mi 12 rfl) rfl ?_
  exact ⟨Or.inl ⟨rfl, inlI (by decide)⟩, kp0⟩
theorem c_vote_8_0 {G : GE} (hst : (ge_l G).stackTraces = false) {x : Nat} {j : Nat} (hj : j < 16) : CC G 2 4 24 my_X11_vote x [.int (nI 8), .int (nI j), .int (nI 0)] E3 0 ((-1)) := by
  intro h f
  refine ex_M_of ok_X11_vote cw_X11_vote rfl hst (Nat.le_of_ble_eq_true rfl) ?_
  refine ex_iload_n ok_X11_vote (mi 0 rfl) rfl ?_
  refine ex_bipush ok_X11_vote (mi 1 rfl) ?_
  refine ex_callSr (As := [_, _]) ok_X11_vote (mi 2 rfl) rfl (m_reqOk hst (pk_in 8 12 (by decide)) (by decide) (by decide)) rfl rfl rfl (by decide) (Nat.le_of_ble_eq_true rfl) (by decide) ?_
  refine ex_iload_n ok_X11_vote (mi 3 rfl) rfl ?_
  refine ex_bipush ok_X11_vote (mi 4 rfl) ?_
  refine ex_callSr (As := [_, _]) ok_X11_vote (mi 5 rfl) rfl (m_reqOk hst (vp_in_nI hj (by decide)) (by decide) (by decide)) rfl rfl rfl (by decide) (Nat.le_of_ble_eq_true rfl) (by decide) ?_
  refine ex_aload_n ok_X11_vote (mi 6 rfl) rfl ?_
  refine ex_getRx ok_X11_vote (mi 7 rfl) rfl rfl (fk f.1 0 rfl) (fr f.1 84 rfl) (fk f.1 63 rfl) (by decide) ?_
  refine ex_iload_n ok_X11_vote (mi 8 rfl) rfl ?_
  refine ex_aaldx (n := 3) ok_X11_vote (mi 9 rfl) (by decide) (fk f.1 63 rfl) (fn f.1 63 rfl) (pk_in 8 12 (by decide)) (fo f.2.1 20 rfl) (fk f.1 80 rfl) (by decide) ?_
  refine ex_getRx ok_X11_vote (mi 10 rfl) rfl rfl (fk f.1 80 rfl) (fr f.1 109 rfl) (fk f.1 81 rfl) (by decide) ?_
  refine ex_iload_n ok_X11_vote (mi 11 rfl) rfl ?_
  refine ex_ialdx ok_X11_vote (mi 12 rfl) (Or.inl (fk f.1 81 rfl)) (fn f.1 81 rfl) (vp_in_nI hj (by decide)) (fa f.2.2.2.1 41 rfl (by rw [nI_clamp (by omega)]; exact hj)) ?_
  refine ex_istore ok_X11_vote (mi 13 rfl) ?_
  refine ex_iload_n ok_X11_vote (mi 14 rfl) rfl ?_
  refine ex_if_eq (tgt := 37) ok_X11_vote (mi 15 rfl) rfl (fun _ => ?_) (fun hn => absurd (by decide) hn)
  refine ex_iload ok_X11_vote (mi 19 rfl) rfl ?_
  refine ex_callSr (As := [_]) (v := some (.int (-1))) (g1 := h) ok_X11_vote (mi 20 rfl) rfl ?c rfl rfl rfl (by decide) (Nat.le_of_ble_eq_true rfl) (by decide) ?_
  case c =>
    refine ex_M_of ok_X10_roundOf cw_X10_roundOf rfl hst (Nat.le_of_ble_eq_true rfl) ?_
    refine ex_iload_n ok_X10_roundOf (mi 0 rfl) rfl ?_
    refine ex_iconst ok_X10_roundOf (mi 1 rfl) ?_
    refine ex_icmp_ne (tgt := 9) ok_X10_roundOf (mi 2 rfl) rfl (fun hn => absurd (by decide) hn) (fun _ => ?_)
    refine ex_iconst ok_X10_roundOf (mi 3 rfl) ?_
    refine ex_goto (tgt := 13) ok_X10_roundOf (mi 4 rfl) rfl ?_
    refine ex_iret ok_X10_roundOf (mi 8 rfl) rfl ?_
    exact ⟨inlI (by decide), rfl⟩
  refine ex_iret ok_X11_vote (mi 21 rfl) rfl ?_
  exact ⟨Or.inl ⟨rfl, inlI (by decide)⟩, kp0⟩
theorem c_vote_8_1 {G : GE} (hst : (ge_l G).stackTraces = false) {x : Nat} {j : Nat} (hj : j < 16) : CC G 2 4 24 my_X11_vote x [.int (nI 8), .int (nI j), .int (nI 1)] E3 0 ((-1)) := by
  intro h f
  refine ex_M_of ok_X11_vote cw_X11_vote rfl hst (Nat.le_of_ble_eq_true rfl) ?_
  refine ex_iload_n ok_X11_vote (mi 0 rfl) rfl ?_
  refine ex_bipush ok_X11_vote (mi 1 rfl) ?_
  refine ex_callSr (As := [_, _]) ok_X11_vote (mi 2 rfl) rfl (m_reqOk hst (pk_in 8 12 (by decide)) (by decide) (by decide)) rfl rfl rfl (by decide) (Nat.le_of_ble_eq_true rfl) (by decide) ?_
  refine ex_iload_n ok_X11_vote (mi 3 rfl) rfl ?_
  refine ex_bipush ok_X11_vote (mi 4 rfl) ?_
  refine ex_callSr (As := [_, _]) ok_X11_vote (mi 5 rfl) rfl (m_reqOk hst (vp_in_nI hj (by decide)) (by decide) (by decide)) rfl rfl rfl (by decide) (Nat.le_of_ble_eq_true rfl) (by decide) ?_
  refine ex_aload_n ok_X11_vote (mi 6 rfl) rfl ?_
  refine ex_getRx ok_X11_vote (mi 7 rfl) rfl rfl (fk f.1 0 rfl) (fr f.1 84 rfl) (fk f.1 63 rfl) (by decide) ?_
  refine ex_iload_n ok_X11_vote (mi 8 rfl) rfl ?_
  refine ex_aaldx (n := 3) ok_X11_vote (mi 9 rfl) (by decide) (fk f.1 63 rfl) (fn f.1 63 rfl) (pk_in 8 12 (by decide)) (fo f.2.1 20 rfl) (fk f.1 80 rfl) (by decide) ?_
  refine ex_getRx ok_X11_vote (mi 10 rfl) rfl rfl (fk f.1 80 rfl) (fr f.1 109 rfl) (fk f.1 81 rfl) (by decide) ?_
  refine ex_iload_n ok_X11_vote (mi 11 rfl) rfl ?_
  refine ex_ialdx ok_X11_vote (mi 12 rfl) (Or.inl (fk f.1 81 rfl)) (fn f.1 81 rfl) (vp_in_nI hj (by decide)) (fa f.2.2.2.1 41 rfl (by rw [nI_clamp (by omega)]; exact hj)) ?_
  refine ex_istore ok_X11_vote (mi 13 rfl) ?_
  refine ex_iload_n ok_X11_vote (mi 14 rfl) rfl ?_
  refine ex_if_eq (tgt := 37) ok_X11_vote (mi 15 rfl) rfl (fun hn => absurd hn (by decide)) (fun _ => ?_)
  refine ex_iload ok_X11_vote (mi 16 rfl) rfl ?_
  refine ex_callSr (As := [_]) (v := some (.int (-1))) (g1 := h) ok_X11_vote (mi 17 rfl) rfl ?c rfl rfl rfl (by decide) (Nat.le_of_ble_eq_true rfl) (by decide) ?_
  case c =>
    refine ex_M_of ok_X10_valueOf cw_X10_valueOf rfl hst (Nat.le_of_ble_eq_true rfl) ?_
    refine ex_iload_n ok_X10_valueOf (mi 0 rfl) rfl ?_
    refine ex_iconst ok_X10_valueOf (mi 1 rfl) ?_
    refine ex_icmp_ne (tgt := 9) ok_X10_valueOf (mi 2 rfl) rfl (fun hn => absurd (by decide) hn) (fun _ => ?_)
    refine ex_iconst ok_X10_valueOf (mi 3 rfl) ?_
    refine ex_goto (tgt := 13) ok_X10_valueOf (mi 4 rfl) rfl ?_
    refine ex_iret ok_X10_valueOf (mi 8 rfl) rfl ?_
    exact ⟨inlI (by decide), rfl⟩
  refine ex_goto (tgt := 42) ok_X11_vote (mi 18 rfl) rfl ?_
  refine ex_iret ok_X11_vote (mi 21 rfl) rfl ?_
  exact ⟨Or.inl ⟨rfl, inlI (by decide)⟩, kp0⟩
theorem c_voter_9_0 {G : GE} (hst : (ge_l G).stackTraces = false) {x : Nat}  : CC G 3 4 24 my_X11_voter x [.int (nI 9), .int (nI 0)] E3 0 ((-1)) := by
  intro h f
  refine ex_M_of ok_X11_voter cw_X11_voter rfl hst (Nat.le_of_ble_eq_true rfl) ?_
  refine ex_iload_n ok_X11_voter (mi 0 rfl) rfl ?_
  refine ex_bipush ok_X11_voter (mi 1 rfl) ?_
  refine ex_callSr (As := [_, _]) ok_X11_voter (mi 2 rfl) rfl (m_reqOk hst (pk_in 9 12 (by decide)) (by decide) (by decide)) rfl rfl rfl (by decide) (Nat.le_of_ble_eq_true rfl) (by decide) ?_
  refine ex_iload_n ok_X11_voter (mi 3 rfl) rfl ?_
  refine ex_iconst ok_X11_voter (mi 4 rfl) ?_
  refine ex_callSr (As := [_, _]) ok_X11_voter (mi 5 rfl) rfl (m_reqOk hst (pk_in 0 3 (by decide)) (by decide) (by decide)) rfl rfl rfl (by decide) (Nat.le_of_ble_eq_true rfl) (by decide) ?_
  refine ex_aload_n ok_X11_voter (mi 6 rfl) rfl ?_
  refine ex_getRx ok_X11_voter (mi 7 rfl) rfl rfl (fk f.1 0 rfl) (fr f.1 84 rfl) (fk f.1 63 rfl) (by decide) ?_
  refine ex_iload_n ok_X11_voter (mi 8 rfl) rfl ?_
  refine ex_aaldx (n := 3) ok_X11_voter (mi 9 rfl) (by decide) (fk f.1 63 rfl) (fn f.1 63 rfl) (pk_in 9 12 (by decide)) (fo f.2.1 21 rfl) (fk f.1 82 rfl) (by decide) ?_
  refine ex_iload_n ok_X11_voter (mi 10 rfl) rfl ?_
  refine ex_callVr (As := [_]) (v := some (.int (-1))) (g1 := h) ok_X11_voter (mi 11 rfl) rfl ?c rfl (fk f.1 82 rfl) rfl rfl (by decide) (by decide) (Nat.le_of_ble_eq_true rfl) (by decide) ?_
  case c =>
    refine ex_M_of ok_X10_tell cw_X10_tell rfl hst (Nat.le_of_ble_eq_true rfl) ?_
    refine ex_iload_n ok_X10_tell (mi 0 rfl) rfl ?_
    refine ex_lookup (tgt := 28) ok_X10_tell (mi 1 rfl) (by decide) (by decide) ?_
    refine ex_aload_n ok_X10_tell (mi 2 rfl) rfl ?_
    refine ex_getIx ok_X10_tell (mi 3 rfl) rfl rfl (fk f.1 82 rfl) (fi f.2.2.1 199 rfl) ?_
    refine ex_iret ok_X10_tell (mi 4 rfl) rfl ?_
    exact ⟨inlI (by decide), rfl⟩
  refine ex_iret ok_X11_voter (mi 12 rfl) rfl ?_
  exact ⟨Or.inl ⟨rfl, inlI (by decide)⟩, kp0⟩
theorem c_voter_9_1 {G : GE} (hst : (ge_l G).stackTraces = false) {x : Nat}  : CC G 3 4 24 my_X11_voter x [.int (nI 9), .int (nI 1)] E3 0 (nI 0) := by
  intro h f
  refine ex_M_of ok_X11_voter cw_X11_voter rfl hst (Nat.le_of_ble_eq_true rfl) ?_
  refine ex_iload_n ok_X11_voter (mi 0 rfl) rfl ?_
  refine ex_bipush ok_X11_voter (mi 1 rfl) ?_
  refine ex_callSr (As := [_, _]) ok_X11_voter (mi 2 rfl) rfl (m_reqOk hst (pk_in 9 12 (by decide)) (by decide) (by decide)) rfl rfl rfl (by decide) (Nat.le_of_ble_eq_true rfl) (by decide) ?_
  refine ex_iload_n ok_X11_voter (mi 3 rfl) rfl ?_
  refine ex_iconst ok_X11_voter (mi 4 rfl) ?_
  refine ex_callSr (As := [_, _]) ok_X11_voter (mi 5 rfl) rfl (m_reqOk hst (pk_in 1 3 (by decide)) (by decide) (by decide)) rfl rfl rfl (by decide) (Nat.le_of_ble_eq_true rfl) (by decide) ?_
  refine ex_aload_n ok_X11_voter (mi 6 rfl) rfl ?_
  refine ex_getRx ok_X11_voter (mi 7 rfl) rfl rfl (fk f.1 0 rfl) (fr f.1 84 rfl) (fk f.1 63 rfl) (by decide) ?_
  refine ex_iload_n ok_X11_voter (mi 8 rfl) rfl ?_
  refine ex_aaldx (n := 3) ok_X11_voter (mi 9 rfl) (by decide) (fk f.1 63 rfl) (fn f.1 63 rfl) (pk_in 9 12 (by decide)) (fo f.2.1 21 rfl) (fk f.1 82 rfl) (by decide) ?_
  refine ex_iload_n ok_X11_voter (mi 10 rfl) rfl ?_
  refine ex_callVr (As := [_]) (v := some (.int (nI 0))) (g1 := h) ok_X11_voter (mi 11 rfl) rfl ?c rfl (fk f.1 82 rfl) rfl rfl (by decide) (by decide) (Nat.le_of_ble_eq_true rfl) (by decide) ?_
  case c =>
    refine ex_M_of ok_X10_tell cw_X10_tell rfl hst (Nat.le_of_ble_eq_true rfl) ?_
    refine ex_iload_n ok_X10_tell (mi 0 rfl) rfl ?_
    refine ex_lookup (tgt := 33) ok_X10_tell (mi 1 rfl) (by decide) (by decide) ?_
    refine ex_aload_n ok_X10_tell (mi 5 rfl) rfl ?_
    refine ex_getIx ok_X10_tell (mi 6 rfl) rfl rfl (fk f.1 82 rfl) (fi f.2.2.1 200 rfl) ?_
    refine ex_iret ok_X10_tell (mi 7 rfl) rfl ?_
    exact ⟨inlI (by decide), rfl⟩
  refine ex_iret ok_X11_voter (mi 12 rfl) rfl ?_
  exact ⟨Or.inl ⟨rfl, inlI (by decide)⟩, kp0⟩
theorem c_voter_9_2 {G : GE} (hst : (ge_l G).stackTraces = false) {x : Nat}  : CC G 3 4 24 my_X11_voter x [.int (nI 9), .int (nI 2)] E3 0 (nI 0) := by
  intro h f
  refine ex_M_of ok_X11_voter cw_X11_voter rfl hst (Nat.le_of_ble_eq_true rfl) ?_
  refine ex_iload_n ok_X11_voter (mi 0 rfl) rfl ?_
  refine ex_bipush ok_X11_voter (mi 1 rfl) ?_
  refine ex_callSr (As := [_, _]) ok_X11_voter (mi 2 rfl) rfl (m_reqOk hst (pk_in 9 12 (by decide)) (by decide) (by decide)) rfl rfl rfl (by decide) (Nat.le_of_ble_eq_true rfl) (by decide) ?_
  refine ex_iload_n ok_X11_voter (mi 3 rfl) rfl ?_
  refine ex_iconst ok_X11_voter (mi 4 rfl) ?_
  refine ex_callSr (As := [_, _]) ok_X11_voter (mi 5 rfl) rfl (m_reqOk hst (pk_in 2 3 (by decide)) (by decide) (by decide)) rfl rfl rfl (by decide) (Nat.le_of_ble_eq_true rfl) (by decide) ?_
  refine ex_aload_n ok_X11_voter (mi 6 rfl) rfl ?_
  refine ex_getRx ok_X11_voter (mi 7 rfl) rfl rfl (fk f.1 0 rfl) (fr f.1 84 rfl) (fk f.1 63 rfl) (by decide) ?_
  refine ex_iload_n ok_X11_voter (mi 8 rfl) rfl ?_
  refine ex_aaldx (n := 3) ok_X11_voter (mi 9 rfl) (by decide) (fk f.1 63 rfl) (fn f.1 63 rfl) (pk_in 9 12 (by decide)) (fo f.2.1 21 rfl) (fk f.1 82 rfl) (by decide) ?_
  refine ex_iload_n ok_X11_voter (mi 10 rfl) rfl ?_
  refine ex_callVr (As := [_]) (v := some (.int (nI 0))) (g1 := h) ok_X11_voter (mi 11 rfl) rfl ?c rfl (fk f.1 82 rfl) rfl rfl (by decide) (by decide) (Nat.le_of_ble_eq_true rfl) (by decide) ?_
  case c =>
    refine ex_M_of ok_X10_tell cw_X10_tell rfl hst (Nat.le_of_ble_eq_true rfl) ?_
    refine ex_iload_n ok_X10_tell (mi 0 rfl) rfl ?_
    refine ex_lookup (tgt := 38) ok_X10_tell (mi 1 rfl) (by decide) (by decide) ?_
    refine ex_aload_n ok_X10_tell (mi 8 rfl) rfl ?_
    refine ex_getRx ok_X10_tell (mi 9 rfl) rfl rfl (fk f.1 82 rfl) (fr f.1 112 rfl) (fk f.1 83 rfl) (by decide) ?_
    refine ex_callSr (As := [_]) ok_X10_tell (mi 10 rfl) rfl (m_votesIn0 hst (sh_sub 887 f.1 (by decide +kernel) (by decide +kernel)) (tA_sub 887 16 ((-1)) f.2.2.2.1 (by decide +kernel))) rfl rfl rfl (by decide) (Nat.le_of_ble_eq_true rfl) (by decide) ?_
    refine ex_iret ok_X10_tell (mi 11 rfl) rfl ?_
    exact ⟨inlI (by decide), rfl⟩
  refine ex_iret ok_X11_voter (mi 12 rfl) rfl ?_
  exact ⟨Or.inl ⟨rfl, inlI (by decide)⟩, kp0⟩
theorem c_vote_9_0 {G : GE} (hst : (ge_l G).stackTraces = false) {x : Nat} {j : Nat} (hj : j < 16) : CC G 2 4 24 my_X11_vote x [.int (nI 9), .int (nI j), .int (nI 0)] E3 0 ((-1)) := by
  intro h f
  refine ex_M_of ok_X11_vote cw_X11_vote rfl hst (Nat.le_of_ble_eq_true rfl) ?_
  refine ex_iload_n ok_X11_vote (mi 0 rfl) rfl ?_
  refine ex_bipush ok_X11_vote (mi 1 rfl) ?_
  refine ex_callSr (As := [_, _]) ok_X11_vote (mi 2 rfl) rfl (m_reqOk hst (pk_in 9 12 (by decide)) (by decide) (by decide)) rfl rfl rfl (by decide) (Nat.le_of_ble_eq_true rfl) (by decide) ?_
  refine ex_iload_n ok_X11_vote (mi 3 rfl) rfl ?_
  refine ex_bipush ok_X11_vote (mi 4 rfl) ?_
  refine ex_callSr (As := [_, _]) ok_X11_vote (mi 5 rfl) rfl (m_reqOk hst (vp_in_nI hj (by decide)) (by decide) (by decide)) rfl rfl rfl (by decide) (Nat.le_of_ble_eq_true rfl) (by decide) ?_
  refine ex_aload_n ok_X11_vote (mi 6 rfl) rfl ?_
  refine ex_getRx ok_X11_vote (mi 7 rfl) rfl rfl (fk f.1 0 rfl) (fr f.1 84 rfl) (fk f.1 63 rfl) (by decide) ?_
  refine ex_iload_n ok_X11_vote (mi 8 rfl) rfl ?_
  refine ex_aaldx (n := 3) ok_X11_vote (mi 9 rfl) (by decide) (fk f.1 63 rfl) (fn f.1 63 rfl) (pk_in 9 12 (by decide)) (fo f.2.1 21 rfl) (fk f.1 82 rfl) (by decide) ?_
  refine ex_getRx ok_X11_vote (mi 10 rfl) rfl rfl (fk f.1 82 rfl) (fr f.1 112 rfl) (fk f.1 83 rfl) (by decide) ?_
  refine ex_iload_n ok_X11_vote (mi 11 rfl) rfl ?_
  refine ex_ialdx ok_X11_vote (mi 12 rfl) (Or.inl (fk f.1 83 rfl)) (fn f.1 83 rfl) (vp_in_nI hj (by decide)) (fa f.2.2.2.1 42 rfl (by rw [nI_clamp (by omega)]; exact hj)) ?_
  refine ex_istore ok_X11_vote (mi 13 rfl) ?_
  refine ex_iload_n ok_X11_vote (mi 14 rfl) rfl ?_
  refine ex_if_eq (tgt := 37) ok_X11_vote (mi 15 rfl) rfl (fun _ => ?_) (fun hn => absurd (by decide) hn)
  refine ex_iload ok_X11_vote (mi 19 rfl) rfl ?_
  refine ex_callSr (As := [_]) (v := some (.int (-1))) (g1 := h) ok_X11_vote (mi 20 rfl) rfl ?c rfl rfl rfl (by decide) (Nat.le_of_ble_eq_true rfl) (by decide) ?_
  case c =>
    refine ex_M_of ok_X10_roundOf cw_X10_roundOf rfl hst (Nat.le_of_ble_eq_true rfl) ?_
    refine ex_iload_n ok_X10_roundOf (mi 0 rfl) rfl ?_
    refine ex_iconst ok_X10_roundOf (mi 1 rfl) ?_
    refine ex_icmp_ne (tgt := 9) ok_X10_roundOf (mi 2 rfl) rfl (fun hn => absurd (by decide) hn) (fun _ => ?_)
    refine ex_iconst ok_X10_roundOf (mi 3 rfl) ?_
    refine ex_goto (tgt := 13) ok_X10_roundOf (mi 4 rfl) rfl ?_
    refine ex_iret ok_X10_roundOf (mi 8 rfl) rfl ?_
    exact ⟨inlI (by decide), rfl⟩
  refine ex_iret ok_X11_vote (mi 21 rfl) rfl ?_
  exact ⟨Or.inl ⟨rfl, inlI (by decide)⟩, kp0⟩
theorem c_vote_9_1 {G : GE} (hst : (ge_l G).stackTraces = false) {x : Nat} {j : Nat} (hj : j < 16) : CC G 2 4 24 my_X11_vote x [.int (nI 9), .int (nI j), .int (nI 1)] E3 0 ((-1)) := by
  intro h f
  refine ex_M_of ok_X11_vote cw_X11_vote rfl hst (Nat.le_of_ble_eq_true rfl) ?_
  refine ex_iload_n ok_X11_vote (mi 0 rfl) rfl ?_
  refine ex_bipush ok_X11_vote (mi 1 rfl) ?_
  refine ex_callSr (As := [_, _]) ok_X11_vote (mi 2 rfl) rfl (m_reqOk hst (pk_in 9 12 (by decide)) (by decide) (by decide)) rfl rfl rfl (by decide) (Nat.le_of_ble_eq_true rfl) (by decide) ?_
  refine ex_iload_n ok_X11_vote (mi 3 rfl) rfl ?_
  refine ex_bipush ok_X11_vote (mi 4 rfl) ?_
  refine ex_callSr (As := [_, _]) ok_X11_vote (mi 5 rfl) rfl (m_reqOk hst (vp_in_nI hj (by decide)) (by decide) (by decide)) rfl rfl rfl (by decide) (Nat.le_of_ble_eq_true rfl) (by decide) ?_
  refine ex_aload_n ok_X11_vote (mi 6 rfl) rfl ?_
  refine ex_getRx ok_X11_vote (mi 7 rfl) rfl rfl (fk f.1 0 rfl) (fr f.1 84 rfl) (fk f.1 63 rfl) (by decide) ?_
  refine ex_iload_n ok_X11_vote (mi 8 rfl) rfl ?_
  refine ex_aaldx (n := 3) ok_X11_vote (mi 9 rfl) (by decide) (fk f.1 63 rfl) (fn f.1 63 rfl) (pk_in 9 12 (by decide)) (fo f.2.1 21 rfl) (fk f.1 82 rfl) (by decide) ?_
  refine ex_getRx ok_X11_vote (mi 10 rfl) rfl rfl (fk f.1 82 rfl) (fr f.1 112 rfl) (fk f.1 83 rfl) (by decide) ?_
  refine ex_iload_n ok_X11_vote (mi 11 rfl) rfl ?_
  refine ex_ialdx ok_X11_vote (mi 12 rfl) (Or.inl (fk f.1 83 rfl)) (fn f.1 83 rfl) (vp_in_nI hj (by decide)) (fa f.2.2.2.1 42 rfl (by rw [nI_clamp (by omega)]; exact hj)) ?_
  refine ex_istore ok_X11_vote (mi 13 rfl) ?_
  refine ex_iload_n ok_X11_vote (mi 14 rfl) rfl ?_
  refine ex_if_eq (tgt := 37) ok_X11_vote (mi 15 rfl) rfl (fun hn => absurd hn (by decide)) (fun _ => ?_)
  refine ex_iload ok_X11_vote (mi 16 rfl) rfl ?_
  refine ex_callSr (As := [_]) (v := some (.int (-1))) (g1 := h) ok_X11_vote (mi 17 rfl) rfl ?c rfl rfl rfl (by decide) (Nat.le_of_ble_eq_true rfl) (by decide) ?_
  case c =>
    refine ex_M_of ok_X10_valueOf cw_X10_valueOf rfl hst (Nat.le_of_ble_eq_true rfl) ?_
    refine ex_iload_n ok_X10_valueOf (mi 0 rfl) rfl ?_
    refine ex_iconst ok_X10_valueOf (mi 1 rfl) ?_
    refine ex_icmp_ne (tgt := 9) ok_X10_valueOf (mi 2 rfl) rfl (fun hn => absurd (by decide) hn) (fun _ => ?_)
    refine ex_iconst ok_X10_valueOf (mi 3 rfl) ?_
    refine ex_goto (tgt := 13) ok_X10_valueOf (mi 4 rfl) rfl ?_
    refine ex_iret ok_X10_valueOf (mi 8 rfl) rfl ?_
    exact ⟨inlI (by decide), rfl⟩
  refine ex_goto (tgt := 42) ok_X11_vote (mi 18 rfl) rfl ?_
  refine ex_iret ok_X11_vote (mi 21 rfl) rfl ?_
  exact ⟨Or.inl ⟨rfl, inlI (by decide)⟩, kp0⟩
theorem c_voter_10_0 {G : GE} (hst : (ge_l G).stackTraces = false) {x : Nat}  : CC G 3 4 24 my_X11_voter x [.int (nI 10), .int (nI 0)] E3 0 ((-1)) := by
  intro h f
  refine ex_M_of ok_X11_voter cw_X11_voter rfl hst (Nat.le_of_ble_eq_true rfl) ?_
  refine ex_iload_n ok_X11_voter (mi 0 rfl) rfl ?_
  refine ex_bipush ok_X11_voter (mi 1 rfl) ?_
  refine ex_callSr (As := [_, _]) ok_X11_voter (mi 2 rfl) rfl (m_reqOk hst (pk_in 10 12 (by decide)) (by decide) (by decide)) rfl rfl rfl (by decide) (Nat.le_of_ble_eq_true rfl) (by decide) ?_
  refine ex_iload_n ok_X11_voter (mi 3 rfl) rfl ?_
  refine ex_iconst ok_X11_voter (mi 4 rfl) ?_
  refine ex_callSr (As := [_, _]) ok_X11_voter (mi 5 rfl) rfl (m_reqOk hst (pk_in 0 3 (by decide)) (by decide) (by decide)) rfl rfl rfl (by decide) (Nat.le_of_ble_eq_true rfl) (by decide) ?_
  refine ex_aload_n ok_X11_voter (mi 6 rfl) rfl ?_
  refine ex_getRx ok_X11_voter (mi 7 rfl) rfl rfl (fk f.1 0 rfl) (fr f.1 84 rfl) (fk f.1 63 rfl) (by decide) ?_
  refine ex_iload_n ok_X11_voter (mi 8 rfl) rfl ?_
  refine ex_aaldx (n := 3) ok_X11_voter (mi 9 rfl) (by decide) (fk f.1 63 rfl) (fn f.1 63 rfl) (pk_in 10 12 (by decide)) (fo f.2.1 22 rfl) (fk f.1 84 rfl) (by decide) ?_
  refine ex_iload_n ok_X11_voter (mi 10 rfl) rfl ?_
  refine ex_callVr (As := [_]) (v := some (.int (-1))) (g1 := h) ok_X11_voter (mi 11 rfl) rfl ?c rfl (fk f.1 84 rfl) rfl rfl (by decide) (by decide) (Nat.le_of_ble_eq_true rfl) (by decide) ?_
  case c =>
    refine ex_M_of ok_X10_tell cw_X10_tell rfl hst (Nat.le_of_ble_eq_true rfl) ?_
    refine ex_iload_n ok_X10_tell (mi 0 rfl) rfl ?_
    refine ex_lookup (tgt := 28) ok_X10_tell (mi 1 rfl) (by decide) (by decide) ?_
    refine ex_aload_n ok_X10_tell (mi 2 rfl) rfl ?_
    refine ex_getIx ok_X10_tell (mi 3 rfl) rfl rfl (fk f.1 84 rfl) (fi f.2.2.1 201 rfl) ?_
    refine ex_iret ok_X10_tell (mi 4 rfl) rfl ?_
    exact ⟨inlI (by decide), rfl⟩
  refine ex_iret ok_X11_voter (mi 12 rfl) rfl ?_
  exact ⟨Or.inl ⟨rfl, inlI (by decide)⟩, kp0⟩
theorem c_voter_10_1 {G : GE} (hst : (ge_l G).stackTraces = false) {x : Nat}  : CC G 3 4 24 my_X11_voter x [.int (nI 10), .int (nI 1)] E3 0 (nI 0) := by
  intro h f
  refine ex_M_of ok_X11_voter cw_X11_voter rfl hst (Nat.le_of_ble_eq_true rfl) ?_
  refine ex_iload_n ok_X11_voter (mi 0 rfl) rfl ?_
  refine ex_bipush ok_X11_voter (mi 1 rfl) ?_
  refine ex_callSr (As := [_, _]) ok_X11_voter (mi 2 rfl) rfl (m_reqOk hst (pk_in 10 12 (by decide)) (by decide) (by decide)) rfl rfl rfl (by decide) (Nat.le_of_ble_eq_true rfl) (by decide) ?_
  refine ex_iload_n ok_X11_voter (mi 3 rfl) rfl ?_
  refine ex_iconst ok_X11_voter (mi 4 rfl) ?_
  refine ex_callSr (As := [_, _]) ok_X11_voter (mi 5 rfl) rfl (m_reqOk hst (pk_in 1 3 (by decide)) (by decide) (by decide)) rfl rfl rfl (by decide) (Nat.le_of_ble_eq_true rfl) (by decide) ?_
  refine ex_aload_n ok_X11_voter (mi 6 rfl) rfl ?_
  refine ex_getRx ok_X11_voter (mi 7 rfl) rfl rfl (fk f.1 0 rfl) (fr f.1 84 rfl) (fk f.1 63 rfl) (by decide) ?_
  refine ex_iload_n ok_X11_voter (mi 8 rfl) rfl ?_
  refine ex_aaldx (n := 3) ok_X11_voter (mi 9 rfl) (by decide) (fk f.1 63 rfl) (fn f.1 63 rfl) (pk_in 10 12 (by decide)) (fo f.2.1 22 rfl) (fk f.1 84 rfl) (by decide) ?_
  refine ex_iload_n ok_X11_voter (mi 10 rfl) rfl ?_
  refine ex_callVr (As := [_]) (v := some (.int (nI 0))) (g1 := h) ok_X11_voter (mi 11 rfl) rfl ?c rfl (fk f.1 84 rfl) rfl rfl (by decide) (by decide) (Nat.le_of_ble_eq_true rfl) (by decide) ?_
  case c =>
    refine ex_M_of ok_X10_tell cw_X10_tell rfl hst (Nat.le_of_ble_eq_true rfl) ?_
    refine ex_iload_n ok_X10_tell (mi 0 rfl) rfl ?_
    refine ex_lookup (tgt := 33) ok_X10_tell (mi 1 rfl) (by decide) (by decide) ?_
    refine ex_aload_n ok_X10_tell (mi 5 rfl) rfl ?_
    refine ex_getIx ok_X10_tell (mi 6 rfl) rfl rfl (fk f.1 84 rfl) (fi f.2.2.1 202 rfl) ?_
    refine ex_iret ok_X10_tell (mi 7 rfl) rfl ?_
    exact ⟨inlI (by decide), rfl⟩
  refine ex_iret ok_X11_voter (mi 12 rfl) rfl ?_
  exact ⟨Or.inl ⟨rfl, inlI (by decide)⟩, kp0⟩
theorem c_voter_10_2 {G : GE} (hst : (ge_l G).stackTraces = false) {x : Nat}  : CC G 3 4 24 my_X11_voter x [.int (nI 10), .int (nI 2)] E3 0 (nI 0) := by
  intro h f
  refine ex_M_of ok_X11_voter cw_X11_voter rfl hst (Nat.le_of_ble_eq_true rfl) ?_
  refine ex_iload_n ok_X11_voter (mi 0 rfl) rfl ?_
  refine ex_bipush ok_X11_voter (mi 1 rfl) ?_
  refine ex_callSr (As := [_, _]) ok_X11_voter (mi 2 rfl) rfl (m_reqOk hst (pk_in 10 12 (by decide)) (by decide) (by decide)) rfl rfl rfl (by decide) (Nat.le_of_ble_eq_true rfl) (by decide) ?_
  refine ex_iload_n ok_X11_voter (mi 3 rfl) rfl ?_
  refine ex_iconst ok_X11_voter (mi 4 rfl) ?_
  refine ex_callSr (As := [_, _]) ok_X11_voter (mi 5 rfl) rfl (m_reqOk hst (pk_in 2 3 (by decide)) (by decide) (by decide)) rfl rfl rfl (by decide) (Nat.le_of_ble_eq_true rfl) (by decide) ?_
  refine ex_aload_n ok_X11_voter (mi 6 rfl) rfl ?_
  refine ex_getRx ok_X11_voter (mi 7 rfl) rfl rfl (fk f.1 0 rfl) (fr f.1 84 rfl) (fk f.1 63 rfl) (by decide) ?_
  refine ex_iload_n ok_X11_voter (mi 8 rfl) rfl ?_
  refine ex_aaldx (n := 3) ok_X11_voter (mi 9 rfl) (by decide) (fk f.1 63 rfl) (fn f.1 63 rfl) (pk_in 10 12 (by decide)) (fo f.2.1 22 rfl) (fk f.1 84 rfl) (by decide) ?_
  refine ex_iload_n ok_X11_voter (mi 10 rfl) rfl ?_
  refine ex_callVr (As := [_]) (v := some (.int (nI 0))) (g1 := h) ok_X11_voter (mi 11 rfl) rfl ?c rfl (fk f.1 84 rfl) rfl rfl (by decide) (by decide) (Nat.le_of_ble_eq_true rfl) (by decide) ?_
  case c =>
    refine ex_M_of ok_X10_tell cw_X10_tell rfl hst (Nat.le_of_ble_eq_true rfl) ?_
    refine ex_iload_n ok_X10_tell (mi 0 rfl) rfl ?_
    refine ex_lookup (tgt := 38) ok_X10_tell (mi 1 rfl) (by decide) (by decide) ?_
    refine ex_aload_n ok_X10_tell (mi 8 rfl) rfl ?_
    refine ex_getRx ok_X10_tell (mi 9 rfl) rfl rfl (fk f.1 84 rfl) (fr f.1 115 rfl) (fk f.1 85 rfl) (by decide) ?_
    refine ex_callSr (As := [_]) ok_X10_tell (mi 10 rfl) rfl (m_votesIn0 hst (sh_sub 889 f.1 (by decide +kernel) (by decide +kernel)) (tA_sub 889 16 ((-1)) f.2.2.2.1 (by decide +kernel))) rfl rfl rfl (by decide) (Nat.le_of_ble_eq_true rfl) (by decide) ?_
    refine ex_iret ok_X10_tell (mi 11 rfl) rfl ?_
    exact ⟨inlI (by decide), rfl⟩
  refine ex_iret ok_X11_voter (mi 12 rfl) rfl ?_
  exact ⟨Or.inl ⟨rfl, inlI (by decide)⟩, kp0⟩
theorem c_vote_10_0 {G : GE} (hst : (ge_l G).stackTraces = false) {x : Nat} {j : Nat} (hj : j < 16) : CC G 2 4 24 my_X11_vote x [.int (nI 10), .int (nI j), .int (nI 0)] E3 0 ((-1)) := by
  intro h f
  refine ex_M_of ok_X11_vote cw_X11_vote rfl hst (Nat.le_of_ble_eq_true rfl) ?_
  refine ex_iload_n ok_X11_vote (mi 0 rfl) rfl ?_
  refine ex_bipush ok_X11_vote (mi 1 rfl) ?_
  refine ex_callSr (As := [_, _]) ok_X11_vote (mi 2 rfl) rfl (m_reqOk hst (pk_in 10 12 (by decide)) (by decide) (by decide)) rfl rfl rfl (by decide) (Nat.le_of_ble_eq_true rfl) (by decide) ?_
  refine ex_iload_n ok_X11_vote (mi 3 rfl) rfl ?_
  refine ex_bipush ok_X11_vote (mi 4 rfl) ?_
  refine ex_callSr (As := [_, _]) ok_X11_vote (mi 5 rfl) rfl (m_reqOk hst (vp_in_nI hj (by decide)) (by decide) (by decide)) rfl rfl rfl (by decide) (Nat.le_of_ble_eq_true rfl) (by decide) ?_
  refine ex_aload_n ok_X11_vote (mi 6 rfl) rfl ?_
  refine ex_getRx ok_X11_vote (mi 7 rfl) rfl rfl (fk f.1 0 rfl) (fr f.1 84 rfl) (fk f.1 63 rfl) (by decide) ?_
  refine ex_iload_n ok_X11_vote (mi 8 rfl) rfl ?_
  refine ex_aaldx (n := 3) ok_X11_vote (mi 9 rfl) (by decide) (fk f.1 63 rfl) (fn f.1 63 rfl) (pk_in 10 12 (by decide)) (fo f.2.1 22 rfl) (fk f.1 84 rfl) (by decide) ?_
  refine ex_getRx ok_X11_vote (mi 10 rfl) rfl rfl (fk f.1 84 rfl) (fr f.1 115 rfl) (fk f.1 85 rfl) (by decide) ?_
  refine ex_iload_n ok_X11_vote (mi 11 rfl) rfl ?_
  refine ex_ialdx ok_X11_vote (mi 12 rfl) (Or.inl (fk f.1 85 rfl)) (fn f.1 85 rfl) (vp_in_nI hj (by decide)) (fa f.2.2.2.1 43 rfl (by rw [nI_clamp (by omega)]; exact hj)) ?_
  refine ex_istore ok_X11_vote (mi 13 rfl) ?_
  refine ex_iload_n ok_X11_vote (mi 14 rfl) rfl ?_
  refine ex_if_eq (tgt := 37) ok_X11_vote (mi 15 rfl) rfl (fun _ => ?_) (fun hn => absurd (by decide) hn)
  refine ex_iload ok_X11_vote (mi 19 rfl) rfl ?_
  refine ex_callSr (As := [_]) (v := some (.int (-1))) (g1 := h) ok_X11_vote (mi 20 rfl) rfl ?c rfl rfl rfl (by decide) (Nat.le_of_ble_eq_true rfl) (by decide) ?_
  case c =>
    refine ex_M_of ok_X10_roundOf cw_X10_roundOf rfl hst (Nat.le_of_ble_eq_true rfl) ?_
    refine ex_iload_n ok_X10_roundOf (mi 0 rfl) rfl ?_
    refine ex_iconst ok_X10_roundOf (mi 1 rfl) ?_
    refine ex_icmp_ne (tgt := 9) ok_X10_roundOf (mi 2 rfl) rfl (fun hn => absurd (by decide) hn) (fun _ => ?_)
    refine ex_iconst ok_X10_roundOf (mi 3 rfl) ?_
    refine ex_goto (tgt := 13) ok_X10_roundOf (mi 4 rfl) rfl ?_
    refine ex_iret ok_X10_roundOf (mi 8 rfl) rfl ?_
    exact ⟨inlI (by decide), rfl⟩
  refine ex_iret ok_X11_vote (mi 21 rfl) rfl ?_
  exact ⟨Or.inl ⟨rfl, inlI (by decide)⟩, kp0⟩
theorem c_vote_10_1 {G : GE} (hst : (ge_l G).stackTraces = false) {x : Nat} {j : Nat} (hj : j < 16) : CC G 2 4 24 my_X11_vote x [.int (nI 10), .int (nI j), .int (nI 1)] E3 0 ((-1)) := by
  intro h f
  refine ex_M_of ok_X11_vote cw_X11_vote rfl hst (Nat.le_of_ble_eq_true rfl) ?_
  refine ex_iload_n ok_X11_vote (mi 0 rfl) rfl ?_
  refine ex_bipush ok_X11_vote (mi 1 rfl) ?_
  refine ex_callSr (As := [_, _]) ok_X11_vote (mi 2 rfl) rfl (m_reqOk hst (pk_in 10 12 (by decide)) (by decide) (by decide)) rfl rfl rfl (by decide) (Nat.le_of_ble_eq_true rfl) (by decide) ?_
  refine ex_iload_n ok_X11_vote (mi 3 rfl) rfl ?_
  refine ex_bipush ok_X11_vote (mi 4 rfl) ?_
  refine ex_callSr (As := [_, _]) ok_X11_vote (mi 5 rfl) rfl (m_reqOk hst (vp_in_nI hj (by decide)) (by decide) (by decide)) rfl rfl rfl (by decide) (Nat.le_of_ble_eq_true rfl) (by decide) ?_
  refine ex_aload_n ok_X11_vote (mi 6 rfl) rfl ?_
  refine ex_getRx ok_X11_vote (mi 7 rfl) rfl rfl (fk f.1 0 rfl) (fr f.1 84 rfl) (fk f.1 63 rfl) (by decide) ?_
  refine ex_iload_n ok_X11_vote (mi 8 rfl) rfl ?_
  refine ex_aaldx (n := 3) ok_X11_vote (mi 9 rfl) (by decide) (fk f.1 63 rfl) (fn f.1 63 rfl) (pk_in 10 12 (by decide)) (fo f.2.1 22 rfl) (fk f.1 84 rfl) (by decide) ?_
  refine ex_getRx ok_X11_vote (mi 10 rfl) rfl rfl (fk f.1 84 rfl) (fr f.1 115 rfl) (fk f.1 85 rfl) (by decide) ?_
  refine ex_iload_n ok_X11_vote (mi 11 rfl) rfl ?_
  refine ex_ialdx ok_X11_vote (mi 12 rfl) (Or.inl (fk f.1 85 rfl)) (fn f.1 85 rfl) (vp_in_nI hj (by decide)) (fa f.2.2.2.1 43 rfl (by rw [nI_clamp (by omega)]; exact hj)) ?_
  refine ex_istore ok_X11_vote (mi 13 rfl) ?_
  refine ex_iload_n ok_X11_vote (mi 14 rfl) rfl ?_
  refine ex_if_eq (tgt := 37) ok_X11_vote (mi 15 rfl) rfl (fun hn => absurd hn (by decide)) (fun _ => ?_)
  refine ex_iload ok_X11_vote (mi 16 rfl) rfl ?_
  refine ex_callSr (As := [_]) (v := some (.int (-1))) (g1 := h) ok_X11_vote (mi 17 rfl) rfl ?c rfl rfl rfl (by decide) (Nat.le_of_ble_eq_true rfl) (by decide) ?_
  case c =>
    refine ex_M_of ok_X10_valueOf cw_X10_valueOf rfl hst (Nat.le_of_ble_eq_true rfl) ?_
    refine ex_iload_n ok_X10_valueOf (mi 0 rfl) rfl ?_
    refine ex_iconst ok_X10_valueOf (mi 1 rfl) ?_
    refine ex_icmp_ne (tgt := 9) ok_X10_valueOf (mi 2 rfl) rfl (fun hn => absurd (by decide) hn) (fun _ => ?_)
    refine ex_iconst ok_X10_valueOf (mi 3 rfl) ?_
    refine ex_goto (tgt := 13) ok_X10_valueOf (mi 4 rfl) rfl ?_
    refine ex_iret ok_X10_valueOf (mi 8 rfl) rfl ?_
    exact ⟨inlI (by decide), rfl⟩
  refine ex_goto (tgt := 42) ok_X11_vote (mi 18 rfl) rfl ?_
  refine ex_iret ok_X11_vote (mi 21 rfl) rfl ?_
  exact ⟨Or.inl ⟨rfl, inlI (by decide)⟩, kp0⟩
theorem c_voter_11_0 {G : GE} (hst : (ge_l G).stackTraces = false) {x : Nat}  : CC G 3 4 24 my_X11_voter x [.int (nI 11), .int (nI 0)] E3 0 ((-1)) := by
  intro h f
  refine ex_M_of ok_X11_voter cw_X11_voter rfl hst (Nat.le_of_ble_eq_true rfl) ?_
  refine ex_iload_n ok_X11_voter (mi 0 rfl) rfl ?_
  refine ex_bipush ok_X11_voter (mi 1 rfl) ?_
  refine ex_callSr (As := [_, _]) ok_X11_voter (mi 2 rfl) rfl (m_reqOk hst (pk_in 11 12 (by decide)) (by decide) (by decide)) rfl rfl rfl (by decide) (Nat.le_of_ble_eq_true rfl) (by decide) ?_
  refine ex_iload_n ok_X11_voter (mi 3 rfl) rfl ?_
  refine ex_iconst ok_X11_voter (mi 4 rfl) ?_
  refine ex_callSr (As := [_, _]) ok_X11_voter (mi 5 rfl) rfl (m_reqOk hst (pk_in 0 3 (by decide)) (by decide) (by decide)) rfl rfl rfl (by decide) (Nat.le_of_ble_eq_true rfl) (by decide) ?_
  refine ex_aload_n ok_X11_voter (mi 6 rfl) rfl ?_
  refine ex_getRx ok_X11_voter (mi 7 rfl) rfl rfl (fk f.1 0 rfl) (fr f.1 84 rfl) (fk f.1 63 rfl) (by decide) ?_
  refine ex_iload_n ok_X11_voter (mi 8 rfl) rfl ?_
  refine ex_aaldx (n := 3) ok_X11_voter (mi 9 rfl) (by decide) (fk f.1 63 rfl) (fn f.1 63 rfl) (pk_in 11 12 (by decide)) (fo f.2.1 23 rfl) (fk f.1 86 rfl) (by decide) ?_
  refine ex_iload_n ok_X11_voter (mi 10 rfl) rfl ?_
  refine ex_callVr (As := [_]) (v := some (.int (-1))) (g1 := h) ok_X11_voter (mi 11 rfl) rfl ?c rfl (fk f.1 86 rfl) rfl rfl (by decide) (by decide) (Nat.le_of_ble_eq_true rfl) (by decide) ?_
  case c =>
    refine ex_M_of ok_X10_tell cw_X10_tell rfl hst (Nat.le_of_ble_eq_true rfl) ?_
    refine ex_iload_n ok_X10_tell (mi 0 rfl) rfl ?_
    refine ex_lookup (tgt := 28) ok_X10_tell (mi 1 rfl) (by decide) (by decide) ?_
    refine ex_aload_n ok_X10_tell (mi 2 rfl) rfl ?_
    refine ex_getIx ok_X10_tell (mi 3 rfl) rfl rfl (fk f.1 86 rfl) (fi f.2.2.1 203 rfl) ?_
    refine ex_iret ok_X10_tell (mi 4 rfl) rfl ?_
    exact ⟨inlI (by decide), rfl⟩
  refine ex_iret ok_X11_voter (mi 12 rfl) rfl ?_
  exact ⟨Or.inl ⟨rfl, inlI (by decide)⟩, kp0⟩
theorem c_voter_11_1 {G : GE} (hst : (ge_l G).stackTraces = false) {x : Nat}  : CC G 3 4 24 my_X11_voter x [.int (nI 11), .int (nI 1)] E3 0 (nI 0) := by
  intro h f
  refine ex_M_of ok_X11_voter cw_X11_voter rfl hst (Nat.le_of_ble_eq_true rfl) ?_
  refine ex_iload_n ok_X11_voter (mi 0 rfl) rfl ?_
  refine ex_bipush ok_X11_voter (mi 1 rfl) ?_
  refine ex_callSr (As := [_, _]) ok_X11_voter (mi 2 rfl) rfl (m_reqOk hst (pk_in 11 12 (by decide)) (by decide) (by decide)) rfl rfl rfl (by decide) (Nat.le_of_ble_eq_true rfl) (by decide) ?_
  refine ex_iload_n ok_X11_voter (mi 3 rfl) rfl ?_
  refine ex_iconst ok_X11_voter (mi 4 rfl) ?_
  refine ex_callSr (As := [_, _]) ok_X11_voter (mi 5 rfl) rfl (m_reqOk hst (pk_in 1 3 (by decide)) (by decide) (by decide)) rfl rfl rfl (by decide) (Nat.le_of_ble_eq_true rfl) (by decide) ?_
  refine ex_aload_n ok_X11_voter (mi 6 rfl) rfl ?_
  refine ex_getRx ok_X11_voter (mi 7 rfl) rfl rfl (fk f.1 0 rfl) (fr f.1 84 rfl) (fk f.1 63 rfl) (by decide) ?_
  refine ex_iload_n ok_X11_voter (mi 8 rfl) rfl ?_
  refine ex_aaldx (n := 3) ok_X11_voter (mi 9 rfl) (by decide) (fk f.1 63 rfl) (fn f.1 63 rfl) (pk_in 11 12 (by decide)) (fo f.2.1 23 rfl) (fk f.1 86 rfl) (by decide) ?_
  refine ex_iload_n ok_X11_voter (mi 10 rfl) rfl ?_
  refine ex_callVr (As := [_]) (v := some (.int (nI 0))) (g1 := h) ok_X11_voter (mi 11 rfl) rfl ?c rfl (fk f.1 86 rfl) rfl rfl (by decide) (by decide) (Nat.le_of_ble_eq_true rfl) (by decide) ?_
  case c =>
    refine ex_M_of ok_X10_tell cw_X10_tell rfl hst (Nat.le_of_ble_eq_true rfl) ?_
    refine ex_iload_n ok_X10_tell (mi 0 rfl) rfl ?_
    refine ex_lookup (tgt := 33) ok_X10_tell (mi 1 rfl) (by decide) (by decide) ?_
    refine ex_aload_n ok_X10_tell (mi 5 rfl) rfl ?_
    refine ex_getIx ok_X10_tell (mi 6 rfl) rfl rfl (fk f.1 86 rfl) (fi f.2.2.1 204 rfl) ?_
    refine ex_iret ok_X10_tell (mi 7 rfl) rfl ?_
    exact ⟨inlI (by decide), rfl⟩
  refine ex_iret ok_X11_voter (mi 12 rfl) rfl ?_
  exact ⟨Or.inl ⟨rfl, inlI (by decide)⟩, kp0⟩
theorem c_voter_11_2 {G : GE} (hst : (ge_l G).stackTraces = false) {x : Nat}  : CC G 3 4 24 my_X11_voter x [.int (nI 11), .int (nI 2)] E3 0 (nI 0) := by
  intro h f
  refine ex_M_of ok_X11_voter cw_X11_voter rfl hst (Nat.le_of_ble_eq_true rfl) ?_
  refine ex_iload_n ok_X11_voter (mi 0 rfl) rfl ?_
  refine ex_bipush ok_X11_voter (mi 1 rfl) ?_
  refine ex_callSr (As := [_, _]) ok_X11_voter (mi 2 rfl) rfl (m_reqOk hst (pk_in 11 12 (by decide)) (by decide) (by decide)) rfl rfl rfl (by decide) (Nat.le_of_ble_eq_true rfl) (by decide) ?_
  refine ex_iload_n ok_X11_voter (mi 3 rfl) rfl ?_
  refine ex_iconst ok_X11_voter (mi 4 rfl) ?_
  refine ex_callSr (As := [_, _]) ok_X11_voter (mi 5 rfl) rfl (m_reqOk hst (pk_in 2 3 (by decide)) (by decide) (by decide)) rfl rfl rfl (by decide) (Nat.le_of_ble_eq_true rfl) (by decide) ?_
  refine ex_aload_n ok_X11_voter (mi 6 rfl) rfl ?_
  refine ex_getRx ok_X11_voter (mi 7 rfl) rfl rfl (fk f.1 0 rfl) (fr f.1 84 rfl) (fk f.1 63 rfl) (by decide) ?_
  refine ex_iload_n ok_X11_voter (mi 8 rfl) rfl ?_
  refine ex_aaldx (n := 3) ok_X11_voter (mi 9 rfl) (by decide) (fk f.1 63 rfl) (fn f.1 63 rfl) (pk_in 11 12 (by decide)) (fo f.2.1 23 rfl) (fk f.1 86 rfl) (by decide) ?_
  refine ex_iload_n ok_X11_voter (mi 10 rfl) rfl ?_
  refine ex_callVr (As := [_]) (v := some (.int (nI 0))) (g1 := h) ok_X11_voter (mi 11 rfl) rfl ?c rfl (fk f.1 86 rfl) rfl rfl (by decide) (by decide) (Nat.le_of_ble_eq_true rfl) (by decide) ?_
  case c =>
    refine ex_M_of ok_X10_tell cw_X10_tell rfl hst (Nat.le_of_ble_eq_true rfl) ?_
    refine ex_iload_n ok_X10_tell (mi 0 rfl) rfl ?_
    refine ex_lookup (tgt := 38) ok_X10_tell (mi 1 rfl) (by decide) (by decide) ?_
    refine ex_aload_n ok_X10_tell (mi 8 rfl) rfl ?_
    refine ex_getRx ok_X10_tell (mi 9 rfl) rfl rfl (fk f.1 86 rfl) (fr f.1 118 rfl) (fk f.1 87 rfl) (by decide) ?_
    refine ex_callSr (As := [_]) ok_X10_tell (mi 10 rfl) rfl (m_votesIn0 hst (sh_sub 891 f.1 (by decide +kernel) (by decide +kernel)) (tA_sub 891 16 ((-1)) f.2.2.2.1 (by decide +kernel))) rfl rfl rfl (by decide) (Nat.le_of_ble_eq_true rfl) (by decide) ?_
    refine ex_iret ok_X10_tell (mi 11 rfl) rfl ?_
    exact ⟨inlI (by decide), rfl⟩
  refine ex_iret ok_X11_voter (mi 12 rfl) rfl ?_
  exact ⟨Or.inl ⟨rfl, inlI (by decide)⟩, kp0⟩
theorem c_vote_11_0 {G : GE} (hst : (ge_l G).stackTraces = false) {x : Nat} {j : Nat} (hj : j < 16) : CC G 2 4 24 my_X11_vote x [.int (nI 11), .int (nI j), .int (nI 0)] E3 0 ((-1)) := by
  intro h f
  refine ex_M_of ok_X11_vote cw_X11_vote rfl hst (Nat.le_of_ble_eq_true rfl) ?_
  refine ex_iload_n ok_X11_vote (mi 0 rfl) rfl ?_
  refine ex_bipush ok_X11_vote (mi 1 rfl) ?_
  refine ex_callSr (As := [_, _]) ok_X11_vote (mi 2 rfl) rfl (m_reqOk hst (pk_in 11 12 (by decide)) (by decide) (by decide)) rfl rfl rfl (by decide) (Nat.le_of_ble_eq_true rfl) (by decide) ?_
  refine ex_iload_n ok_X11_vote (mi 3 rfl) rfl ?_
  refine ex_bipush ok_X11_vote (mi 4 rfl) ?_
  refine ex_callSr (As := [_, _]) ok_X11_vote (mi 5 rfl) rfl (m_reqOk hst (vp_in_nI hj (by decide)) (by decide) (by decide)) rfl rfl rfl (by decide) (Nat.le_of_ble_eq_true rfl) (by decide) ?_
  refine ex_aload_n ok_X11_vote (mi 6 rfl) rfl ?_
  refine ex_getRx ok_X11_vote (mi 7 rfl) rfl rfl (fk f.1 0 rfl) (fr f.1 84 rfl) (fk f.1 63 rfl) (by decide) ?_
  refine ex_iload_n ok_X11_vote (mi 8 rfl) rfl ?_
  refine ex_aaldx (n := 3) ok_X11_vote (mi 9 rfl) (by decide) (fk f.1 63 rfl) (fn f.1 63 rfl) (pk_in 11 12 (by decide)) (fo f.2.1 23 rfl) (fk f.1 86 rfl) (by decide) ?_
  refine ex_getRx ok_X11_vote (mi 10 rfl) rfl rfl (fk f.1 86 rfl) (fr f.1 118 rfl) (fk f.1 87 rfl) (by decide) ?_
  refine ex_iload_n ok_X11_vote (mi 11 rfl) rfl ?_
  refine ex_ialdx ok_X11_vote (mi 12 rfl) (Or.inl (fk f.1 87 rfl)) (fn f.1 87 rfl) (vp_in_nI hj (by decide)) (fa f.2.2.2.1 44 rfl (by rw [nI_clamp (by omega)]; exact hj)) ?_
  refine ex_istore ok_X11_vote (mi 13 rfl) ?_
  refine ex_iload_n ok_X11_vote (mi 14 rfl) rfl ?_
  refine ex_if_eq (tgt := 37) ok_X11_vote (mi 15 rfl) rfl (fun _ => ?_) (fun hn => absurd (by decide) hn)
  refine ex_iload ok_X11_vote (mi 19 rfl) rfl ?_
  refine ex_callSr (As := [_]) (v := some (.int (-1))) (g1 := h) ok_X11_vote (mi 20 rfl) rfl ?c rfl rfl rfl (by decide) (Nat.le_of_ble_eq_true rfl) (by decide) ?_
  case c =>
    refine ex_M_of ok_X10_roundOf cw_X10_roundOf rfl hst (Nat.le_of_ble_eq_true rfl) ?_
    refine ex_iload_n ok_X10_roundOf (mi 0 rfl) rfl ?_
    refine ex_iconst ok_X10_roundOf (mi 1 rfl) ?_
    refine ex_icmp_ne (tgt := 9) ok_X10_roundOf (mi 2 rfl) rfl (fun hn => absurd (by decide) hn) (fun _ => ?_)
    refine ex_iconst ok_X10_roundOf (mi 3 rfl) ?_
    refine ex_goto (tgt := 13) ok_X10_roundOf (mi 4 rfl) rfl ?_
    refine ex_iret ok_X10_roundOf (mi 8 rfl) rfl ?_
    exact ⟨inlI (by decide), rfl⟩
  refine ex_iret ok_X11_vote (mi 21 rfl) rfl ?_
  exact ⟨Or.inl ⟨rfl, inlI (by decide)⟩, kp0⟩
theorem c_vote_11_1 {G : GE} (hst : (ge_l G).stackTraces = false) {x : Nat} {j : Nat} (hj : j < 16) : CC G 2 4 24 my_X11_vote x [.int (nI 11), .int (nI j), .int (nI 1)] E3 0 ((-1)) := by
  intro h f
  refine ex_M_of ok_X11_vote cw_X11_vote rfl hst (Nat.le_of_ble_eq_true rfl) ?_
  refine ex_iload_n ok_X11_vote (mi 0 rfl) rfl ?_
  refine ex_bipush ok_X11_vote (mi 1 rfl) ?_
  refine ex_callSr (As := [_, _]) ok_X11_vote (mi 2 rfl) rfl (m_reqOk hst (pk_in 11 12 (by decide)) (by decide) (by decide)) rfl rfl rfl (by decide) (Nat.le_of_ble_eq_true rfl) (by decide) ?_
  refine ex_iload_n ok_X11_vote (mi 3 rfl) rfl ?_
  refine ex_bipush ok_X11_vote (mi 4 rfl) ?_
  refine ex_callSr (As := [_, _]) ok_X11_vote (mi 5 rfl) rfl (m_reqOk hst (vp_in_nI hj (by decide)) (by decide) (by decide)) rfl rfl rfl (by decide) (Nat.le_of_ble_eq_true rfl) (by decide) ?_
  refine ex_aload_n ok_X11_vote (mi 6 rfl) rfl ?_
  refine ex_getRx ok_X11_vote (mi 7 rfl) rfl rfl (fk f.1 0 rfl) (fr f.1 84 rfl) (fk f.1 63 rfl) (by decide) ?_
  refine ex_iload_n ok_X11_vote (mi 8 rfl) rfl ?_
  refine ex_aaldx (n := 3) ok_X11_vote (mi 9 rfl) (by decide) (fk f.1 63 rfl) (fn f.1 63 rfl) (pk_in 11 12 (by decide)) (fo f.2.1 23 rfl) (fk f.1 86 rfl) (by decide) ?_
  refine ex_getRx ok_X11_vote (mi 10 rfl) rfl rfl (fk f.1 86 rfl) (fr f.1 118 rfl) (fk f.1 87 rfl) (by decide) ?_
  refine ex_iload_n ok_X11_vote (mi 11 rfl) rfl ?_
  refine ex_ialdx ok_X11_vote (mi 12 rfl) (Or.inl (fk f.1 87 rfl)) (fn f.1 87 rfl) (vp_in_nI hj (by decide)) (fa f.2.2.2.1 44 rfl (by rw [nI_clamp (by omega)]; exact hj)) ?_
  refine ex_istore ok_X11_vote (mi 13 rfl) ?_
  refine ex_iload_n ok_X11_vote (mi 14 rfl) rfl ?_
  refine ex_if_eq (tgt := 37) ok_X11_vote (mi 15 rfl) rfl (fun hn => absurd hn (by decide)) (fun _ => ?_)
  refine ex_iload ok_X11_vote (mi 16 rfl) rfl ?_
  refine ex_callSr (As := [_]) (v := some (.int (-1))) (g1 := h) ok_X11_vote (mi 17 rfl) rfl ?c rfl rfl rfl (by decide) (Nat.le_of_ble_eq_true rfl) (by decide) ?_
  case c =>
    refine ex_M_of ok_X10_valueOf cw_X10_valueOf rfl hst (Nat.le_of_ble_eq_true rfl) ?_
    refine ex_iload_n ok_X10_valueOf (mi 0 rfl) rfl ?_
    refine ex_iconst ok_X10_valueOf (mi 1 rfl) ?_
    refine ex_icmp_ne (tgt := 9) ok_X10_valueOf (mi 2 rfl) rfl (fun hn => absurd (by decide) hn) (fun _ => ?_)
    refine ex_iconst ok_X10_valueOf (mi 3 rfl) ?_
    refine ex_goto (tgt := 13) ok_X10_valueOf (mi 4 rfl) rfl ?_
    refine ex_iret ok_X10_valueOf (mi 8 rfl) rfl ?_
    exact ⟨inlI (by decide), rfl⟩
  refine ex_goto (tgt := 42) ok_X11_vote (mi 18 rfl) rfl ?_
  refine ex_iret ok_X11_vote (mi 21 rfl) rfl ?_
  exact ⟨Or.inl ⟨rfl, inlI (by decide)⟩, kp0⟩
theorem c_agreed_b0 {G : GE} (hst : (ge_l G).stackTraces = false) {x : Nat} {p0 : Int32} (c0 : ¬ vp_in p0 16) : CC G 2 4 24 my_X11_agreed x [.int p0] E3 1 (nI 0) := by
  intro h f
  refine ex_M_of ok_X11_agreed cw_X11_agreed rfl hst (Nat.le_of_ble_eq_true rfl) ?_
  refine ex_iload_n ok_X11_agreed (mi 0 rfl) rfl ?_
  refine ex_bipush ok_X11_agreed (mi 1 rfl) ?_
  refine ex_callSt (e := 100) (As := [_, _]) ok_X11_agreed (mi 2 rfl) rfl (m_reqBad hst c0 (by decide) (by decide)) rfl rfl rfl (by decide) (Nat.le_of_ble_eq_true rfl) (by decide) (fun n hn => ?_)
  exact ⟨Or.inr ⟨by decide, rfl⟩, kpZ kp0 hn⟩
theorem c_agreed_k {G : GE} (hst : (ge_l G).stackTraces = false) {x : Nat} {j : Nat} (hj : j < 16) : CC G 2 4 24 my_X11_agreed x [.int (nI j)] E3 0 ((-1)) := by
  intro h f
  refine ex_M_of ok_X11_agreed cw_X11_agreed rfl hst (Nat.le_of_ble_eq_true rfl) ?_
  refine ex_iload_n ok_X11_agreed (mi 0 rfl) rfl ?_
  refine ex_bipush ok_X11_agreed (mi 1 rfl) ?_
  refine ex_callSr (As := [_, _]) ok_X11_agreed (mi 2 rfl) rfl (m_reqOk hst (vp_in_nI hj (by decide)) (by decide) (by decide)) rfl rfl rfl (by decide) (Nat.le_of_ble_eq_true rfl) (by decide) ?_
  refine ex_aload_n ok_X11_agreed (mi 3 rfl) rfl ?_
  refine ex_getRx ok_X11_agreed (mi 4 rfl) rfl rfl (fk f.1 0 rfl) (fr f.1 8 rfl) (fk f.1 4 rfl) (by decide) ?_
  refine ex_getRx ok_X11_agreed (mi 5 rfl) rfl rfl (fk f.1 4 rfl) (fr f.1 6 rfl) (fk f.1 6 rfl) (by decide) ?_
  refine ex_iload_n ok_X11_agreed (mi 6 rfl) rfl ?_
  refine ex_ialdx ok_X11_agreed (mi 7 rfl) (Or.inl (fk f.1 6 rfl)) (fn f.1 6 rfl) (vp_in_nI hj (by decide)) (fa f.2.2.2.1 1 rfl (by rw [nI_clamp (by omega)]; exact hj)) ?_
  refine ex_iret ok_X11_agreed (mi 8 rfl) rfl ?_
  exact ⟨Or.inl ⟨rfl, inlI (by decide)⟩, kp0⟩
theorem c_count_b0 {G : GE} (hst : (ge_l G).stackTraces = false) {x : Nat} {p0 : Int32} (c0 : ¬ vp_in p0 6) : CC G 2 4 24 my_X11_count x [.int p0] E3 1 (nI 0) := by
  intro h f
  refine ex_M_of ok_X11_count cw_X11_count rfl hst (Nat.le_of_ble_eq_true rfl) ?_
  refine ex_iload_n ok_X11_count (mi 0 rfl) rfl ?_
  refine ex_bipush ok_X11_count (mi 1 rfl) ?_
  refine ex_callSt (e := 100) (As := [_, _]) ok_X11_count (mi 2 rfl) rfl (m_reqBad hst c0 (by decide) (by decide)) rfl rfl rfl (by decide) (Nat.le_of_ble_eq_true rfl) (by decide) (fun n hn => ?_)
  exact ⟨Or.inr ⟨by decide, rfl⟩, kpZ kp0 hn⟩
theorem c_count_0 {G : GE} (hst : (ge_l G).stackTraces = false) {x : Nat}  : CC G 2 4 24 my_X11_count x [.int (nI 0)] E3 0 (nI 0) := by
  intro h f
  refine ex_M_of ok_X11_count cw_X11_count rfl hst (Nat.le_of_ble_eq_true rfl) ?_
  refine ex_iload_n ok_X11_count (mi 0 rfl) rfl ?_
  refine ex_bipush ok_X11_count (mi 1 rfl) ?_
  refine ex_callSr (As := [_, _]) ok_X11_count (mi 2 rfl) rfl (m_reqOk hst (pk_in 0 6 (by decide)) (by decide) (by decide)) rfl rfl rfl (by decide) (Nat.le_of_ble_eq_true rfl) (by decide) ?_
  refine ex_iload_n ok_X11_count (mi 3 rfl) rfl ?_
  refine ex_tblk (tgt := 40) ok_X11_count (mi 4 rfl) (by decide) (by decide) (by decide) (by decide) ?_
  refine ex_aload_n ok_X11_count (mi 5 rfl) rfl ?_
  refine ex_getRx ok_X11_count (mi 6 rfl) rfl rfl (fk f.1 0 rfl) (fr f.1 3 rfl) (fk f.1 1 rfl) (by decide) ?_
  refine ex_getIx ok_X11_count (mi 7 rfl) rfl rfl (fk f.1 1 rfl) (fi f.2.2.1 31 rfl) ?_
  refine ex_iret ok_X11_count (mi 8 rfl) rfl ?_
  exact ⟨Or.inl ⟨rfl, inlI (by decide)⟩, kp0⟩
theorem c_count_1 {G : GE} (hst : (ge_l G).stackTraces = false) {x : Nat}  : CC G 2 4 24 my_X11_count x [.int (nI 1)] E3 0 (nI 0) := by
  intro h f
  refine ex_M_of ok_X11_count cw_X11_count rfl hst (Nat.le_of_ble_eq_true rfl) ?_
  refine ex_iload_n ok_X11_count (mi 0 rfl) rfl ?_
  refine ex_bipush ok_X11_count (mi 1 rfl) ?_
  refine ex_callSr (As := [_, _]) ok_X11_count (mi 2 rfl) rfl (m_reqOk hst (pk_in 1 6 (by decide)) (by decide) (by decide)) rfl rfl rfl (by decide) (Nat.le_of_ble_eq_true rfl) (by decide) ?_
  refine ex_iload_n ok_X11_count (mi 3 rfl) rfl ?_
  refine ex_tblk (tgt := 48) ok_X11_count (mi 4 rfl) (by decide) (by decide) (by decide) (by decide) ?_
  refine ex_aload_n ok_X11_count (mi 9 rfl) rfl ?_
  refine ex_getRx ok_X11_count (mi 10 rfl) rfl rfl (fk f.1 0 rfl) (fr f.1 3 rfl) (fk f.1 1 rfl) (by decide) ?_
  refine ex_getIx ok_X11_count (mi 11 rfl) rfl rfl (fk f.1 1 rfl) (fi f.2.2.1 32 rfl) ?_
  refine ex_iret ok_X11_count (mi 12 rfl) rfl ?_
  exact ⟨Or.inl ⟨rfl, inlI (by decide)⟩, kp0⟩
theorem c_count_2 {G : GE} (hst : (ge_l G).stackTraces = false) {x : Nat}  : CC G 2 4 24 my_X11_count x [.int (nI 2)] E3 0 (nI 0) := by
  intro h f
  refine ex_M_of ok_X11_count cw_X11_count rfl hst (Nat.le_of_ble_eq_true rfl) ?_
  refine ex_iload_n ok_X11_count (mi 0 rfl) rfl ?_
  refine ex_bipush ok_X11_count (mi 1 rfl) ?_
  refine ex_callSr (As := [_, _]) ok_X11_count (mi 2 rfl) rfl (m_reqOk hst (pk_in 2 6 (by decide)) (by decide) (by decide)) rfl rfl rfl (by decide) (Nat.le_of_ble_eq_true rfl) (by decide) ?_
  refine ex_iload_n ok_X11_count (mi 3 rfl) rfl ?_
  refine ex_tblk (tgt := 56) ok_X11_count (mi 4 rfl) (by decide) (by decide) (by decide) (by decide) ?_
  refine ex_aload_n ok_X11_count (mi 13 rfl) rfl ?_
  refine ex_getIx ok_X11_count (mi 14 rfl) rfl rfl (fk f.1 0 rfl) (fi f.2.2.1 205 rfl) ?_
  refine ex_iret ok_X11_count (mi 15 rfl) rfl ?_
  exact ⟨Or.inl ⟨rfl, inlI (by decide)⟩, kp0⟩
theorem c_count_3 {G : GE} (hst : (ge_l G).stackTraces = false) {x : Nat}  : CC G 2 4 24 my_X11_count x [.int (nI 3)] E3 0 (nI 0) := by
  intro h f
  refine ex_M_of ok_X11_count cw_X11_count rfl hst (Nat.le_of_ble_eq_true rfl) ?_
  refine ex_iload_n ok_X11_count (mi 0 rfl) rfl ?_
  refine ex_bipush ok_X11_count (mi 1 rfl) ?_
  refine ex_callSr (As := [_, _]) ok_X11_count (mi 2 rfl) rfl (m_reqOk hst (pk_in 3 6 (by decide)) (by decide) (by decide)) rfl rfl rfl (by decide) (Nat.le_of_ble_eq_true rfl) (by decide) ?_
  refine ex_iload_n ok_X11_count (mi 3 rfl) rfl ?_
  refine ex_tblk (tgt := 61) ok_X11_count (mi 4 rfl) (by decide) (by decide) (by decide) (by decide) ?_
  refine ex_aload_n ok_X11_count (mi 16 rfl) rfl ?_
  refine ex_getRx ok_X11_count (mi 17 rfl) rfl rfl (fk f.1 0 rfl) (fr f.1 11 rfl) (fk f.1 7 rfl) (by decide) ?_
  refine ex_getIx ok_X11_count (mi 18 rfl) rfl rfl (fk f.1 7 rfl) (fi f.2.2.1 36 rfl) ?_
  refine ex_iret ok_X11_count (mi 19 rfl) rfl ?_
  exact ⟨Or.inl ⟨rfl, inlI (by decide)⟩, kp0⟩
theorem c_count_4 {G : GE} (hst : (ge_l G).stackTraces = false) {x : Nat}  : CC G 2 4 24 my_X11_count x [.int (nI 4)] E3 0 (nI 0) := by
  intro h f
  refine ex_M_of ok_X11_count cw_X11_count rfl hst (Nat.le_of_ble_eq_true rfl) ?_
  refine ex_iload_n ok_X11_count (mi 0 rfl) rfl ?_
  refine ex_bipush ok_X11_count (mi 1 rfl) ?_
  refine ex_callSr (As := [_, _]) ok_X11_count (mi 2 rfl) rfl (m_reqOk hst (pk_in 4 6 (by decide)) (by decide) (by decide)) rfl rfl rfl (by decide) (Nat.le_of_ble_eq_true rfl) (by decide) ?_
  refine ex_iload_n ok_X11_count (mi 3 rfl) rfl ?_
  refine ex_tblk (tgt := 69) ok_X11_count (mi 4 rfl) (by decide) (by decide) (by decide) (by decide) ?_
  refine ex_aload_n ok_X11_count (mi 20 rfl) rfl ?_
  refine ex_getRx ok_X11_count (mi 21 rfl) rfl rfl (fk f.1 0 rfl) (fr f.1 8 rfl) (fk f.1 4 rfl) (by decide) ?_
  refine ex_getIx ok_X11_count (mi 22 rfl) rfl rfl (fk f.1 4 rfl) (fi f.2.2.1 35 rfl) ?_
  refine ex_iret ok_X11_count (mi 23 rfl) rfl ?_
  exact ⟨Or.inl ⟨rfl, inlI (by decide)⟩, kp0⟩
