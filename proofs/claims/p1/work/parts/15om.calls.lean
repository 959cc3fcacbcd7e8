theorem c_voter_2_0 {G : GE} (hst : (ge_l G).stackTraces = false) {x : Nat}  : CC G 3 4 24 my_X11_voter x [.int (nI 2), .int (nI 0)] E3 0 ((-1)) := by
  intro h f
  refine ex_M_of ok_X11_voter cw_X11_voter rfl hst (Nat.le_of_ble_eq_true rfl) ?_
  refine ex_iload_n ok_X11_voter (mi 0 rfl) rfl ?_
  refine ex_bipush ok_X11_voter (mi 1 rfl) ?_
  refine ex_callSr (As := [_, _]) ok_X11_voter (mi 2 rfl) rfl (m_reqOk hst (pk_in 2 12 (by decide)) (by decide) (by decide)) rfl rfl rfl (by decide) (Nat.le_of_ble_eq_true rfl) (by decide) ?_
  refine ex_iload_n ok_X11_voter (mi 3 rfl) rfl ?_
  refine ex_iconst ok_X11_voter (mi 4 rfl) ?_
  refine ex_callSr (As := [_, _]) ok_X11_voter (mi 5 rfl) rfl (m_reqOk hst (pk_in 0 3 (by decide)) (by decide) (by decide)) rfl rfl rfl (by decide) (Nat.le_of_ble_eq_true rfl) (by decide) ?_
  refine ex_aload_n ok_X11_voter (mi 6 rfl) rfl ?_
  refine ex_getRx ok_X11_voter (mi 7 rfl) rfl rfl (fk f.1 0 rfl) (fr f.1 84 rfl) (fk f.1 63 rfl) (by decide) ?_
  refine ex_iload_n ok_X11_voter (mi 8 rfl) rfl ?_
  refine ex_aaldx (n := 3) ok_X11_voter (mi 9 rfl) (by decide) (fk f.1 63 rfl) (fn f.1 63 rfl) (pk_in 2 12 (by decide)) (fo f.2.1 14 rfl) (fk f.1 68 rfl) (by decide) ?_
  refine ex_iload_n ok_X11_voter (mi 10 rfl) rfl ?_
  refine ex_callVr (As := [_]) (v := some (.int (-1))) (g1 := h) ok_X11_voter (mi 11 rfl) rfl ?c rfl (fk f.1 68 rfl) rfl rfl (by decide) (by decide) (Nat.le_of_ble_eq_true rfl) (by decide) ?_
  case c =>
    refine ex_M_of ok_X10_tell cw_X10_tell rfl hst (Nat.le_of_ble_eq_true rfl) ?_
    refine ex_iload_n ok_X10_tell (mi 0 rfl) rfl ?_
    refine ex_lookup (tgt := 28) ok_X10_tell (mi 1 rfl) (by decide) (by decide) ?_
    refine ex_aload_n ok_X10_tell (mi 2 rfl) rfl ?_
    refine ex_getIx ok_X10_tell (mi 3 rfl) rfl rfl (fk f.1 68 rfl) (fi f.2.2.1 185 rfl) ?_
    refine ex_iret ok_X10_tell (mi 4 rfl) rfl ?_
    exact ⟨inlI (by decide), rfl⟩
  refine ex_iret ok_X11_voter (mi 12 rfl) rfl ?_
  exact ⟨Or.inl ⟨rfl, inlI (by decide)⟩, kp0⟩
theorem c_voter_2_1 {G : GE} (hst : (ge_l G).stackTraces = false) {x : Nat}  : CC G 3 4 24 my_X11_voter x [.int (nI 2), .int (nI 1)] E3 0 (nI 0) := by
  intro h f
  refine ex_M_of ok_X11_voter cw_X11_voter rfl hst (Nat.le_of_ble_eq_true rfl) ?_
  refine ex_iload_n ok_X11_voter (mi 0 rfl) rfl ?_
  refine ex_bipush ok_X11_voter (mi 1 rfl) ?_
  refine ex_callSr (As := [_, _]) ok_X11_voter (mi 2 rfl) rfl (m_reqOk hst (pk_in 2 12 (by decide)) (by decide) (by decide)) rfl rfl rfl (by decide) (Nat.le_of_ble_eq_true rfl) (by decide) ?_
  refine ex_iload_n ok_X11_voter (mi 3 rfl) rfl ?_
  refine ex_iconst ok_X11_voter (mi 4 rfl) ?_
  refine ex_callSr (As := [_, _]) ok_X11_voter (mi 5 rfl) rfl (m_reqOk hst (pk_in 1 3 (by decide)) (by decide) (by decide)) rfl rfl rfl (by decide) (Nat.le_of_ble_eq_true rfl) (by decide) ?_
  refine ex_aload_n ok_X11_voter (mi 6 rfl) rfl ?_
  refine ex_getRx ok_X11_voter (mi 7 rfl) rfl rfl (fk f.1 0 rfl) (fr f.1 84 rfl) (fk f.1 63 rfl) (by decide) ?_
  refine ex_iload_n ok_X11_voter (mi 8 rfl) rfl ?_
  refine ex_aaldx (n := 3) ok_X11_voter (mi 9 rfl) (by decide) (fk f.1 63 rfl) (fn f.1 63 rfl) (pk_in 2 12 (by decide)) (fo f.2.1 14 rfl) (fk f.1 68 rfl) (by decide) ?_
  refine ex_iload_n ok_X11_voter (mi 10 rfl) rfl ?_
  refine ex_callVr (As := [_]) (v := some (.int (nI 0))) (g1 := h) ok_X11_voter (mi 11 rfl) rfl ?c rfl (fk f.1 68 rfl) rfl rfl (by decide) (by decide) (Nat.le_of_ble_eq_true rfl) (by decide) ?_
  case c =>
    refine ex_M_of ok_X10_tell cw_X10_tell rfl hst (Nat.le_of_ble_eq_true rfl) ?_
    refine ex_iload_n ok_X10_tell (mi 0 rfl) rfl ?_
    refine ex_lookup (tgt := 33) ok_X10_tell (mi 1 rfl) (by decide) (by decide) ?_
    refine ex_aload_n ok_X10_tell (mi 5 rfl) rfl ?_
    refine ex_getIx ok_X10_tell (mi 6 rfl) rfl rfl (fk f.1 68 rfl) (fi f.2.2.1 186 rfl) ?_
    refine ex_iret ok_X10_tell (mi 7 rfl) rfl ?_
    exact ⟨inlI (by decide), rfl⟩
  refine ex_iret ok_X11_voter (mi 12 rfl) rfl ?_
  exact ⟨Or.inl ⟨rfl, inlI (by decide)⟩, kp0⟩
theorem c_voter_2_2 {G : GE} (hst : (ge_l G).stackTraces = false) {x : Nat}  : CC G 3 4 24 my_X11_voter x [.int (nI 2), .int (nI 2)] E3 0 (nI 0) := by
  intro h f
  refine ex_M_of ok_X11_voter cw_X11_voter rfl hst (Nat.le_of_ble_eq_true rfl) ?_
  refine ex_iload_n ok_X11_voter (mi 0 rfl) rfl ?_
  refine ex_bipush ok_X11_voter (mi 1 rfl) ?_
  refine ex_callSr (As := [_, _]) ok_X11_voter (mi 2 rfl) rfl (m_reqOk hst (pk_in 2 12 (by decide)) (by decide) (by decide)) rfl rfl rfl (by decide) (Nat.le_of_ble_eq_true rfl) (by decide) ?_
  refine ex_iload_n ok_X11_voter (mi 3 rfl) rfl ?_
  refine ex_iconst ok_X11_voter (mi 4 rfl) ?_
  refine ex_callSr (As := [_, _]) ok_X11_voter (mi 5 rfl) rfl (m_reqOk hst (pk_in 2 3 (by decide)) (by decide) (by decide)) rfl rfl rfl (by decide) (Nat.le_of_ble_eq_true rfl) (by decide) ?_
  refine ex_aload_n ok_X11_voter (mi 6 rfl) rfl ?_
  refine ex_getRx ok_X11_voter (mi 7 rfl) rfl rfl (fk f.1 0 rfl) (fr f.1 84 rfl) (fk f.1 63 rfl) (by decide) ?_
  refine ex_iload_n ok_X11_voter (mi 8 rfl) rfl ?_
  refine ex_aaldx (n := 3) ok_X11_voter (mi 9 rfl) (by decide) (fk f.1 63 rfl) (fn f.1 63 rfl) (pk_in 2 12 (by decide)) (fo f.2.1 14 rfl) (fk f.1 68 rfl) (by decide) ?_
  refine ex_iload_n ok_X11_voter (mi 10 rfl) rfl ?_
  refine ex_callVr (As := [_]) (v := some (.int (nI 0))) (g1 := h) ok_X11_voter (mi 11 rfl) rfl ?c rfl (fk f.1 68 rfl) rfl rfl (by decide) (by decide) (Nat.le_of_ble_eq_true rfl) (by decide) ?_
  case c =>
    refine ex_M_of ok_X10_tell cw_X10_tell rfl hst (Nat.le_of_ble_eq_true rfl) ?_
    refine ex_iload_n ok_X10_tell (mi 0 rfl) rfl ?_
    refine ex_lookup (tgt := 38) ok_X10_tell (mi 1 rfl) (by decide) (by decide) ?_
    refine ex_aload_n ok_X10_tell (mi 8 rfl) rfl ?_
    refine ex_getRx ok_X10_tell (mi 9 rfl) rfl rfl (fk f.1 68 rfl) (fr f.1 91 rfl) (fk f.1 69 rfl) (by decide) ?_
    refine ex_callSr (As := [_]) ok_X10_tell (mi 10 rfl) rfl (m_votesIn0 hst (sh_sub 873 f.1 (by decide +kernel) (by decide +kernel)) (tA_sub 873 16 ((-1)) f.2.2.2.1 (by decide +kernel))) rfl rfl rfl (by decide) (Nat.le_of_ble_eq_true rfl) (by decide) ?_
    refine ex_iret ok_X10_tell (mi 11 rfl) rfl ?_
    exact ⟨inlI (by decide), rfl⟩
  refine ex_iret ok_X11_voter (mi 12 rfl) rfl ?_
  exact ⟨Or.inl ⟨rfl, inlI (by decide)⟩, kp0⟩
theorem c_vote_2_0 {G : GE} (hst : (ge_l G).stackTraces = false) {x : Nat} {j : Nat} (hj : j < 16) : CC G 2 4 24 my_X11_vote x [.int (nI 2), .int (nI j), .int (nI 0)] E3 0 ((-1)) := by
  intro h f
  refine ex_M_of ok_X11_vote cw_X11_vote rfl hst (Nat.le_of_ble_eq_true rfl) ?_
  refine ex_iload_n ok_X11_vote (mi 0 rfl) rfl ?_
  refine ex_bipush ok_X11_vote (mi 1 rfl) ?_
  refine ex_callSr (As := [_, _]) ok_X11_vote (mi 2 rfl) rfl (m_reqOk hst (pk_in 2 12 (by decide)) (by decide) (by decide)) rfl rfl rfl (by decide) (Nat.le_of_ble_eq_true rfl) (by decide) ?_
  refine ex_iload_n ok_X11_vote (mi 3 rfl) rfl ?_
  refine ex_bipush ok_X11_vote (mi 4 rfl) ?_
  refine ex_callSr (As := [_, _]) ok_X11_vote (mi 5 rfl) rfl (m_reqOk hst (vp_in_nI hj (by decide)) (by decide) (by decide)) rfl rfl rfl (by decide) (Nat.le_of_ble_eq_true rfl) (by decide) ?_
  refine ex_aload_n ok_X11_vote (mi 6 rfl) rfl ?_
  refine ex_getRx ok_X11_vote (mi 7 rfl) rfl rfl (fk f.1 0 rfl) (fr f.1 84 rfl) (fk f.1 63 rfl) (by decide) ?_
  refine ex_iload_n ok_X11_vote (mi 8 rfl) rfl ?_
  refine ex_aaldx (n := 3) ok_X11_vote (mi 9 rfl) (by decide) (fk f.1 63 rfl) (fn f.1 63 rfl) (pk_in 2 12 (by decide)) (fo f.2.1 14 rfl) (fk f.1 68 rfl) (by decide) ?_
  refine ex_getRx ok_X11_vote (mi 10 rfl) rfl rfl (fk f.1 68 rfl) (fr f.1 91 rfl) (fk f.1 69 rfl) (by decide) ?_
  refine ex_iload_n ok_X11_vote (mi 11 rfl) rfl ?_
  refine ex_ialdx ok_X11_vote (mi 12 rfl) (Or.inl (fk f.1 69 rfl)) (fn f.1 69 rfl) (vp_in_nI hj (by decide)) (fa f.2.2.2.1 35 rfl (by rw [nI_clamp (by omega)]; exact hj)) ?_
  refine ex_istore ok_X11_vote (mi 13 rfl) ?_
  refine ex_iload_n ok_X11_vote (mi 14 rfl) rfl ?_
  refine ex_if_eq (tgt := 37) ok_X11_vote (mi 15 rfl) rfl (fun _ => ?_) (fun hn => absurd (by decide) hn)
  refine ex_iload ok_X11_vote (mi 19 rfl) rfl ?_
  refine ex_callSr (As := [_]) (v := some (.int (-1))) (g1 := h) ok_X11_vote (mi 20 rfl) rfl ?c rfl rfl rfl (by decide) (Nat.le_of_ble_eq_true rfl) (by decide) ?_
  case c =>
    refine ex_M_of ok_X10_roundOf cw_X10_roundOf rfl hst (Nat.le_of_ble_eq_true rfl) ?_
    refine ex_iload_n ok_X10_roundOf (mi 0 rfl) rfl ?_
    refine ex_iconst ok_X10_roundOf (mi 1 rfl) ?_
    refine ex_icmp_ne (tgt := 9) ok_X10_roundOf (mi 2 rfl) rfl (fun hn => absurd (by decide) hn) (fun _ => ?_)
    refine ex_iconst ok_X10_roundOf (mi 3 rfl) ?_
    refine ex_goto (tgt := 13) ok_X10_roundOf (mi 4 rfl) rfl ?_
    refine ex_iret ok_X10_roundOf (mi 8 rfl) rfl ?_
    exact ⟨inlI (by decide), rfl⟩
  refine ex_iret ok_X11_vote (mi 21 rfl) rfl ?_
  exact ⟨Or.inl ⟨rfl, inlI (by decide)⟩, kp0⟩
theorem c_vote_2_1 {G : GE} (hst : (ge_l G).stackTraces = false) {x : Nat} {j : Nat} (hj : j < 16) : CC G 2 4 24 my_X11_vote x [.int (nI 2), .int (nI j), .int (nI 1)] E3 0 ((-1)) := by
  intro h f
  refine ex_M_of ok_X11_vote cw_X11_vote rfl hst (Nat.le_of_ble_eq_true rfl) ?_
  refine ex_iload_n ok_X11_vote (mi 0 rfl) rfl ?_
  refine ex_bipush ok_X11_vote (mi 1 rfl) ?_
  refine ex_callSr (As := [_, _]) ok_X11_vote (mi 2 rfl) rfl (m_reqOk hst (pk_in 2 12 (by decide)) (by decide) (by decide)) rfl rfl rfl (by decide) (Nat.le_of_ble_eq_true rfl) (by decide) ?_
  refine ex_iload_n ok_X11_vote (mi 3 rfl) rfl ?_
  refine ex_bipush ok_X11_vote (mi 4 rfl) ?_
  refine ex_callSr (As := [_, _]) ok_X11_vote (mi 5 rfl) rfl (m_reqOk hst (vp_in_nI hj (by decide)) (by decide) (by decide)) rfl rfl rfl (by decide) (Nat.le_of_ble_eq_true rfl) (by decide) ?_
  refine ex_aload_n ok_X11_vote (mi 6 rfl) rfl ?_
  refine ex_getRx ok_X11_vote (mi 7 rfl) rfl rfl (fk f.1 0 rfl) (fr f.1 84 rfl) (fk f.1 63 rfl) (by decide) ?_
  refine ex_iload_n ok_X11_vote (mi 8 rfl) rfl ?_
  refine ex_aaldx (n := 3) ok_X11_vote (mi 9 rfl) (by decide) (fk f.1 63 rfl) (fn f.1 63 rfl) (pk_in 2 12 (by decide)) (fo f.2.1 14 rfl) (fk f.1 68 rfl) (by decide) ?_
  refine ex_getRx ok_X11_vote (mi 10 rfl) rfl rfl (fk f.1 68 rfl) (fr f.1 91 rfl) (fk f.1 69 rfl) (by decide) ?_
  refine ex_iload_n ok_X11_vote (mi 11 rfl) rfl ?_
  refine ex_ialdx ok_X11_vote (mi 12 rfl) (Or.inl (fk f.1 69 rfl)) (fn f.1 69 rfl) (vp_in_nI hj (by decide)) (fa f.2.2.2.1 35 rfl (by rw [nI_clamp (by omega)]; exact hj)) ?_
  refine ex_istore ok_X11_vote (mi 13 rfl) ?_
  refine ex_iload_n ok_X11_vote (mi 14 rfl) rfl ?_
  refine ex_if_eq (tgt := 37) ok_X11_vote (mi 15 rfl) rfl (fun hn => absurd hn (by decide)) (fun _ => ?_)
  refine ex_iload ok_X11_vote (mi 16 rfl) rfl ?_
  refine ex_callSr (As := [_]) (v := some (.int (-1))) (g1 := h) ok_X11_vote (mi 17 rfl) rfl ?c rfl rfl rfl (by decide) (Nat.le_of_ble_eq_true rfl) (by decide) ?_
  case c =>
    refine ex_M_of ok_X10_valueOf cw_X10_valueOf rfl hst (Nat.le_of_ble_eq_true rfl) ?_
    refine ex_iload_n ok_X10_valueOf (mi 0 rfl) rfl ?_
    refine ex_iconst ok_X10_valueOf (mi 1 rfl) ?_
    refine ex_icmp_ne (tgt := 9) ok_X10_valueOf (mi 2 rfl) rfl (fun hn => absurd (by decide) hn) (fun _ => ?_)
    refine ex_iconst ok_X10_valueOf (mi 3 rfl) ?_
    refine ex_goto (tgt := 13) ok_X10_valueOf (mi 4 rfl) rfl ?_
    refine ex_iret ok_X10_valueOf (mi 8 rfl) rfl ?_
    exact ⟨inlI (by decide), rfl⟩
  refine ex_goto (tgt := 42) ok_X11_vote (mi 18 rfl) rfl ?_
  refine ex_iret ok_X11_vote (mi 21 rfl) rfl ?_
  exact ⟨Or.inl ⟨rfl, inlI (by decide)⟩, kp0⟩
theorem c_voter_3_0 {G : GE} (hst : (ge_l G).stackTraces = false) {x : Nat}  : CC G 3 4 24 my_X11_voter x [.int (nI 3), .int (nI 0)] E3 0 ((-1)) := by
  intro h f
  refine ex_M_of ok_X11_voter cw_X11_voter rfl hst (Nat.le_of_ble_eq_true rfl) ?_
  refine ex_iload_n ok_X11_voter (mi 0 rfl) rfl ?_
  refine ex_bipush ok_X11_voter (mi 1 rfl) ?_
  refine ex_callSr (As := [_, _]) ok_X11_voter (mi 2 rfl) rfl (m_reqOk hst (pk_in 3 12 (by decide)) (by decide) (by decide)) rfl rfl rfl (by decide) (Nat.le_of_ble_eq_true rfl) (by decide) ?_
  refine ex_iload_n ok_X11_voter (mi 3 rfl) rfl ?_
  refine ex_iconst ok_X11_voter (mi 4 rfl) ?_
  refine ex_callSr (As := [_, _]) ok_X11_voter (mi 5 rfl) rfl (m_reqOk hst (pk_in 0 3 (by decide)) (by decide) (by decide)) rfl rfl rfl (by decide) (Nat.le_of_ble_eq_true rfl) (by decide) ?_
  refine ex_aload_n ok_X11_voter (mi 6 rfl) rfl ?_
  refine ex_getRx ok_X11_voter (mi 7 rfl) rfl rfl (fk f.1 0 rfl) (fr f.1 84 rfl) (fk f.1 63 rfl) (by decide) ?_
  refine ex_iload_n ok_X11_voter (mi 8 rfl) rfl ?_
  refine ex_aaldx (n := 3) ok_X11_voter (mi 9 rfl) (by decide) (fk f.1 63 rfl) (fn f.1 63 rfl) (pk_in 3 12 (by decide)) (fo f.2.1 15 rfl) (fk f.1 70 rfl) (by decide) ?_
  refine ex_iload_n ok_X11_voter (mi 10 rfl) rfl ?_
  refine ex_callVr (As := [_]) (v := some (.int (-1))) (g1 := h) ok_X11_voter (mi 11 rfl) rfl ?c rfl (fk f.1 70 rfl) rfl rfl (by decide) (by decide) (Nat.le_of_ble_eq_true rfl) (by decide) ?_
  case c =>
    refine ex_M_of ok_X10_tell cw_X10_tell rfl hst (Nat.le_of_ble_eq_true rfl) ?_
    refine ex_iload_n ok_X10_tell (mi 0 rfl) rfl ?_
    refine ex_lookup (tgt := 28) ok_X10_tell (mi 1 rfl) (by decide) (by decide) ?_
    refine ex_aload_n ok_X10_tell (mi 2 rfl) rfl ?_
    refine ex_getIx ok_X10_tell (mi 3 rfl) rfl rfl (fk f.1 70 rfl) (fi f.2.2.1 187 rfl) ?_
    refine ex_iret ok_X10_tell (mi 4 rfl) rfl ?_
    exact ⟨inlI (by decide), rfl⟩
  refine ex_iret ok_X11_voter (mi 12 rfl) rfl ?_
  exact ⟨Or.inl ⟨rfl, inlI (by decide)⟩, kp0⟩
theorem c_voter_3_1 {G : GE} (hst : (ge_l G).stackTraces = false) {x : Nat}  : CC G 3 4 24 my_X11_voter x [.int (nI 3), .int (nI 1)] E3 0 (nI 0) := by
  intro h f
  refine ex_M_of ok_X11_voter cw_X11_voter rfl hst (Nat.le_of_ble_eq_true rfl) ?_
  refine ex_iload_n ok_X11_voter (mi 0 rfl) rfl ?_
  refine ex_bipush ok_X11_voter (mi 1 rfl) ?_
  refine ex_callSr (As := [_, _]) ok_X11_voter (mi 2 rfl) rfl (m_reqOk hst (pk_in 3 12 (by decide)) (by decide) (by decide)) rfl rfl rfl (by decide) (Nat.le_of_ble_eq_true rfl) (by decide) ?_
  refine ex_iload_n ok_X11_voter (mi 3 rfl) rfl ?_
  refine ex_iconst ok_X11_voter (mi 4 rfl) ?_
  refine ex_callSr (As := [_, _]) ok_X11_voter (mi 5 rfl) rfl (m_reqOk hst (pk_in 1 3 (by decide)) (by decide) (by decide)) rfl rfl rfl (by decide) (Nat.le_of_ble_eq_true rfl) (by decide) ?_
  refine ex_aload_n ok_X11_voter (mi 6 rfl) rfl ?_
  refine ex_getRx ok_X11_voter (mi 7 rfl) rfl rfl (fk f.1 0 rfl) (fr f.1 84 rfl) (fk f.1 63 rfl) (by decide) ?_
  refine ex_iload_n ok_X11_voter (mi 8 rfl) rfl ?_
  refine ex_aaldx (n := 3) ok_X11_voter (mi 9 rfl) (by decide) (fk f.1 63 rfl) (fn f.1 63 rfl) (pk_in 3 12 (by decide)) (fo f.2.1 15 rfl) (fk f.1 70 rfl) (by decide) ?_
  refine ex_iload_n ok_X11_voter (mi 10 rfl) rfl ?_
  refine ex_callVr (As := [_]) (v := some (.int (nI 0))) (g1 := h) ok_X11_voter (mi 11 rfl) rfl ?c rfl (fk f.1 70 rfl) rfl rfl (by decide) (by decide) (Nat.le_of_ble_eq_true rfl) (by decide) ?_
  case c =>
    refine ex_M_of ok_X10_tell cw_X10_tell rfl hst (Nat.le_of_ble_eq_true rfl) ?_
    refine ex_iload_n ok_X10_tell (mi 0 rfl) rfl ?_
    refine ex_lookup (tgt := 33) ok_X10_tell (mi 1 rfl) (by decide) (by decide) ?_
    refine ex_aload_n ok_X10_tell (mi 5 rfl) rfl ?_
    refine ex_getIx ok_X10_tell (mi 6 rfl) rfl rfl (fk f.1 70 rfl) (fi f.2.2.1 188 rfl) ?_
    refine ex_iret ok_X10_tell (mi 7 rfl) rfl ?_
    exact ⟨inlI (by decide), rfl⟩
  refine ex_iret ok_X11_voter (mi 12 rfl) rfl ?_
  exact ⟨Or.inl ⟨rfl, inlI (by decide)⟩, kp0⟩
theorem c_voter_3_2 {G : GE} (hst : (ge_l G).stackTraces = false) {x : Nat}  : CC G 3 4 24 my_X11_voter x [.int (nI 3), .int (nI 2)] E3 0 (nI 0) := by
  intro h f
  refine ex_M_of ok_X11_voter cw_X11_voter rfl hst (Nat.le_of_ble_eq_true rfl) ?_
  refine ex_iload_n ok_X11_voter (mi 0 rfl) rfl ?_
  refine ex_bipush ok_X11_voter (mi 1 rfl) ?_
  refine ex_callSr (As := [_, _]) ok_X11_voter (mi 2 rfl) rfl (m_reqOk hst (pk_in 3 12 (by decide)) (by decide) (by decide)) rfl rfl rfl (by decide) (Nat.le_of_ble_eq_true rfl) (by decide) ?_
  refine ex_iload_n ok_X11_voter (mi 3 rfl) rfl ?_
  refine ex_iconst ok_X11_voter (mi 4 rfl) ?_
  refine ex_callSr (As := [_, _]) ok_X11_voter (mi 5 rfl) rfl (m_reqOk hst (pk_in 2 3 (by decide)) (by decide) (by decide)) rfl rfl rfl (by decide) (Nat.le_of_ble_eq_true rfl) (by decide) ?_
  refine ex_aload_n ok_X11_voter (mi 6 rfl) rfl ?_
  refine ex_getRx ok_X11_voter (mi 7 rfl) rfl rfl (fk f.1 0 rfl) (fr f.1 84 rfl) (fk f.1 63 rfl) (by decide) ?_
  refine ex_iload_n ok_X11_voter (mi 8 rfl) rfl ?_
  refine ex_aaldx (n := 3) ok_X11_voter (mi 9 rfl) (by decide) (fk f.1 63 rfl) (fn f.1 63 rfl) (pk_in 3 12 (by decide)) (fo f.2.1 15 rfl) (fk f.1 70 rfl) (by decide) ?_
  refine ex_iload_n ok_X11_voter (mi 10 rfl) rfl ?_
  refine ex_callVr (As := [_]) (v := some (.int (nI 0))) (g1 := h) ok_X11_voter (mi 11 rfl) rfl ?c rfl (fk f.1 70 rfl) rfl rfl (by decide) (by decide) (Nat.le_of_ble_eq_true rfl) (by decide) ?_
  case c =>
    refine ex_M_of ok_X10_tell cw_X10_tell rfl hst (Nat.le_of_ble_eq_true rfl) ?_
    refine ex_iload_n ok_X10_tell (mi 0 rfl) rfl ?_
    refine ex_lookup (tgt := 38) ok_X10_tell (mi 1 rfl) (by decide) (by decide) ?_
    refine ex_aload_n ok_X10_tell (mi 8 rfl) rfl ?_
    refine ex_getRx ok_X10_tell (mi 9 rfl) rfl rfl (fk f.1 70 rfl) (fr f.1 94 rfl) (fk f.1 71 rfl) (by decide) ?_
    refine ex_callSr (As := [_]) ok_X10_tell (mi 10 rfl) rfl (m_votesIn0 hst (sh_sub 875 f.1 (by decide +kernel) (by decide +kernel)) (tA_sub 875 16 ((-1)) f.2.2.2.1 (by decide +kernel))) rfl rfl rfl (by decide) (Nat.le_of_ble_eq_true rfl) (by decide) ?_
    refine ex_iret ok_X10_tell (mi 11 rfl) rfl ?_
    exact ⟨inlI (by decide), rfl⟩
  refine ex_iret ok_X11_voter (mi 12 rfl) rfl ?_
  exact ⟨Or.inl ⟨rfl, inlI (by decide)⟩, kp0⟩
theorem c_vote_3_0 {G : GE} (hst : (ge_l G).stackTraces = false) {x : Nat} {j : Nat} (hj : j < 16) : CC G 2 4 24 my_X11_vote x [.int (nI 3), .int (nI j), .int (nI 0)] E3 0 ((-1)) := by
  intro h f
  refine ex_M_of ok_X11_vote cw_X11_vote rfl hst (Nat.le_of_ble_eq_true rfl) ?_
  refine ex_iload_n ok_X11_vote (mi 0 rfl) rfl ?_
  refine ex_bipush ok_X11_vote (mi 1 rfl) ?_
  refine ex_callSr (As := [_, _]) ok_X11_vote (mi 2 rfl) rfl (m_reqOk hst (pk_in 3 12 (by decide)) (by decide) (by decide)) rfl rfl rfl (by decide) (Nat.le_of_ble_eq_true rfl) (by decide) ?_
  refine ex_iload_n ok_X11_vote (mi 3 rfl) rfl ?_
  refine ex_bipush ok_X11_vote (mi 4 rfl) ?_
  refine ex_callSr (As := [_, _]) ok_X11_vote (mi 5 rfl) rfl (m_reqOk hst (vp_in_nI hj (by decide)) (by decide) (by decide)) rfl rfl rfl (by decide) (Nat.le_of_ble_eq_true rfl) (by decide) ?_
  refine ex_aload_n ok_X11_vote (mi 6 rfl) rfl ?_
  refine ex_getRx ok_X11_vote (mi 7 rfl) rfl rfl (fk f.1 0 rfl) (fr f.1 84 rfl) (fk f.1 63 rfl) (by decide) ?_
  refine ex_iload_n ok_X11_vote (mi 8 rfl) rfl ?_
  refine ex_aaldx (n := 3) ok_X11_vote (mi 9 rfl) (by decide) (fk f.1 63 rfl) (fn f.1 63 rfl) (pk_in 3 12 (by decide)) (fo f.2.1 15 rfl) (fk f.1 70 rfl) (by decide) ?_
  refine ex_getRx ok_X11_vote (mi 10 rfl) rfl rfl (fk f.1 70 rfl) (fr f.1 94 rfl) (fk f.1 71 rfl) (by decide) ?_
  refine ex_iload_n ok_X11_vote (mi 11 rfl) rfl ?_
  refine ex_ialdx ok_X11_vote (mi 12 rfl) (Or.inl (fk f.1 71 rfl)) (fn f.1 71 rfl) (vp_in_nI hj (by decide)) (fa f.2.2.2.1 36 rfl (by rw [nI_clamp (by omega)]; exact hj)) ?_
  refine ex_istore ok_X11_vote (mi 13 rfl) ?_
  refine ex_iload_n ok_X11_vote (mi 14 rfl) rfl ?_
  refine ex_if_eq (tgt := 37) ok_X11_vote (mi 15 rfl) rfl (fun _ => ?_) (fun hn => absurd (by decide) hn)
  refine ex_iload ok_X11_vote (mi 19 rfl) rfl ?_
  refine ex_callSr (As := [_]) (v := some (.int (-1))) (g1 := h) ok_X11_vote (mi 20 rfl) rfl ?c rfl rfl rfl (by decide) (Nat.le_of_ble_eq_true rfl) (by decide) ?_
  case c =>
    refine ex_M_of ok_X10_roundOf cw_X10_roundOf rfl hst (Nat.le_of_ble_eq_true rfl) ?_
    refine ex_iload_n ok_X10_roundOf (mi 0 rfl) rfl ?_
    refine ex_iconst ok_X10_roundOf (mi 1 rfl) ?_
    refine ex_icmp_ne (tgt := 9) ok_X10_roundOf (mi 2 rfl) rfl (fun hn => absurd (by decide) hn) (fun _ => ?_)
    refine ex_iconst ok_X10_roundOf (mi 3 rfl) ?_
    refine ex_goto (tgt := 13) ok_X10_roundOf (mi 4 rfl) rfl ?_
    refine ex_iret ok_X10_roundOf (mi 8 rfl) rfl ?_
    exact ⟨inlI (by decide), rfl⟩
  refine ex_iret ok_X11_vote (mi 21 rfl) rfl ?_
  exact ⟨Or.inl ⟨rfl, inlI (by decide)⟩, kp0⟩
theorem c_vote_3_1 {G : GE} (hst : (ge_l G).stackTraces = false) {x : Nat} {j : Nat} (hj : j < 16) : CC G 2 4 24 my_X11_vote x [.int (nI 3), .int (nI j), .int (nI 1)] E3 0 ((-1)) := by
  intro h f
  refine ex_M_of ok_X11_vote cw_X11_vote rfl hst (Nat.le_of_ble_eq_true rfl) ?_
  refine ex_iload_n ok_X11_vote (mi 0 rfl) rfl ?_
  refine ex_bipush ok_X11_vote (mi 1 rfl) ?_
  refine ex_callSr (As := [_, _]) ok_X11_vote (mi 2 rfl) rfl (m_reqOk hst (pk_in 3 12 (by decide)) (by decide) (by decide)) rfl rfl rfl (by decide) (Nat.le_of_ble_eq_true rfl) (by decide) ?_
  refine ex_iload_n ok_X11_vote (mi 3 rfl) rfl ?_
  refine ex_bipush ok_X11_vote (mi 4 rfl) ?_
  refine ex_callSr (As := [_, _]) ok_X11_vote (mi 5 rfl) rfl (m_reqOk hst (vp_in_nI hj (by decide)) (by decide) (by decide)) rfl rfl rfl (by decide) (Nat.le_of_ble_eq_true rfl) (by decide) ?_
  refine ex_aload_n ok_X11_vote (mi 6 rfl) rfl ?_
  refine ex_getRx ok_X11_vote (mi 7 rfl) rfl rfl (fk f.1 0 rfl) (fr f.1 84 rfl) (fk f.1 63 rfl) (by decide) ?_
  refine ex_iload_n ok_X11_vote (mi 8 rfl) rfl ?_
  refine ex_aaldx (n := 3) ok_X11_vote (mi 9 rfl) (by decide) (fk f.1 63 rfl) (fn f.1 63 rfl) (pk_in 3 12 (by decide)) (fo f.2.1 15 rfl) (fk f.1 70 rfl) (by decide) ?_
  refine ex_getRx ok_X11_vote (mi 10 rfl) rfl rfl (fk f.1 70 rfl) (fr f.1 94 rfl) (fk f.1 71 rfl) (by decide) ?_
  refine ex_iload_n ok_X11_vote (mi 11 rfl) rfl ?_
  refine ex_ialdx ok_X11_vote (mi 12 rfl) (Or.inl (fk f.1 71 rfl)) (fn f.1 71 rfl) (vp_in_nI hj (by decide)) (fa f.2.2.2.1 36 rfl (by rw [nI_clamp (by omega)]; exact hj)) ?_
  refine ex_istore ok_X11_vote (mi 13 rfl) ?_
  refine ex_iload_n ok_X11_vote (mi 14 rfl) rfl ?_
  refine ex_if_eq (tgt := 37) ok_X11_vote (mi 15 rfl) rfl (fun hn => absurd hn (by decide)) (fun _ => ?_)
  refine ex_iload ok_X11_vote (mi 16 rfl) rfl ?_
  refine ex_callSr (As := [_]) (v := some (.int (-1))) (g1 := h) ok_X11_vote (mi 17 rfl) rfl ?c rfl rfl rfl (by decide) (Nat.le_of_ble_eq_true rfl) (by decide) ?_
  case c =>
    refine ex_M_of ok_X10_valueOf cw_X10_valueOf rfl hst (Nat.le_of_ble_eq_true rfl) ?_
    refine ex_iload_n ok_X10_valueOf (mi 0 rfl) rfl ?_
    refine ex_iconst ok_X10_valueOf (mi 1 rfl) ?_
    refine ex_icmp_ne (tgt := 9) ok_X10_valueOf (mi 2 rfl) rfl (fun hn => absurd (by decide) hn) (fun _ => ?_)
    refine ex_iconst ok_X10_valueOf (mi 3 rfl) ?_
    refine ex_goto (tgt := 13) ok_X10_valueOf (mi 4 rfl) rfl ?_
    refine ex_iret ok_X10_valueOf (mi 8 rfl) rfl ?_
    exact ⟨inlI (by decide), rfl⟩
  refine ex_goto (tgt := 42) ok_X11_vote (mi 18 rfl) rfl ?_
  refine ex_iret ok_X11_vote (mi 21 rfl) rfl ?_
  exact ⟨Or.inl ⟨rfl, inlI (by decide)⟩, kp0⟩
theorem c_voter_4_0 {G : GE} (hst : (ge_l G).stackTraces = false) {x : Nat}  : CC G 3 4 24 my_X11_voter x [.int (nI 4), .int (nI 0)] E3 0 ((-1)) := by
  intro h f
  refine ex_M_of ok_X11_voter cw_X11_voter rfl hst (Nat.le_of_ble_eq_true rfl) ?_
  refine ex_iload_n ok_X11_voter (mi 0 rfl) rfl ?_
  refine ex_bipush ok_X11_voter (mi 1 rfl) ?_
  refine ex_callSr (As := [_, _]) ok_X11_voter (mi 2 rfl) rfl (m_reqOk hst (pk_in 4 12 (by decide)) (by decide) (by decide)) rfl rfl rfl (by decide) (Nat.le_of_ble_eq_true rfl) (by decide) ?_
  refine ex_iload_n ok_X11_voter (mi 3 rfl) rfl ?_
  refine ex_iconst ok_X11_voter (mi 4 rfl) ?_
  refine ex_callSr (As := [_, _]) ok_X11_voter (mi 5 rfl) rfl (m_reqOk hst (pk_in 0 3 (by decide)) (by decide) (by decide)) rfl rfl rfl (by decide) (Nat.le_of_ble_eq_true rfl) (by decide) ?_
  refine ex_aload_n ok_X11_voter (mi 6 rfl) rfl ?_
  refine ex_getRx ok_X11_voter (mi 7 rfl) rfl rfl (fk f.1 0 rfl) (fr f.1 84 rfl) (fk f.1 63 rfl) (by decide) ?_
  refine ex_iload_n ok_X11_voter (mi 8 rfl) rfl ?_
  refine ex_aaldx (n := 3) ok_X11_voter (mi 9 rfl) (by decide) (fk f.1 63 rfl) (fn f.1 63 rfl) (pk_in 4 12 (by decide)) (fo f.2.1 16 rfl) (fk f.1 72 rfl) (by decide) ?_
  refine ex_iload_n ok_X11_voter (mi 10 rfl) rfl ?_
  refine ex_callVr (As := [_]) (v := some (.int (-1))) (g1 := h) ok_X11_voter (mi 11 rfl) rfl ?c rfl (fk f.1 72 rfl) rfl rfl (by decide) (by decide) (Nat.le_of_ble_eq_true rfl) (by decide) ?_
  case c =>
    refine ex_M_of ok_X10_tell cw_X10_tell rfl hst (Nat.le_of_ble_eq_true rfl) ?_
    refine ex_iload_n ok_X10_tell (mi 0 rfl) rfl ?_
    refine ex_lookup (tgt := 28) ok_X10_tell (mi 1 rfl) (by decide) (by decide) ?_
    refine ex_aload_n ok_X10_tell (mi 2 rfl) rfl ?_
    refine ex_getIx ok_X10_tell (mi 3 rfl) rfl rfl (fk f.1 72 rfl) (fi f.2.2.1 189 rfl) ?_
    refine ex_iret ok_X10_tell (mi 4 rfl) rfl ?_
    exact ⟨inlI (by decide), rfl⟩
  refine ex_iret ok_X11_voter (mi 12 rfl) rfl ?_
  exact ⟨Or.inl ⟨rfl, inlI (by decide)⟩, kp0⟩
theorem c_voter_4_1 {G : GE} (hst : (ge_l G).stackTraces = false) {x : Nat}  : CC G 3 4 24 my_X11_voter x [.int (nI 4), .int (nI 1)] E3 0 (nI 0) := by
  intro h f
  refine ex_M_of ok_X11_voter cw_X11_voter rfl hst (Nat.le_of_ble_eq_true rfl) ?_
  refine ex_iload_n ok_X11_voter (mi 0 rfl) rfl ?_
  refine ex_bipush ok_X11_voter (mi 1 rfl) ?_
  refine ex_callSr (As := [_, _]) ok_X11_voter (mi 2 rfl) rfl (m_reqOk hst (pk_in 4 12 (by decide)) (by decide) (by decide)) rfl rfl rfl (by decide) (Nat.le_of_ble_eq_true rfl) (by decide) ?_
  refine ex_iload_n ok_X11_voter (mi 3 rfl) rfl ?_
  refine ex_iconst ok_X11_voter (mi 4 rfl) ?_
  refine ex_callSr (As := [_, _]) ok_X11_voter (mi 5 rfl) rfl (m_reqOk hst (pk_in 1 3 (by decide)) (by decide) (by decide)) rfl rfl rfl (by decide) (Nat.le_of_ble_eq_true rfl) (by decide) ?_
  refine ex_aload_n ok_X11_voter (mi 6 rfl) rfl ?_
  refine ex_getRx ok_X11_voter (mi 7 rfl) rfl rfl (fk f.1 0 rfl) (fr f.1 84 rfl) (fk f.1 63 rfl) (by decide) ?_
  refine ex_iload_n ok_X11_voter (mi 8 rfl) rfl ?_
  refine ex_aaldx (n := 3) ok_X11_voter (mi 9 rfl) (by decide) (fk f.1 63 rfl) (fn f.1 63 rfl) (pk_in 4 12 (by decide)) (fo f.2.1 16 rfl) (fk f.1 72 rfl) (by decide) ?_
  refine ex_iload_n ok_X11_voter (mi 10 rfl) rfl ?_
  refine ex_callVr (As := [_]) (v := some (.int (nI 0))) (g1 := h) ok_X11_voter (mi 11 rfl) rfl ?c rfl (fk f.1 72 rfl) rfl rfl (by decide) (by decide) (Nat.le_of_ble_eq_true rfl) (by decide) ?_
  case c =>
    refine ex_M_of ok_X10_tell cw_X10_tell rfl hst (Nat.le_of_ble_eq_true rfl) ?_
    refine ex_iload_n ok_X10_tell (mi 0 rfl) rfl ?_
    refine ex_lookup (tgt := 33) ok_X10_tell (mi 1 rfl) (by decide) (by decide) ?_
    refine ex_aload_n ok_X10_tell (mi 5 rfl) rfl ?_
    refine ex_getIx ok_X10_tell (mi 6 rfl) rfl rfl (fk f.1 72 rfl) (fi f.2.2.1 190 rfl) ?_
    refine ex_iret ok_X10_tell (mi 7 rfl) rfl ?_
    exact ⟨inlI (by decide), rfl⟩
  refine ex_iret ok_X11_voter (mi 12 rfl) rfl ?_
  exact ⟨Or.inl ⟨rfl, inlI (by decide)⟩, kp0⟩
theorem c_voter_4_2 {G : GE} (hst : (ge_l G).stackTraces = false) {x : Nat}  : CC G 3 4 24 my_X11_voter x [.int (nI 4), .int (nI 2)] E3 0 (nI 0) := by
  intro h f
  refine ex_M_of ok_X11_voter cw_X11_voter rfl hst (Nat.le_of_ble_eq_true rfl) ?_
  refine ex_iload_n ok_X11_voter (mi 0 rfl) rfl ?_
  refine ex_bipush ok_X11_voter (mi 1 rfl) ?_
  refine ex_callSr (As := [_, _]) ok_X11_voter (mi 2 rfl) rfl (m_reqOk hst (pk_in 4 12 (by decide)) (by decide) (by decide)) rfl rfl rfl (by decide) (Nat.le_of_ble_eq_true rfl) (by decide) ?_
  refine ex_iload_n ok_X11_voter (mi 3 rfl) rfl ?_
  refine ex_iconst ok_X11_voter (mi 4 rfl) ?_
  refine ex_callSr (As := [_, _]) ok_X11_voter (mi 5 rfl) rfl (m_reqOk hst (pk_in 2 3 (by decide)) (by decide) (by decide)) rfl rfl rfl (by decide) (Nat.le_of_ble_eq_true rfl) (by decide) ?_
  refine ex_aload_n ok_X11_voter (mi 6 rfl) rfl ?_
  refine ex_getRx ok_X11_voter (mi 7 rfl) rfl rfl (fk f.1 0 rfl) (fr f.1 84 rfl) (fk f.1 63 rfl) (by decide) ?_
  refine ex_iload_n ok_X11_voter (mi 8 rfl) rfl ?_
  refine ex_aaldx (n := 3) ok_X11_voter (mi 9 rfl) (by decide) (fk f.1 63 rfl) (fn f.1 63 rfl) (pk_in 4 12 (by decide)) (fo f.2.1 16 rfl) (fk f.1 72 rfl) (by decide) ?_
  refine ex_iload_n ok_X11_voter (mi 10 rfl) rfl ?_
  refine ex_callVr (As := [_]) (v := some (.int (nI 0))) (g1 := h) ok_X11_voter (mi 11 rfl) rfl ?c rfl (fk f.1 72 rfl) rfl rfl (by decide) (by decide) (Nat.le_of_ble_eq_true rfl) (by decide) ?_
  case c =>
    refine ex_M_of ok_X10_tell cw_X10_tell rfl hst (Nat.le_of_ble_eq_true rfl) ?_
    refine ex_iload_n ok_X10_tell (mi 0 rfl) rfl ?_
    refine ex_lookup (tgt := 38) ok_X10_tell (mi 1 rfl) (by decide) (by decide) ?_
    refine ex_aload_n ok_X10_tell (mi 8 rfl) rfl ?_
    refine ex_getRx ok_X10_tell (mi 9 rfl) rfl rfl (fk f.1 72 rfl) (fr f.1 97 rfl) (fk f.1 73 rfl) (by decide) ?_
    refine ex_callSr (As := [_]) ok_X10_tell (mi 10 rfl) rfl (m_votesIn0 hst (sh_sub 877 f.1 (by decide +kernel) (by decide +kernel)) (tA_sub 877 16 ((-1)) f.2.2.2.1 (by decide +kernel))) rfl rfl rfl (by decide) (Nat.le_of_ble_eq_true rfl) (by decide) ?_
    refine ex_iret ok_X10_tell (mi 11 rfl) rfl ?_
    exact ⟨inlI (by decide), rfl⟩
  refine ex_iret ok_X11_voter (mi 12 rfl) rfl ?_
  exact ⟨Or.inl ⟨rfl, inlI (by decide)⟩, kp0⟩
theorem c_vote_4_0 {G : GE} (hst : (ge_l G).stackTraces = false) {x : Nat} {j : Nat} (hj : j < 16) : CC G 2 4 24 my_X11_vote x [.int (nI 4), .int (nI j), .int (nI 0)] E3 0 ((-1)) := by
  intro h f
  refine ex_M_of ok_X11_vote cw_X11_vote rfl hst (Nat.le_of_ble_eq_true rfl) ?_
  refine ex_iload_n ok_X11_vote (mi 0 rfl) rfl ?_
  refine ex_bipush ok_X11_vote (mi 1 rfl) ?_
  refine ex_callSr (As := [_, _]) ok_X11_vote (mi 2 rfl) rfl (m_reqOk hst (pk_in 4 12 (by decide)) (by decide) (by decide)) rfl rfl rfl (by decide) (Nat.le_of_ble_eq_true rfl) (by decide) ?_
  refine ex_iload_n ok_X11_vote (mi 3 rfl) rfl ?_
  refine ex_bipush ok_X11_vote (mi 4 rfl) ?_
  refine ex_callSr (As := [_, _]) ok_X11_vote (mi 5 rfl) rfl (m_reqOk hst (vp_in_nI hj (by decide)) (by decide) (by decide)) rfl rfl rfl (by decide) (Nat.le_of_ble_eq_true rfl) (by decide) ?_
  refine ex_aload_n ok_X11_vote (mi 6 rfl) rfl ?_
  refine ex_getRx ok_X11_vote (mi 7 rfl) rfl rfl (fk f.1 0 rfl) (fr f.1 84 rfl) (fk f.1 63 rfl) (by decide) ?_
  refine ex_iload_n ok_X11_vote (mi 8 rfl) rfl ?_
  refine ex_aaldx (n := 3) ok_X11_vote (mi 9 rfl) (by decide) (fk f.1 63 rfl) (fn f.1 63 rfl) (pk_in 4 12 (by decide)) (fo f.2.1 16 rfl) (fk f.1 72 rfl) (by decide) ?_
  refine ex_getRx ok_X11_vote (mi 10 rfl) rfl rfl (fk f.1 72 rfl) (fr f.1 97 rfl) (fk f.1 73 rfl) (by decide) ?_
  refine ex_iload_n ok_X11_vote (mi 11 rfl) rfl ?_
  refine ex_ialdx ok_X11_vote (mi 12 rfl) (Or.inl (fk f.1 73 rfl)) (fn f.1 73 rfl) (vp_in_nI hj (by decide)) (fa f.2.2.2.1 37 rfl (by rw [nI_clamp (by omega)]; exact hj)) ?_
  refine ex_istore ok_X11_vote (mi 13 rfl) ?_
  refine ex_iload_n ok_X11_vote (mi 14 rfl) rfl ?_
  refine ex_if_eq (tgt := 37) ok_X11_vote (mi 15 rfl) rfl (fun _ => ?_) (fun hn => absurd (by decide) hn)
  refine ex_iload ok_X11_vote (mi 19 rfl) rfl ?_
  refine ex_callSr (As := [_]) (v := some (.int (-1))) (g1 := h) ok_X11_vote (mi 20 rfl) rfl ?c rfl rfl rfl (by decide) (Nat.le_of_ble_eq_true rfl) (by decide) ?_
  case c =>
    refine ex_M_of ok_X10_roundOf cw_X10_roundOf rfl hst (Nat.le_of_ble_eq_true rfl) ?_
    refine ex_iload_n ok_X10_roundOf (mi 0 rfl) rfl ?_
    refine ex_iconst ok_X10_roundOf (mi 1 rfl) ?_
    refine ex_icmp_ne (tgt := 9) ok_X10_roundOf (mi 2 rfl) rfl (fun hn => absurd (by decide) hn) (fun _ => ?_)
    refine ex_iconst ok_X10_roundOf (mi 3 rfl) ?_
    refine ex_goto (tgt := 13) ok_X10_roundOf (mi 4 rfl) rfl ?_
    refine ex_iret ok_X10_roundOf (mi 8 rfl) rfl ?_
    exact ⟨inlI (by decide), rfl⟩
  refine ex_iret ok_X11_vote (mi 21 rfl) rfl ?_
  exact ⟨Or.inl ⟨rfl, inlI (by decide)⟩, kp0⟩
theorem c_vote_4_1 {G : GE} (hst : (ge_l G).stackTraces = false) {x : Nat} {j : Nat} (hj : j < 16) : CC G 2 4 24 my_X11_vote x [.int (nI 4), .int (nI j), .int (nI 1)] E3 0 ((-1)) := by
  intro h f
  refine ex_M_of ok_X11_vote cw_X11_vote rfl hst (Nat.le_of_ble_eq_true rfl) ?_
  refine ex_iload_n ok_X11_vote (mi 0 rfl) rfl ?_
  refine ex_bipush ok_X11_vote (mi 1 rfl) ?_
  refine ex_callSr (As := [_, _]) ok_X11_vote (mi 2 rfl) rfl (m_reqOk hst (pk_in 4 12 (by decide)) (by decide) (by decide)) rfl rfl rfl (by decide) (Nat.le_of_ble_eq_true rfl) (by decide) ?_
  refine ex_iload_n ok_X11_vote (mi 3 rfl) rfl ?_
  refine ex_bipush ok_X11_vote (mi 4 rfl) ?_
  refine ex_callSr (As := [_, _]) ok_X11_vote (mi 5 rfl) rfl (m_reqOk hst (vp_in_nI hj (by decide)) (by decide) (by decide)) rfl rfl rfl (by decide) (Nat.le_of_ble_eq_true rfl) (by decide) ?_
  refine ex_aload_n ok_X11_vote (mi 6 rfl) rfl ?_
  refine ex_getRx ok_X11_vote (mi 7 rfl) rfl rfl (fk f.1 0 rfl) (fr f.1 84 rfl) (fk f.1 63 rfl) (by decide) ?_
  refine ex_iload_n ok_X11_vote (mi 8 rfl) rfl ?_
  refine ex_aaldx (n := 3) ok_X11_vote (mi 9 rfl) (by decide) (fk f.1 63 rfl) (fn f.1 63 rfl) (pk_in 4 12 (by decide)) (fo f.2.1 16 rfl) (fk f.1 72 rfl) (by decide) ?_
  refine ex_getRx ok_X11_vote (mi 10 rfl) rfl rfl (fk f.1 72 rfl) (fr f.1 97 rfl) (fk f.1 73 rfl) (by decide) ?_
  refine ex_iload_n ok_X11_vote (mi 11 rfl) rfl ?_
  refine ex_ialdx ok_X11_vote (mi 12 rfl) (Or.inl (fk f.1 73 rfl)) (fn f.1 73 rfl) (vp_in_nI hj (by decide)) (fa f.2.2.2.1 37 rfl (by rw [nI_clamp (by omega)]; exact hj)) ?_
  refine ex_istore ok_X11_vote (mi 13 rfl) ?_
  refine ex_iload_n ok_X11_vote (mi 14 rfl) rfl ?_
  refine ex_if_eq (tgt := 37) ok_X11_vote (mi 15 rfl) rfl (fun hn => absurd hn (by decide)) (fun _ => ?_)
  refine ex_iload ok_X11_vote (mi 16 rfl) rfl ?_
  refine ex_callSr (As := [_]) (v := some (.int (-1))) (g1 := h) ok_X11_vote (mi 17 rfl) rfl ?c rfl rfl rfl (by decide) (Nat.le_of_ble_eq_true rfl) (by decide) ?_
  case c =>
    refine ex_M_of ok_X10_valueOf cw_X10_valueOf rfl hst (Nat.le_of_ble_eq_true rfl) ?_
    refine ex_iload_n ok_X10_valueOf (mi 0 rfl) rfl ?_
    refine ex_iconst ok_X10_valueOf (mi 1 rfl) ?_
    refine ex_icmp_ne (tgt := 9) ok_X10_valueOf (mi 2 rfl) rfl (fun hn => absurd (by decide) hn) (fun _ => ?_)
    refine ex_iconst ok_X10_valueOf (mi 3 rfl) ?_
    refine ex_goto (tgt := 13) ok_X10_valueOf (mi 4 rfl) rfl ?_
    refine ex_iret ok_X10_valueOf (mi 8 rfl) rfl ?_
    exact ⟨inlI (by decide), rfl⟩
  refine ex_goto (tgt := 42) ok_X11_vote (mi 18 rfl) rfl ?_
  refine ex_iret ok_X11_vote (mi 21 rfl) rfl ?_
  exact ⟨Or.inl ⟨rfl, inlI (by decide)⟩, kp0⟩
theorem c_voter_5_0 {G : GE} (hst : (ge_l G).stackTraces = false) {x : Nat}  : CC G 3 4 24 my_X11_voter x [.int (nI 5), .int (nI 0)] E3 0 ((-1)) := by
  intro h f
  refine ex_M_of ok_X11_voter cw_X11_voter rfl hst (Nat.le_of_ble_eq_true rfl) ?_
  refine ex_iload_n ok_X11_voter (mi 0 rfl) rfl ?_
  refine ex_bipush ok_X11_voter (mi 1 rfl) ?_
  refine ex_callSr (As := [_, _]) ok_X11_voter (mi 2 rfl) rfl (m_reqOk hst (pk_in 5 12 (by decide)) (by decide) (by decide)) rfl rfl rfl (by decide) (Nat.le_of_ble_eq_true rfl) (by decide) ?_
  refine ex_iload_n ok_X11_voter (mi 3 rfl) rfl ?_
  refine ex_iconst ok_X11_voter (mi 4 rfl) ?_
  refine ex_callSr (As := [_, _]) ok_X11_voter (mi 5 rfl) rfl (m_reqOk hst (pk_in 0 3 (by decide)) (by decide) (by decide)) rfl rfl rfl (by decide) (Nat.le_of_ble_eq_true rfl) (by decide) ?_
  refine ex_aload_n ok_X11_voter (mi 6 rfl) rfl ?_
  refine ex_getRx ok_X11_voter (mi 7 rfl) rfl rfl (fk f.1 0 rfl) (fr f.1 84 rfl) (fk f.1 63 rfl) (by decide) ?_
  refine ex_iload_n ok_X11_voter (mi 8 rfl) rfl ?_
  refine ex_aaldx (n := 3) ok_X11_voter (mi 9 rfl) (by decide) (fk f.1 63 rfl) (fn f.1 63 rfl) (pk_in 5 12 (by decide)) (fo f.2.1 17 rfl) (fk f.1 74 rfl) (by decide) ?_
  refine ex_iload_n ok_X11_voter (mi 10 rfl) rfl ?_
  refine ex_callVr (As := [_]) (v := some (.int (-1))) (g1 := h) ok_X11_voter (mi 11 rfl) rfl ?c rfl (fk f.1 74 rfl) rfl rfl (by decide) (by decide) (Nat.le_of_ble_eq_true rfl) (by decide) ?_
  case c =>
    refine ex_M_of ok_X10_tell cw_X10_tell rfl hst (Nat.le_of_ble_eq_true rfl) ?_
    refine ex_iload_n ok_X10_tell (mi 0 rfl) rfl ?_
    refine ex_lookup (tgt := 28) ok_X10_tell (mi 1 rfl) (by decide) (by decide) ?_
    refine ex_aload_n ok_X10_tell (mi 2 rfl) rfl ?_
    refine ex_getIx ok_X10_tell (mi 3 rfl) rfl rfl (fk f.1 74 rfl) (fi f.2.2.1 191 rfl) ?_
    refine ex_iret ok_X10_tell (mi 4 rfl) rfl ?_
    exact ⟨inlI (by decide), rfl⟩
  refine ex_iret ok_X11_voter (mi 12 rfl) rfl ?_
  exact ⟨Or.inl ⟨rfl, inlI (by decide)⟩, kp0⟩
theorem c_voter_5_1 {G : GE} (hst : (ge_l G).stackTraces = false) {x : Nat}  : CC G 3 4 24 my_X11_voter x [.int (nI 5), .int (nI 1)] E3 0 (nI 0) := by
  intro h f
  refine ex_M_of ok_X11_voter cw_X11_voter rfl hst (Nat.le_of_ble_eq_true rfl) ?_
  refine ex_iload_n ok_X11_voter (mi 0 rfl) rfl ?_
  refine ex_bipush ok_X11_voter (mi 1 rfl) ?_
  refine ex_callSr (As := [_, _]) ok_X11_voter (mi 2 rfl) rfl (m_reqOk hst (pk_in 5 12 (by decide)) (by decide) (by decide)) rfl rfl rfl (by decide) (Nat.le_of_ble_eq_true rfl) (by decide) ?_
  refine ex_iload_n ok_X11_voter (mi 3 rfl) rfl ?_
  refine ex_iconst ok_X11_voter (mi 4 rfl) ?_
  refine ex_callSr (As := [_, _]) ok_X11_voter (mi 5 rfl) rfl (m_reqOk hst (pk_in 1 3 (by decide)) (by decide) (by decide)) rfl rfl rfl (by decide) (Nat.le_of_ble_eq_true rfl) (by decide) ?_
  refine ex_aload_n ok_X11_voter (mi 6 rfl) rfl ?_
  refine ex_getRx ok_X11_voter (mi 7 rfl) rfl rfl (fk f.1 0 rfl) (fr f.1 84 rfl) (fk f.1 63 rfl) (by decide) ?_
  refine ex_iload_n ok_X11_voter (mi 8 rfl) rfl ?_
  refine ex_aaldx (n := 3) ok_X11_voter (mi 9 rfl) (by decide) (fk f.1 63 rfl) (fn f.1 63 rfl) (pk_in 5 12 (by decide)) (fo f.2.1 17 rfl) (fk f.1 74 rfl) (by decide) ?_
  refine ex_iload_n ok_X11_voter (mi 10 rfl) rfl ?_
  refine ex_callVr (As := [_]) (v := some (.int (nI 0))) (g1 := h) ok_X11_voter (mi 11 rfl) rfl ?c rfl (fk f.1 74 rfl) rfl rfl (by decide) (by decide) (Nat.le_of_ble_eq_true rfl) (by decide) ?_
  case c =>
    refine ex_M_of ok_X10_tell cw_X10_tell rfl hst (Nat.le_of_ble_eq_true rfl) ?_
    refine ex_iload_n ok_X10_tell (mi 0 rfl) rfl ?_
    refine ex_lookup (tgt := 33) ok_X10_tell (mi 1 rfl) (by decide) (by decide) ?_
    refine ex_aload_n ok_X10_tell (mi 5 rfl) rfl ?_
    refine ex_getIx ok_X10_tell (mi 6 rfl) rfl rfl (fk f.1 74 rfl) (fi f.2.2.1 192 rfl) ?_
    refine ex_iret ok_X10_tell (mi 7 rfl) rfl ?_
    exact ⟨inlI (by decide), rfl⟩
  refine ex_iret ok_X11_voter (mi 12 rfl) rfl ?_
  exact ⟨Or.inl ⟨rfl, inlI (by decide)⟩, kp0⟩
theorem c_voter_5_2 {G : GE} (hst : (ge_l G).stackTraces = false) {x : Nat}  : CC G 3 4 24 my_X11_voter x [.int (nI 5), .int (nI 2)] E3 0 (nI 0) := by
  intro h f
  refine ex_M_of ok_X11_voter cw_X11_voter rfl hst (Nat.le_of_ble_eq_true rfl) ?_
  refine ex_iload_n ok_X11_voter (mi 0 rfl) rfl ?_
  refine ex_bipush ok_X11_voter (mi 1 rfl) ?_
  refine ex_callSr (As := [_, _]) ok_X11_voter (mi 2 rfl) rfl (m_reqOk hst (pk_in 5 12 (by decide)) (by decide) (by decide)) rfl rfl rfl (by decide) (Nat.le_of_ble_eq_true rfl) (by decide) ?_
  refine ex_iload_n ok_X11_voter (mi 3 rfl) rfl ?_
  refine ex_iconst ok_X11_voter (mi 4 rfl) ?_
  refine ex_callSr (As := [_, _]) ok_X11_voter (mi 5 rfl) rfl (m_reqOk hst (pk_in 2 3 (by decide)) (by decide) (by decide)) rfl rfl rfl (by decide) (Nat.le_of_ble_eq_true rfl) (by decide) ?_
  refine ex_aload_n ok_X11_voter (mi 6 rfl) rfl ?_
  refine ex_getRx ok_X11_voter (mi 7 rfl) rfl rfl (fk f.1 0 rfl) (fr f.1 84 rfl) (fk f.1 63 rfl) (by decide) ?_
  refine ex_iload_n ok_X11_voter (mi 8 rfl) rfl ?_
  refine ex_aaldx (n := 3) ok_X11_voter (mi 9 rfl) (by decide) (fk f.1 63 rfl) (fn f.1 63 rfl) (pk_in 5 12 (by decide)) (fo f.2.1 17 rfl) (fk f.1 74 rfl) (by decide) ?_
  refine ex_iload_n ok_X11_voter (mi 10 rfl) rfl ?_
  refine ex_callVr (As := [_]) (v := some (.int (nI 0))) (g1 := h) ok_X11_voter (mi 11 rfl) rfl ?c rfl (fk f.1 74 rfl) rfl rfl (by decide) (by decide) (Nat.le_of_ble_eq_true rfl) (by decide) ?_
  case c =>
    refine ex_M_of ok_X10_tell cw_X10_tell rfl hst (Nat.le_of_ble_eq_true rfl) ?_
    refine ex_iload_n ok_X10_tell (mi 0 rfl) rfl ?_
    refine ex_lookup (tgt := 38) ok_X10_tell (mi 1 rfl) (by decide) (by decide) ?_
    refine ex_aload_n ok_X10_tell (mi 8 rfl) rfl ?_
    refine ex_getRx ok_X10_tell (mi 9 rfl) rfl rfl (fk f.1 74 rfl) (fr f.1 100 rfl) (fk f.1 75 rfl) (by decide) ?_
    refine ex_callSr (As := [_]) ok_X10_tell (mi 10 rfl) rfl (m_votesIn0 hst (sh_sub 879 f.1 (by decide +kernel) (by decide +kernel)) (tA_sub 879 16 ((-1)) f.2.2.2.1 (by decide +kernel))) rfl rfl rfl (by decide) (Nat.le_of_ble_eq_true rfl) (by decide) ?_
    refine ex_iret ok_X10_tell (mi 11 rfl) rfl ?_
    exact ⟨inlI (by decide), rfl⟩
  refine ex_iret ok_X11_voter (mi 12 rfl) rfl ?_
  exact ⟨Or.inl ⟨rfl, inlI (by decide)⟩, kp0⟩
theorem c_vote_5_0 {G : GE} (hst : (ge_l G).stackTraces = false) {x : Nat} {j : Nat} (hj : j < 16) : CC G 2 4 24 my_X11_vote x [.int (nI 5), .int (nI j), .int (nI 0)] E3 0 ((-1)) := by
  intro h f
  refine ex_M_of ok_X11_vote cw_X11_vote rfl hst (Nat.le_of_ble_eq_true rfl) ?_
  refine ex_iload_n ok_X11_vote (mi 0 rfl) rfl ?_
  refine ex_bipush ok_X11_vote (mi 1 rfl) ?_
  refine ex_callSr (As := [_, _]) ok_X11_vote (mi 2 rfl) rfl (m_reqOk hst (pk_in 5 12 (by decide)) (by decide) (by decide)) rfl rfl rfl (by decide) (Nat.le_of_ble_eq_true rfl) (by decide) ?_
  refine ex_iload_n ok_X11_vote (mi 3 rfl) rfl ?_
  refine ex_bipush ok_X11_vote (mi 4 rfl) ?_
  refine ex_callSr (As := [_, _]) ok_X11_vote (mi 5 rfl) rfl (m_reqOk hst (vp_in_nI hj (by decide)) (by decide) (by decide)) rfl rfl rfl (by decide) (Nat.le_of_ble_eq_true rfl) (by decide) ?_
  refine ex_aload_n ok_X11_vote (mi 6 rfl) rfl ?_
  refine ex_getRx ok_X11_vote (mi 7 rfl) rfl rfl (fk f.1 0 rfl) (fr f.1 84 rfl) (fk f.1 63 rfl) (by decide) ?_
  refine ex_iload_n ok_X11_vote (mi 8 rfl) rfl ?_
  refine ex_aaldx (n := 3) ok_X11_vote (mi 9 rfl) (by decide) (fk f.1 63 rfl) (fn f.1 63 rfl) (pk_in 5 12 (by decide)) (fo f.2.1 17 rfl) (fk f.1 74 rfl) (by decide) ?_
  refine ex_getRx ok_X11_vote (mi 10 rfl) rfl rfl (fk f.1 74 rfl) (fr f.1 100 rfl) (fk f.1 75 rfl) (by decide) ?_
  refine ex_iload_n ok_X11_vote (mi 11 rfl) rfl ?_
  refine ex_ialdx ok_X11_vote (mi 12 rfl) (Or.inl (fk f.1 75 rfl)) (fn f.1 75 rfl) (vp_in_nI hj (by decide)) (fa f.2.2.2.1 38 rfl (by rw [nI_clamp (by omega)]; exact hj)) ?_
  refine ex_istore ok_X11_vote (mi 13 rfl) ?_
  refine ex_iload_n ok_X11_vote (mi 14 rfl) rfl ?_
  refine ex_if_eq (tgt := 37) ok_X11_vote (mi 15 rfl) rfl (fun _ => ?_) (fun hn => absurd (by decide) hn)
  refine ex_iload ok_X11_vote (mi 19 rfl) rfl ?_
  refine ex_callSr (As := [_]) (v := some (.int (-1))) (g1 := h) ok_X11_vote (mi 20 rfl) rfl ?c rfl rfl rfl (by decide) (Nat.le_of_ble_eq_true rfl) (by decide) ?_
  case c =>
    refine ex_M_of ok_X10_roundOf cw_X10_roundOf rfl hst (Nat.le_of_ble_eq_true rfl) ?_
    refine ex_iload_n ok_X10_roundOf (mi 0 rfl) rfl ?_
    refine ex_iconst ok_X10_roundOf (mi 1 rfl) ?_
    refine ex_icmp_ne (tgt := 9) ok_X10_roundOf (mi 2 rfl) rfl (fun hn => absurd (by decide) hn) (fun _ => ?_)
    refine ex_iconst ok_X10_roundOf (mi 3 rfl) ?_
    refine ex_goto (tgt := 13) ok_X10_roundOf (mi 4 rfl) rfl ?_
    refine ex_iret ok_X10_roundOf (mi 8 rfl) rfl ?_
    exact ⟨inlI (by decide), rfl⟩
  refine ex_iret ok_X11_vote (mi 21 rfl) rfl ?_
  exact ⟨Or.inl ⟨rfl, inlI (by decide)⟩, kp0⟩
theorem c_vote_5_1 {G : GE} (hst : (ge_l G).stackTraces = false) {x : Nat} {j : Nat} (hj : j < 16) : CC G 2 4 24 my_X11_vote x [.int (nI 5), .int (nI j), .int (nI 1)] E3 0 ((-1)) := by
  intro h f
  refine ex_M_of ok_X11_vote cw_X11_vote rfl hst (Nat.le_of_ble_eq_true rfl) ?_
  refine ex_iload_n ok_X11_vote (mi 0 rfl) rfl ?_
  refine ex_bipush ok_X11_vote (mi 1 rfl) ?_
  refine ex_callSr (As := [_, _]) ok_X11_vote (mi 2 rfl) rfl (m_reqOk hst (pk_in 5 12 (by decide)) (by decide) (by decide)) rfl rfl rfl (by decide) (Nat.le_of_ble_eq_true rfl) (by decide) ?_
  refine ex_iload_n ok_X11_vote (mi 3 rfl) rfl ?_
  refine ex_bipush ok_X11_vote (mi 4 rfl) ?_
  refine ex_callSr (As := [_, _]) ok_X11_vote (mi 5 rfl) rfl (m_reqOk hst (vp_in_nI hj (by decide)) (by decide) (by decide)) rfl rfl rfl (by decide) (Nat.le_of_ble_eq_true rfl) (by decide) ?_
  refine ex_aload_n ok_X11_vote (mi 6 rfl) rfl ?_
  refine ex_getRx ok_X11_vote (mi 7 rfl) rfl rfl (fk f.1 0 rfl) (fr f.1 84 rfl) (fk f.1 63 rfl) (by decide) ?_
  refine ex_iload_n ok_X11_vote (mi 8 rfl) rfl ?_
  refine ex_aaldx (n := 3) ok_X11_vote (mi 9 rfl) (by decide) (fk f.1 63 rfl) (fn f.1 63 rfl) (pk_in 5 12 (by decide)) (fo f.2.1 17 rfl) (fk f.1 74 rfl) (by decide) ?_
  refine ex_getRx ok_X11_vote (mi 10 rfl) rfl rfl (fk f.1 74 rfl) (fr f.1 100 rfl) (fk f.1 75 rfl) (by decide) ?_
  refine ex_iload_n ok_X11_vote (mi 11 rfl) rfl ?_
  refine ex_ialdx ok_X11_vote (mi 12 rfl) (Or.inl (fk f.1 75 rfl)) (fn f.1 75 rfl) (vp_in_nI hj (by decide)) (fa f.2.2.2.1 38 rfl (by rw [nI_clamp (by omega)]; exact hj)) ?_
  refine ex_istore ok_X11_vote (mi 13 rfl) ?_
  refine ex_iload_n ok_X11_vote (mi 14 rfl) rfl ?_
  refine ex_if_eq (tgt := 37) ok_X11_vote (mi 15 rfl) rfl (fun hn => absurd hn (by decide)) (fun _ => ?_)
  refine ex_iload ok_X11_vote (mi 16 rfl) rfl ?_
  refine ex_callSr (As := [_]) (v := some (.int (-1))) (g1 := h) ok_X11_vote (mi 17 rfl) rfl ?c rfl rfl rfl (by decide) (Nat.le_of_ble_eq_true rfl) (by decide) ?_
  case c =>
    refine ex_M_of ok_X10_valueOf cw_X10_valueOf rfl hst (Nat.le_of_ble_eq_true rfl) ?_
    refine ex_iload_n ok_X10_valueOf (mi 0 rfl) rfl ?_
    refine ex_iconst ok_X10_valueOf (mi 1 rfl) ?_
    refine ex_icmp_ne (tgt := 9) ok_X10_valueOf (mi 2 rfl) rfl (fun hn => absurd (by decide) hn) (fun _ => ?_)
    refine ex_iconst ok_X10_valueOf (mi 3 rfl) ?_
    refine ex_goto (tgt := 13) ok_X10_valueOf (mi 4 rfl) rfl ?_
    refine ex_iret ok_X10_valueOf (mi 8 rfl) rfl ?_
    exact ⟨inlI (by decide), rfl⟩
  refine ex_goto (tgt := 42) ok_X11_vote (mi 18 rfl) rfl ?_
  refine ex_iret ok_X11_vote (mi 21 rfl) rfl ?_
  exact ⟨Or.inl ⟨rfl, inlI (by decide)⟩, kp0⟩
theorem c_voter_6_0 {G : GE} (hst : (ge_l G).stackTraces = false) {x : Nat}  : CC G 3 4 24 my_X11_voter x [.int (nI 6), .int (nI 0)] E3 0 ((-1)) := by
  intro h f
  refine ex_M_of ok_X11_voter cw_X11_voter rfl hst (Nat.le_of_ble_eq_true rfl) ?_
  refine ex_iload_n ok_X11_voter (mi 0 rfl) rfl ?_
  refine ex_bipush ok_X11_voter (mi 1 rfl) ?_
  refine ex_callSr (As := [_, _]) ok_X11_voter (mi 2 rfl) rfl (m_reqOk hst (pk_in 6 12 (by decide)) (by decide) (by decide)) rfl rfl rfl (by decide) (Nat.le_of_ble_eq_true rfl) (by decide) ?_
  refine ex_iload_n ok_X11_voter (mi 3 rfl) rfl ?_
  refine ex_iconst ok_X11_voter (mi 4 rfl) ?_
  refine ex_callSr (As := [_, _]) ok_X11_voter (mi 5 rfl) rfl (m_reqOk hst (pk_in 0 3 (by decide)) (by decide) (by decide)) rfl rfl rfl (by decide) (Nat.le_of_ble_eq_true rfl) (by decide) ?_
  refine ex_aload_n ok_X11_voter (mi 6 rfl) rfl ?_
  refine ex_getRx ok_X11_voter (mi 7 rfl) rfl rfl (fk f.1 0 rfl) (fr f.1 84 rfl) (fk f.1 63 rfl) (by decide) ?_
  refine ex_iload_n ok_X11_voter (mi 8 rfl) rfl ?_
  refine ex_aaldx (n := 3) ok_X11_voter (mi 9 rfl) (by decide) (fk f.1 63 rfl) (fn f.1 63 rfl) (pk_in 6 12 (by decide)) (fo f.2.1 18 rfl) (fk f.1 76 rfl) (by decide) ?_
  refine ex_iload_n ok_X11_voter (mi 10 rfl) rfl ?_
  refine ex_callVr (As := [_]) (v := some (.int (-1))) (g1 := h) ok_X11_voter (mi 11 rfl) rfl ?c rfl (fk f.1 76 rfl) rfl rfl (by decide) (by decide) (Nat.le_of_ble_eq_true rfl) (by decide) ?_
  case c =>
    refine ex_M_of ok_X10_tell cw_X10_tell rfl hst (Nat.le_of_ble_eq_true rfl) ?_
    refine ex_iload_n ok_X10_tell (mi 0 rfl) rfl ?_
    refine ex_lookup (tgt := 28) ok_X10_tell (mi 1 rfl) (by decide) (by decide) ?_
    refine ex_aload_n ok_X10_tell (mi 2 rfl) rfl ?_
    refine ex_getIx ok_X10_tell (mi 3 rfl) rfl rfl (fk f.1 76 rfl) (fi f.2.2.1 193 rfl) ?_
    refine ex_iret ok_X10_tell (mi 4 rfl) rfl ?_
    exact ⟨inlI (by decide), rfl⟩
  refine ex_iret ok_X11_voter (mi 12 rfl) rfl ?_
  exact ⟨Or.inl ⟨rfl, inlI (by decide)⟩, kp0⟩
theorem c_voter_6_1 {G : GE} (hst : (ge_l G).stackTraces = false) {x : Nat}  : CC G 3 4 24 my_X11_voter x [.int (nI 6), .int (nI 1)] E3 0 (nI 0) := by
  intro h f
  refine ex_M_of ok_X11_voter cw_X11_voter rfl hst (Nat.le_of_ble_eq_true rfl) ?_
  refine ex_iload_n ok_X11_voter (mi 0 rfl) rfl ?_
  refine ex_bipush ok_X11_voter (mi 1 rfl) ?_
  refine ex_callSr (As := [_, _]) ok_X11_voter (mi 2 rfl) rfl (m_reqOk hst (pk_in 6 12 (by decide)) (by decide) (by decide)) rfl rfl rfl (by decide) (Nat.le_of_ble_eq_true rfl) (by decide) ?_
  refine ex_iload_n ok_X11_voter (mi 3 rfl) rfl ?_
  refine ex_iconst ok_X11_voter (mi 4 rfl) ?_
  refine ex_callSr (As := [_, _]) ok_X11_voter (mi 5 rfl) rfl (m_reqOk hst (pk_in 1 3 (by decide)) (by decide) (by decide)) rfl rfl rfl (by decide) (Nat.le_of_ble_eq_true rfl) (by decide) ?_
  refine ex_aload_n ok_X11_voter (mi 6 rfl) rfl ?_
  refine ex_getRx ok_X11_voter (mi 7 rfl) rfl rfl (fk f.1 0 rfl) (fr f.1 84 rfl) (fk f.1 63 rfl) (by decide) ?_
  refine ex_iload_n ok_X11_voter (mi 8 rfl) rfl ?_
  refine ex_aaldx (n := 3) ok_X11_voter (mi 9 rfl) (by decide) (fk f.1 63 rfl) (fn f.1 63 rfl) (pk_in 6 12 (by decide)) (fo f.2.1 18 rfl) (fk f.1 76 rfl) (by decide) ?_
  refine ex_iload_n ok_X11_voter (mi 10 rfl) rfl ?_
  refine ex_callVr (As := [_]) (v := some (.int (nI 0))) (g1 := h) ok_X11_voter (mi 11 rfl) rfl ?c rfl (fk f.1 76 rfl) rfl rfl (by decide) (by decide) (Nat.le_of_ble_eq_true rfl) (by decide) ?_
  case c =>
    refine ex_M_of ok_X10_tell cw_X10_tell rfl hst (Nat.le_of_ble_eq_true rfl) ?_
    refine ex_iload_n ok_X10_tell (mi 0 rfl) rfl ?_
    refine ex_lookup (tgt := 33) ok_X10_tell (mi 1 rfl) (by decide) (by decide) ?_
    refine ex_aload_n ok_X10_tell (mi 5 rfl) rfl ?_
    refine ex_getIx ok_X10_tell (mi 6 rfl) rfl rfl (fk f.1 76 rfl) (fi f.2.2.1 194 rfl) ?_
    refine ex_iret ok_X10_tell (mi 7 rfl) rfl ?_
    exact ⟨inlI (by decide), rfl⟩
  refine ex_iret ok_X11_voter (mi 12 rfl) rfl ?_
  exact ⟨Or.inl ⟨rfl, inlI (by decide)⟩, kp0⟩
theorem c_voter_6_2 {G : GE} (hst : (ge_l G).stackTraces = false) {x : Nat}  : CC G 3 4 24 my_X11_voter x [.int (nI 6), .int (nI 2)] E3 0 (nI 0) := by
  intro h f
  refine ex_M_of ok_X11_voter cw_X11_voter rfl hst (Nat.le_of_ble_eq_true rfl) ?_
  refine ex_iload_n ok_X11_voter (mi 0 rfl) rfl ?_
  refine ex_bipush ok_X11_voter (mi 1 rfl) ?_
  refine ex_callSr (As := [_, _]) ok_X11_voter (mi 2 rfl) rfl (m_reqOk hst (pk_in 6 12 (by decide)) (by decide) (by decide)) rfl rfl rfl (by decide) (Nat.le_of_ble_eq_true rfl) (by decide) ?_
  refine ex_iload_n ok_X11_voter (mi 3 rfl) rfl ?_
  refine ex_iconst ok_X11_voter (mi 4 rfl) ?_
  refine ex_callSr (As := [_, _]) ok_X11_voter (mi 5 rfl) rfl (m_reqOk hst (pk_in 2 3 (by decide)) (by decide) (by decide)) rfl rfl rfl (by decide) (Nat.le_of_ble_eq_true rfl) (by decide) ?_
  refine ex_aload_n ok_X11_voter (mi 6 rfl) rfl ?_
  refine ex_getRx ok_X11_voter (mi 7 rfl) rfl rfl (fk f.1 0 rfl) (fr f.1 84 rfl) (fk f.1 63 rfl) (by decide) ?_
  refine ex_iload_n ok_X11_voter (mi 8 rfl) rfl ?_
  refine ex_aaldx (n := 3) ok_X11_voter (mi 9 rfl) (by decide) (fk f.1 63 rfl) (fn f.1 63 rfl) (pk_in 6 12 (by decide)) (fo f.2.1 18 rfl) (fk f.1 76 rfl) (by decide) ?_
  refine ex_iload_n ok_X11_voter (mi 10 rfl) rfl ?_
  refine ex_callVr (As := [_]) (v := some (.int (nI 0))) (g1 := h) ok_X11_voter (mi 11 rfl) rfl ?c rfl (fk f.1 76 rfl) rfl rfl (by decide) (by decide) (Nat.le_of_ble_eq_true rfl) (by decide) ?_
  case c =>
    refine ex_M_of ok_X10_tell cw_X10_tell rfl hst (Nat.le_of_ble_eq_true rfl) ?_
    refine ex_iload_n ok_X10_tell (mi 0 rfl) rfl ?_
    refine ex_lookup (tgt := 38) ok_X10_tell (mi 1 rfl) (by decide) (by decide) ?_
    refine ex_aload_n ok_X10_tell (mi 8 rfl) rfl ?_
    refine ex_getRx ok_X10_tell (mi 9 rfl) rfl rfl (fk f.1 76 rfl) (fr f.1 103 rfl) (fk f.1 77 rfl) (by decide) ?_
    refine ex_callSr (As := [_]) ok_X10_tell (mi 10 rfl) rfl (m_votesIn0 hst (sh_sub 881 f.1 (by decide +kernel) (by decide +kernel)) (tA_sub 881 16 ((-1)) f.2.2.2.1 (by decide +kernel))) rfl rfl rfl (by decide) (Nat.le_of_ble_eq_true rfl) (by decide) ?_
    refine ex_iret ok_X10_tell (mi 11 rfl) rfl ?_
    exact ⟨inlI (by decide), rfl⟩
  refine ex_iret ok_X11_voter (mi 12 rfl) rfl ?_
  exact ⟨Or.inl ⟨rfl, inlI (by decide)⟩, kp0⟩
theorem c_vote_6_0 {G : GE} (hst : (ge_l G).stackTraces = false) {x : Nat} {j : Nat} (hj : j < 16) : CC G 2 4 24 my_X11_vote x [.int (nI 6), .int (nI j), .int (nI 0)] E3 0 ((-1)) := by
  intro h f
  refine ex_M_of ok_X11_vote cw_X11_vote rfl hst (Nat.le_of_ble_eq_true rfl) ?_
  refine ex_iload_n ok_X11_vote (mi 0 rfl) rfl ?_
  refine ex_bipush ok_X11_vote (mi 1 rfl) ?_
  refine ex_callSr (As := [_, _]) ok_X11_vote (mi 2 rfl) rfl (m_reqOk hst (pk_in 6 12 (by decide)) (by decide) (by decide)) rfl rfl rfl (by decide) (Nat.le_of_ble_eq_true rfl) (by decide) ?_
  refine ex_iload_n ok_X11_vote (mi 3 rfl) rfl ?_
  refine ex_bipush ok_X11_vote (mi 4 rfl) ?_
  refine ex_callSr (As := [_, _]) ok_X11_vote (mi 5 rfl) rfl (m_reqOk hst (vp_in_nI hj (by decide)) (by decide) (by decide)) rfl rfl rfl (by decide) (Nat.le_of_ble_eq_true rfl) (by decide) ?_
  refine ex_aload_n ok_X11_vote (mi 6 rfl) rfl ?_
  refine ex_getRx ok_X11_vote (mi 7 rfl) rfl rfl (fk f.1 0 rfl) (fr f.1 84 rfl) (fk f.1 63 rfl) (by decide) ?_
  refine ex_iload_n ok_X11_vote (mi 8 rfl) rfl ?_
  refine ex_aaldx (n := 3) ok_X11_vote (mi 9 rfl) (by decide) (fk f.1 63 rfl) (fn f.1 63 rfl) (pk_in 6 12 (by decide)) (fo f.2.1 18 rfl) (fk f.1 76 rfl) (by decide) ?_
  refine ex_getRx ok_X11_vote (mi 10 rfl) rfl rfl (fk f.1 76 rfl) (fr f.1 103 rfl) (fk f.1 77 rfl) (by decide) ?_
  refine ex_iload_n ok_X11_vote (mi 11 rfl) rfl ?_
  refine ex_ialdx ok_X11_vote (mi 12 rfl) (Or.inl (fk f.1 77 rfl)) (fn f.1 77 rfl) (vp_in_nI hj (by decide)) (fa f.2.2.2.1 39 rfl (by rw [nI_clamp (by omega)]; exact hj)) ?_
  refine ex_istore ok_X11_vote (mi 13 rfl) ?_
  refine ex_iload_n ok_X11_vote (mi 14 rfl) rfl ?_
  refine ex_if_eq (tgt := 37) ok_X11_vote (mi 15 rfl) rfl (fun _ => ?_) (fun hn => absurd (by decide) hn)
  refine ex_iload ok_X11_vote (mi 19 rfl) rfl ?_
  refine ex_callSr (As := [_]) (v := some (.int (-1))) (g1 := h) ok_X11_vote (mi 20 rfl) rfl ?c rfl rfl rfl (by decide) (Nat.le_of_ble_eq_true rfl) (by decide) ?_
  case c =>
    refine ex_M_of ok_X10_roundOf cw_X10_roundOf rfl hst (Nat.le_of_ble_eq_true rfl) ?_
    refine ex_iload_n ok_X10_roundOf (mi 0 rfl) rfl ?_
    refine ex_iconst ok_X10_roundOf (mi 1 rfl) ?_
    refine ex_icmp_ne (tgt := 9) ok_X10_roundOf (mi 2 rfl) rfl (fun hn => absurd (by decide) hn) (fun _ => ?_)
    refine ex_iconst ok_X10_roundOf (mi 3 rfl) ?_
    refine ex_goto (tgt := 13) ok_X10_roundOf (mi 4 rfl) rfl ?_
    refine ex_iret ok_X10_roundOf (mi 8 rfl) rfl ?_
    exact ⟨inlI (by decide), rfl⟩
  refine ex_iret ok_X11_vote (mi 21 rfl) rfl ?_
  exact ⟨Or.inl ⟨rfl, inlI (by decide)⟩, kp0⟩
theorem c_vote_6_1 {G : GE} (hst : (ge_l G).stackTraces = false) {x : Nat} {j : Nat} (hj : j < 16) : CC G 2 4 24 my_X11_vote x [.int (nI 6), .int (nI j), .int (nI 1)] E3 0 ((-1)) := by
  intro h f
  refine ex_M_of ok_X11_vote cw_X11_vote rfl hst (Nat.le_of_ble_eq_true rfl) ?_
  refine ex_iload_n ok_X11_vote (mi 0 rfl) rfl ?_
  refine ex_bipush ok_X11_vote (mi 1 rfl) ?_
  refine ex_callSr (As := [_, _]) ok_X11_vote (mi 2 rfl) rfl (m_reqOk hst (pk_in 6 12 (by decide)) (by decide) (by decide)) rfl rfl rfl (by decide) (Nat.le_of_ble_eq_true rfl) (by decide) ?_
  refine ex_iload_n ok_X11_vote (mi 3 rfl) rfl ?_
  refine ex_bipush ok_X11_vote (mi 4 rfl) ?_
  refine ex_callSr (As := [_, _]) ok_X11_vote (mi 5 rfl) rfl (m_reqOk hst (vp_in_nI hj (by decide)) (by decide) (by decide)) rfl rfl rfl (by decide) (Nat.le_of_ble_eq_true rfl) (by decide) ?_
  refine ex_aload_n ok_X11_vote (mi 6 rfl) rfl ?_
  refine ex_getRx ok_X11_vote (mi 7 rfl) rfl rfl (fk f.1 0 rfl) (fr f.1 84 rfl) (fk f.1 63 rfl) (by decide) ?_
  refine ex_iload_n ok_X11_vote (mi 8 rfl) rfl ?_
  refine ex_aaldx (n := 3) ok_X11_vote (mi 9 rfl) (by decide) (fk f.1 63 rfl) (fn f.1 63 rfl) (pk_in 6 12 (by decide)) (fo f.2.1 18 rfl) (fk f.1 76 rfl) (by decide) ?_
  refine ex_getRx ok_X11_vote (mi 10 rfl) rfl rfl (fk f.1 76 rfl) (fr f.1 103 rfl) (fk f.1 77 rfl) (by decide) ?_
  refine ex_iload_n ok_X11_vote (mi 11 rfl) rfl ?_
  refine ex_ialdx ok_X11_vote (mi 12 rfl) (Or.inl (fk f.1 77 rfl)) (fn f.1 77 rfl) (vp_in_nI hj (by decide)) (fa f.2.2.2.1 39 rfl (by rw [nI_clamp (by omega)]; exact hj)) ?_
  refine ex_istore ok_X11_vote (mi 13 rfl) ?_
  refine ex_iload_n ok_X11_vote (mi 14 rfl) rfl ?_
  refine ex_if_eq (tgt := 37) ok_X11_vote (mi 15 rfl) rfl (fun hn => absurd hn (by decide)) (fun _ => ?_)
  refine ex_iload ok_X11_vote (mi 16 rfl) rfl ?_
  refine ex_callSr (As := [_]) (v := some (.int (-1))) (g1 := h) ok_X11_vote (mi 17 rfl) rfl ?c rfl rfl rfl (by decide) (Nat.le_of_ble_eq_true rfl) (by decide) ?_
  case c =>
    refine ex_M_of ok_X10_valueOf cw_X10_valueOf rfl hst (Nat.le_of_ble_eq_true rfl) ?_
    refine ex_iload_n ok_X10_valueOf (mi 0 rfl) rfl ?_
    refine ex_iconst ok_X10_valueOf (mi 1 rfl) ?_
    refine ex_icmp_ne (tgt := 9) ok_X10_valueOf (mi 2 rfl) rfl (fun hn => absurd (by decide) hn) (fun _ => ?_)
    refine ex_iconst ok_X10_valueOf (mi 3 rfl) ?_
    refine ex_goto (tgt := 13) ok_X10_valueOf (mi 4 rfl) rfl ?_
    refine ex_iret ok_X10_valueOf (mi 8 rfl) rfl ?_
    exact ⟨inlI (by decide), rfl⟩
  refine ex_goto (tgt := 42) ok_X11_vote (mi 18 rfl) rfl ?_
  refine ex_iret ok_X11_vote (mi 21 rfl) rfl ?_
  exact ⟨Or.inl ⟨rfl, inlI (by decide)⟩, kp0⟩
theorem c_voter_7_0 {G : GE} (hst : (ge_l G).stackTraces = false) {x : Nat}  : CC G 3 4 24 my_X11_voter x [.int (nI 7), .int (nI 0)] E3 0 ((-1)) := by
  intro h f
  refine ex_M_of ok_X11_voter cw_X11_voter rfl hst (Nat.le_of_ble_eq_true rfl) ?_
  refine ex_iload_n ok_X11_voter (mi 0 rfl) rfl ?_
  refine ex_bipush ok_X11_voter (mi 1 rfl) ?_
  refine ex_callSr (As := [_, _]) ok_X11_voter (mi 2 rfl) rfl (m_reqOk hst (pk_in 7 12 (by decide)) (by decide) (by decide)) rfl rfl rfl (by decide) (Nat.le_of_ble_eq_true rfl) (by decide) ?_
  refine ex_iload_n ok_X11_voter (mi 3 rfl) rfl ?_
  refine ex_iconst ok_X11_voter (mi 4 rfl) ?_
  refine ex_callSr (As := [_, _]) ok_X11_voter (mi 5 rfl) rfl (m_reqOk hst (pk_in 0 3 (by decide)) (by decide) (by decide)) rfl rfl rfl (by decide) (Nat.le_of_ble_eq_true rfl) (by decide) ?_
  refine ex_aload_n ok_X11_voter (mi 6 rfl) rfl ?_
  refine ex_getRx ok_X11_voter (mi 7 rfl) rfl rfl (fk f.1 0 rfl) (fr f.1 84 rfl) (fk f.1 63 rfl) (by decide) ?_
  refine ex_iload_n ok_X11_voter (mi 8 rfl) rfl ?_
  refine ex_aaldx (n := 3) ok_X11_voter (mi 9 rfl) (by decide) (fk f.1 63 rfl) (fn f.1 63 rfl) (pk_in 7 12 (by decide)) (fo f.2.1 19 rfl) (fk f.1 78 rfl) (by decide) ?_
  refine ex_iload_n ok_X11_voter (mi 10 rfl) rfl ?_
  refine ex_callVr (As := [_]) (v := some (.int (-1))) (g1 := h) ok_X11_voter (mi 11 rfl) rfl ?c rfl (fk f.1 78 rfl) rfl rfl (by decide) (by decide) (Nat.le_of_ble_eq_true rfl) (by decide) ?_
  case c =>
    refine ex_M_of ok_X10_tell cw_X10_tell rfl hst (Nat.le_of_ble_eq_true rfl) ?_
    refine ex_iload_n ok_X10_tell (mi 0 rfl) rfl ?_
    refine ex_lookup (tgt := 28) ok_X10_tell (mi 1 rfl) (by decide) (by decide) ?_
    refine ex_aload_n ok_X10_tell (mi 2 rfl) rfl ?_
    refine ex_getIx ok_X10_tell (mi 3 rfl) rfl rfl (fk f.1 78 rfl) (fi f.2.2.1 195 rfl) ?_
    refine ex_iret ok_X10_tell (mi 4 rfl) rfl ?_
    exact ⟨inlI (by decide), rfl⟩
  refine ex_iret ok_X11_voter (mi 12 rfl) rfl ?_
  exact ⟨Or.inl ⟨rfl, inlI (by decide)⟩, kp0⟩
theorem c_voter_7_1 {G : GE} (hst : (ge_l G).stackTraces = false) {x : Nat}  : CC G 3 4 24 my_X11_voter x [.int (nI 7), .int (nI 1)] E3 0 (nI 0) := by
  intro h f
  refine ex_M_of ok_X11_voter cw_X11_voter rfl hst (Nat.le_of_ble_eq_true rfl) ?_
  refine ex_iload_n ok_X11_voter (mi 0 rfl) rfl ?_
  refine ex_bipush ok_X11_voter (mi 1 rfl) ?_
  refine ex_callSr (As := [_, _]) ok_X11_voter (mi 2 rfl) rfl (m_reqOk hst (pk_in 7 12 (by decide)) (by decide) (by decide)) rfl rfl rfl (by decide) (Nat.le_of_ble_eq_true rfl) (by decide) ?_
  refine ex_iload_n ok_X11_voter (mi 3 rfl) rfl ?_
  refine ex_iconst ok_X11_voter (mi 4 rfl) ?_
  refine ex_callSr (As := [_, _]) ok_X11_voter (mi 5 rfl) rfl (m_reqOk hst (pk_in 1 3 (by decide)) (by decide) (by decide)) rfl rfl rfl (by decide) (Nat.le_of_ble_eq_true rfl) (by decide) ?_
  refine ex_aload_n ok_X11_voter (mi 6 rfl) rfl ?_
  refine ex_getRx ok_X11_voter (mi 7 rfl) rfl rfl (fk f.1 0 rfl) (fr f.1 84 rfl) (fk f.1 63 rfl) (by decide) ?_
  refine ex_iload_n ok_X11_voter (mi 8 rfl) rfl ?_
  refine ex_aaldx (n := 3) ok_X11_voter (mi 9 rfl) (by decide) (fk f.1 63 rfl) (fn f.1 63 rfl) (pk_in 7 12 (by decide)) (fo f.2.1 19 rfl) (fk f.1 78 rfl) (by decide) ?_
  refine ex_iload_n ok_X11_voter (mi 10 rfl) rfl ?_
  refine ex_callVr (As := [_]) (v := some (.int (nI 0))) (g1 := h) ok_X11_voter (mi 11 rfl) rfl ?c rfl (fk f.1 78 rfl) rfl rfl (by decide) (by decide) (Nat.le_of_ble_eq_true rfl) (by decide) ?_
  case c =>
    refine ex_M_of ok_X10_tell cw_X10_tell rfl hst (Nat.le_of_ble_eq_true rfl) ?_
    refine ex_iload_n ok_X10_tell (mi 0 rfl) rfl ?_
    refine ex_lookup (tgt := 33) ok_X10_tell (mi 1 rfl) (by decide) (by decide) ?_
    refine ex_aload_n ok_X10_tell (mi 5 rfl) rfl ?_
    refine ex_getIx ok_X10_tell (mi 6 rfl) rfl rfl (fk f.1 78 rfl) (fi f.2.2.1 196 rfl) ?_
    refine ex_iret ok_X10_tell (mi 7 rfl) rfl ?_
    exact ⟨inlI (by decide), rfl⟩
  refine ex_iret ok_X11_voter (mi 12 rfl) rfl ?_
  exact ⟨Or.inl ⟨rfl, inlI (by decide)⟩, kp0⟩
