/-! ===== who is up, by sort; a message brought ===== -/
theorem m_nodes0 {G : GE} (hst : (ge_l G).stackTraces = false) {h : GT} : ex_M G 1 0 0 my_X11_nodesOf [.int (nI 0)] h (rv (some (.int (nI 3))) h) := by
  refine ex_M_of ok_X11_nodesOf cw_X11_nodesOf rfl hst (Nat.le_of_ble_eq_true rfl) ?_
  refine ex_iload_n ok_X11_nodesOf (mi 0 rfl) rfl ?_
  refine ex_tblk (tgt := 32) ok_X11_nodesOf (mi 1 rfl) (by decide) (by decide) (by decide) (by decide) ?_
  refine ex_iconst ok_X11_nodesOf (mi 2 rfl) ?_
  refine ex_iret ok_X11_nodesOf (mi 3 rfl) rfl ?_
  exact ⟨inlI (by decide), rfl⟩
theorem s_nodes0 {G : GE} (hst : (ge_l G).stackTraces = false) {g : GT} : ex_M G 1 0 0 my_X11_nodesOf [.int (nI 0)] g (SVp g (fun v => v = some (.int (nI 3)))) := ex_M.mono (m_nodes0 hst) (fun r h q => ⟨_, q.1, rfl, q.2⟩)
theorem m_nodes1 {G : GE} (hst : (ge_l G).stackTraces = false) {h : GT} : ex_M G 1 0 0 my_X11_nodesOf [.int (nI 1)] h (rv (some (.int (nI 9))) h) := by
  refine ex_M_of ok_X11_nodesOf cw_X11_nodesOf rfl hst (Nat.le_of_ble_eq_true rfl) ?_
  refine ex_iload_n ok_X11_nodesOf (mi 0 rfl) rfl ?_
  refine ex_tblk (tgt := 34) ok_X11_nodesOf (mi 1 rfl) (by decide) (by decide) (by decide) (by decide) ?_
  refine ex_bipush ok_X11_nodesOf (mi 4 rfl) ?_
  refine ex_iret ok_X11_nodesOf (mi 5 rfl) rfl ?_
  exact ⟨inlI (by decide), rfl⟩
theorem s_nodes1 {G : GE} (hst : (ge_l G).stackTraces = false) {g : GT} : ex_M G 1 0 0 my_X11_nodesOf [.int (nI 1)] g (SVp g (fun v => v = some (.int (nI 9)))) := ex_M.mono (m_nodes1 hst) (fun r h q => ⟨_, q.1, rfl, q.2⟩)
theorem m_nodes2 {G : GE} (hst : (ge_l G).stackTraces = false) {h : GT} : ex_M G 1 0 0 my_X11_nodesOf [.int (nI 2)] h (rv (some (.int (nI 12))) h) := by
  refine ex_M_of ok_X11_nodesOf cw_X11_nodesOf rfl hst (Nat.le_of_ble_eq_true rfl) ?_
  refine ex_iload_n ok_X11_nodesOf (mi 0 rfl) rfl ?_
  refine ex_tblk (tgt := 37) ok_X11_nodesOf (mi 1 rfl) (by decide) (by decide) (by decide) (by decide) ?_
  refine ex_bipush ok_X11_nodesOf (mi 6 rfl) ?_
  refine ex_iret ok_X11_nodesOf (mi 7 rfl) rfl ?_
  exact ⟨inlI (by decide), rfl⟩
theorem s_nodes2 {G : GE} (hst : (ge_l G).stackTraces = false) {g : GT} : ex_M G 1 0 0 my_X11_nodesOf [.int (nI 2)] g (SVp g (fun v => v = some (.int (nI 12)))) := ex_M.mono (m_nodes2 hst) (fun r h q => ⟨_, q.1, rfl, q.2⟩)
theorem m_nodes3 {G : GE} (hst : (ge_l G).stackTraces = false) {h : GT} : ex_M G 1 0 0 my_X11_nodesOf [.int (nI 3)] h (rv (some (.int (nI 3))) h) := by
  refine ex_M_of ok_X11_nodesOf cw_X11_nodesOf rfl hst (Nat.le_of_ble_eq_true rfl) ?_
  refine ex_iload_n ok_X11_nodesOf (mi 0 rfl) rfl ?_
  refine ex_tblk (tgt := 40) ok_X11_nodesOf (mi 1 rfl) (by decide) (by decide) (by decide) (by decide) ?_
  refine ex_iconst ok_X11_nodesOf (mi 8 rfl) ?_
  refine ex_iret ok_X11_nodesOf (mi 9 rfl) rfl ?_
  exact ⟨inlI (by decide), rfl⟩
theorem s_nodes3 {G : GE} (hst : (ge_l G).stackTraces = false) {g : GT} : ex_M G 1 0 0 my_X11_nodesOf [.int (nI 3)] g (SVp g (fun v => v = some (.int (nI 3)))) := ex_M.mono (m_nodes3 hst) (fun r h q => ⟨_, q.1, rfl, q.2⟩)
theorem s_isUp0 {G : GE} (hst : (ge_l G).stackTraces = false) {x : Nat} {U : UT} {g : GT} (I : INV x U g) {p1 : Int32} : ex_M G 2 0 0 my_X11_isUp [.ref x, .int (nI 0), .int p1] g (SVp g (fun v => ∃ i, v = some (.int i) ∧ (i = 0 ∨ i = 1) ∧ (i ≠ 0 → vp_in p1 3))) := by
  refine ex_M_of ok_X11_isUp cw_X11_isUp rfl hst (Nat.le_of_ble_eq_true rfl) ?_
  refine ex_iload_n ok_X11_isUp (mi 0 rfl) rfl ?_
  refine ex_if_lt (tgt := 38) ok_X11_isUp (mi 1 rfl) rfl (fun hn => absurd hn (by decide)) (fun _ => ?_)
  refine ex_iload_n ok_X11_isUp (mi 2 rfl) rfl ?_
  refine ex_iconst ok_X11_isUp (mi 3 rfl) ?_
  refine ex_icmp_ge (tgt := 38) ok_X11_isUp (mi 4 rfl) rfl (fun hn => absurd hn (by decide)) (fun _ => ?_)
  refine ex_iload_n ok_X11_isUp (mi 5 rfl) rfl ?_
  refine ex_if_lt (tgt := 38) ok_X11_isUp (mi 6 rfl) rfl (fun h10 => ?_) (fun h10 => ?_)
  · skip
    refine ex_iconst ok_X11_isUp (mi 22 rfl) ?_
    refine ex_zret ok_X11_isUp (mi 23 rfl) rfl (by decide) ?_
    exact ⟨_, rfl, ⟨_, rfl, (by decide), fun e => absurd (by decide) e⟩, rfl⟩
  · skip
    refine ex_iload_n ok_X11_isUp (mi 7 rfl) rfl ?_
    refine ex_iload_n ok_X11_isUp (mi 8 rfl) rfl ?_
    refine sf_Sp (As := [_]) ok_X11_isUp (mi 9 rfl) rfl (s_nodes0 hst) rfl rfl rfl (by decide) (Nat.le_of_ble_eq_true rfl) (by decide) (fun z1 p3 => ?_)
    obtain rfl : z1 = some (.int (nI 3)) := p3
    refine ex_icmp_ge (tgt := 38) ok_X11_isUp (mi 10 rfl) rfl (fun h18 => ?_) (fun h18 => ?_)
    · skip
      refine ex_iconst ok_X11_isUp (mi 22 rfl) ?_
      refine ex_zret ok_X11_isUp (mi 23 rfl) rfl (by decide) ?_
      exact ⟨_, rfl, ⟨_, rfl, (by decide), fun e => absurd (by decide) e⟩, rfl⟩
    · skip
      refine ex_aload_n ok_X11_isUp (mi 11 rfl) rfl ?_
      refine ex_getRx ok_X11_isUp (mi 12 rfl) rfl rfl (fk I.1 0 rfl) (fr I.1 11 rfl) (fk I.1 9 rfl) (by decide) ?_
      refine ex_iload_n ok_X11_isUp (mi 13 rfl) rfl ?_
      refine sf_iald ok_X11_isUp (mi 14 rfl) (fk I.1 9 rfl) (fn I.1 9 rfl) (pk_in 0 4 (by decide)) (fun v5 => ?_)
      refine ex_iload_n ok_X11_isUp (mi 15 rfl) rfl ?_
      refine ex_ishr ok_X11_isUp (mi 16 rfl) ?_
      refine ex_gen (fun w6 => ?_)
      refine ex_iconst ok_X11_isUp (mi 17 rfl) ?_
      refine ex_iand ok_X11_isUp (mi 18 rfl) ?_
      refine ex_gen (fun w7 => ?_)
      refine ex_if_eq (tgt := 38) ok_X11_isUp (mi 19 rfl) rfl (fun h31 => ?_) (fun h31 => ?_)
      · skip
        refine ex_iconst ok_X11_isUp (mi 22 rfl) ?_
        refine ex_zret ok_X11_isUp (mi 23 rfl) rfl (by decide) ?_
        exact ⟨_, rfl, ⟨_, rfl, (by decide), fun e => absurd (by decide) e⟩, rfl⟩
      · skip
        refine ex_iconst ok_X11_isUp (mi 20 rfl) ?_
        refine ex_goto (tgt := 39) ok_X11_isUp (mi 21 rfl) rfl ?_
        refine ex_zret ok_X11_isUp (mi 23 rfl) rfl (by decide) ?_
        exact ⟨_, rfl, ⟨_, rfl, (by decide), fun _ => vin_of h10 (not_le_lt h18) (by decide)⟩, rfl⟩
theorem s_isUp1 {G : GE} (hst : (ge_l G).stackTraces = false) {x : Nat} {U : UT} {g : GT} (I : INV x U g) {p1 : Int32} : ex_M G 2 0 0 my_X11_isUp [.ref x, .int (nI 1), .int p1] g (SVp g (fun v => ∃ i, v = some (.int i) ∧ (i = 0 ∨ i = 1) ∧ (i ≠ 0 → vp_in p1 9))) := by
  refine ex_M_of ok_X11_isUp cw_X11_isUp rfl hst (Nat.le_of_ble_eq_true rfl) ?_
  refine ex_iload_n ok_X11_isUp (mi 0 rfl) rfl ?_
  refine ex_if_lt (tgt := 38) ok_X11_isUp (mi 1 rfl) rfl (fun hn => absurd hn (by decide)) (fun _ => ?_)
  refine ex_iload_n ok_X11_isUp (mi 2 rfl) rfl ?_
  refine ex_iconst ok_X11_isUp (mi 3 rfl) ?_
  refine ex_icmp_ge (tgt := 38) ok_X11_isUp (mi 4 rfl) rfl (fun hn => absurd hn (by decide)) (fun _ => ?_)
  refine ex_iload_n ok_X11_isUp (mi 5 rfl) rfl ?_
  refine ex_if_lt (tgt := 38) ok_X11_isUp (mi 6 rfl) rfl (fun h10 => ?_) (fun h10 => ?_)
  · skip
    refine ex_iconst ok_X11_isUp (mi 22 rfl) ?_
    refine ex_zret ok_X11_isUp (mi 23 rfl) rfl (by decide) ?_
    exact ⟨_, rfl, ⟨_, rfl, (by decide), fun e => absurd (by decide) e⟩, rfl⟩
  · skip
    refine ex_iload_n ok_X11_isUp (mi 7 rfl) rfl ?_
    refine ex_iload_n ok_X11_isUp (mi 8 rfl) rfl ?_
    refine sf_Sp (As := [_]) ok_X11_isUp (mi 9 rfl) rfl (s_nodes1 hst) rfl rfl rfl (by decide) (Nat.le_of_ble_eq_true rfl) (by decide) (fun z1 p3 => ?_)
    obtain rfl : z1 = some (.int (nI 9)) := p3
    refine ex_icmp_ge (tgt := 38) ok_X11_isUp (mi 10 rfl) rfl (fun h18 => ?_) (fun h18 => ?_)
    · skip
      refine ex_iconst ok_X11_isUp (mi 22 rfl) ?_
      refine ex_zret ok_X11_isUp (mi 23 rfl) rfl (by decide) ?_
      exact ⟨_, rfl, ⟨_, rfl, (by decide), fun e => absurd (by decide) e⟩, rfl⟩
    · skip
      refine ex_aload_n ok_X11_isUp (mi 11 rfl) rfl ?_
      refine ex_getRx ok_X11_isUp (mi 12 rfl) rfl rfl (fk I.1 0 rfl) (fr I.1 11 rfl) (fk I.1 9 rfl) (by decide) ?_
      refine ex_iload_n ok_X11_isUp (mi 13 rfl) rfl ?_
      refine sf_iald ok_X11_isUp (mi 14 rfl) (fk I.1 9 rfl) (fn I.1 9 rfl) (pk_in 1 4 (by decide)) (fun v5 => ?_)
      refine ex_iload_n ok_X11_isUp (mi 15 rfl) rfl ?_
      refine ex_ishr ok_X11_isUp (mi 16 rfl) ?_
      refine ex_gen (fun w6 => ?_)
      refine ex_iconst ok_X11_isUp (mi 17 rfl) ?_
      refine ex_iand ok_X11_isUp (mi 18 rfl) ?_
      refine ex_gen (fun w7 => ?_)
      refine ex_if_eq (tgt := 38) ok_X11_isUp (mi 19 rfl) rfl (fun h31 => ?_) (fun h31 => ?_)
      · skip
        refine ex_iconst ok_X11_isUp (mi 22 rfl) ?_
        refine ex_zret ok_X11_isUp (mi 23 rfl) rfl (by decide) ?_
        exact ⟨_, rfl, ⟨_, rfl, (by decide), fun e => absurd (by decide) e⟩, rfl⟩
      · skip
        refine ex_iconst ok_X11_isUp (mi 20 rfl) ?_
        refine ex_goto (tgt := 39) ok_X11_isUp (mi 21 rfl) rfl ?_
        refine ex_zret ok_X11_isUp (mi 23 rfl) rfl (by decide) ?_
        exact ⟨_, rfl, ⟨_, rfl, (by decide), fun _ => vin_of h10 (not_le_lt h18) (by decide)⟩, rfl⟩
theorem s_isUp2 {G : GE} (hst : (ge_l G).stackTraces = false) {x : Nat} {U : UT} {g : GT} (I : INV x U g) {p1 : Int32} : ex_M G 2 0 0 my_X11_isUp [.ref x, .int (nI 2), .int p1] g (SVp g (fun v => ∃ i, v = some (.int i) ∧ (i = 0 ∨ i = 1) ∧ (i ≠ 0 → vp_in p1 12))) := by
  refine ex_M_of ok_X11_isUp cw_X11_isUp rfl hst (Nat.le_of_ble_eq_true rfl) ?_
  refine ex_iload_n ok_X11_isUp (mi 0 rfl) rfl ?_
  refine ex_if_lt (tgt := 38) ok_X11_isUp (mi 1 rfl) rfl (fun hn => absurd hn (by decide)) (fun _ => ?_)
  refine ex_iload_n ok_X11_isUp (mi 2 rfl) rfl ?_
  refine ex_iconst ok_X11_isUp (mi 3 rfl) ?_
  refine ex_icmp_ge (tgt := 38) ok_X11_isUp (mi 4 rfl) rfl (fun hn => absurd hn (by decide)) (fun _ => ?_)
  refine ex_iload_n ok_X11_isUp (mi 5 rfl) rfl ?_
  refine ex_if_lt (tgt := 38) ok_X11_isUp (mi 6 rfl) rfl (fun h10 => ?_) (fun h10 => ?_)
  · skip
    refine ex_iconst ok_X11_isUp (mi 22 rfl) ?_
    refine ex_zret ok_X11_isUp (mi 23 rfl) rfl (by decide) ?_
    exact ⟨_, rfl, ⟨_, rfl, (by decide), fun e => absurd (by decide) e⟩, rfl⟩
  · skip
    refine ex_iload_n ok_X11_isUp (mi 7 rfl) rfl ?_
    refine ex_iload_n ok_X11_isUp (mi 8 rfl) rfl ?_
    refine sf_Sp (As := [_]) ok_X11_isUp (mi 9 rfl) rfl (s_nodes2 hst) rfl rfl rfl (by decide) (Nat.le_of_ble_eq_true rfl) (by decide) (fun z1 p3 => ?_)
    obtain rfl : z1 = some (.int (nI 12)) := p3
    refine ex_icmp_ge (tgt := 38) ok_X11_isUp (mi 10 rfl) rfl (fun h18 => ?_) (fun h18 => ?_)
    · skip
      refine ex_iconst ok_X11_isUp (mi 22 rfl) ?_
      refine ex_zret ok_X11_isUp (mi 23 rfl) rfl (by decide) ?_
      exact ⟨_, rfl, ⟨_, rfl, (by decide), fun e => absurd (by decide) e⟩, rfl⟩
    · skip
      refine ex_aload_n ok_X11_isUp (mi 11 rfl) rfl ?_
      refine ex_getRx ok_X11_isUp (mi 12 rfl) rfl rfl (fk I.1 0 rfl) (fr I.1 11 rfl) (fk I.1 9 rfl) (by decide) ?_
      refine ex_iload_n ok_X11_isUp (mi 13 rfl) rfl ?_
      refine sf_iald ok_X11_isUp (mi 14 rfl) (fk I.1 9 rfl) (fn I.1 9 rfl) (pk_in 2 4 (by decide)) (fun v5 => ?_)
      refine ex_iload_n ok_X11_isUp (mi 15 rfl) rfl ?_
      refine ex_ishr ok_X11_isUp (mi 16 rfl) ?_
      refine ex_gen (fun w6 => ?_)
      refine ex_iconst ok_X11_isUp (mi 17 rfl) ?_
      refine ex_iand ok_X11_isUp (mi 18 rfl) ?_
      refine ex_gen (fun w7 => ?_)
      refine ex_if_eq (tgt := 38) ok_X11_isUp (mi 19 rfl) rfl (fun h31 => ?_) (fun h31 => ?_)
      · skip
        refine ex_iconst ok_X11_isUp (mi 22 rfl) ?_
        refine ex_zret ok_X11_isUp (mi 23 rfl) rfl (by decide) ?_
        exact ⟨_, rfl, ⟨_, rfl, (by decide), fun e => absurd (by decide) e⟩, rfl⟩
      · skip
        refine ex_iconst ok_X11_isUp (mi 20 rfl) ?_
        refine ex_goto (tgt := 39) ok_X11_isUp (mi 21 rfl) rfl ?_
        refine ex_zret ok_X11_isUp (mi 23 rfl) rfl (by decide) ?_
        exact ⟨_, rfl, ⟨_, rfl, (by decide), fun _ => vin_of h10 (not_le_lt h18) (by decide)⟩, rfl⟩
theorem s_isUp3 {G : GE} (hst : (ge_l G).stackTraces = false) {x : Nat} {U : UT} {g : GT} (I : INV x U g) {p1 : Int32} : ex_M G 2 0 0 my_X11_isUp [.ref x, .int (nI 3), .int p1] g (SVp g (fun v => ∃ i, v = some (.int i) ∧ (i = 0 ∨ i = 1) ∧ (i ≠ 0 → vp_in p1 3))) := by
  refine ex_M_of ok_X11_isUp cw_X11_isUp rfl hst (Nat.le_of_ble_eq_true rfl) ?_
  refine ex_iload_n ok_X11_isUp (mi 0 rfl) rfl ?_
  refine ex_if_lt (tgt := 38) ok_X11_isUp (mi 1 rfl) rfl (fun hn => absurd hn (by decide)) (fun _ => ?_)
  refine ex_iload_n ok_X11_isUp (mi 2 rfl) rfl ?_
  refine ex_iconst ok_X11_isUp (mi 3 rfl) ?_
  refine ex_icmp_ge (tgt := 38) ok_X11_isUp (mi 4 rfl) rfl (fun hn => absurd hn (by decide)) (fun _ => ?_)
  refine ex_iload_n ok_X11_isUp (mi 5 rfl) rfl ?_
  refine ex_if_lt (tgt := 38) ok_X11_isUp (mi 6 rfl) rfl (fun h10 => ?_) (fun h10 => ?_)
  · skip
    refine ex_iconst ok_X11_isUp (mi 22 rfl) ?_
    refine ex_zret ok_X11_isUp (mi 23 rfl) rfl (by decide) ?_
    exact ⟨_, rfl, ⟨_, rfl, (by decide), fun e => absurd (by decide) e⟩, rfl⟩
  · skip
    refine ex_iload_n ok_X11_isUp (mi 7 rfl) rfl ?_
    refine ex_iload_n ok_X11_isUp (mi 8 rfl) rfl ?_
    refine sf_Sp (As := [_]) ok_X11_isUp (mi 9 rfl) rfl (s_nodes3 hst) rfl rfl rfl (by decide) (Nat.le_of_ble_eq_true rfl) (by decide) (fun z1 p3 => ?_)
    obtain rfl : z1 = some (.int (nI 3)) := p3
    refine ex_icmp_ge (tgt := 38) ok_X11_isUp (mi 10 rfl) rfl (fun h18 => ?_) (fun h18 => ?_)
    · skip
      refine ex_iconst ok_X11_isUp (mi 22 rfl) ?_
      refine ex_zret ok_X11_isUp (mi 23 rfl) rfl (by decide) ?_
      exact ⟨_, rfl, ⟨_, rfl, (by decide), fun e => absurd (by decide) e⟩, rfl⟩
    · skip
      refine ex_aload_n ok_X11_isUp (mi 11 rfl) rfl ?_
      refine ex_getRx ok_X11_isUp (mi 12 rfl) rfl rfl (fk I.1 0 rfl) (fr I.1 11 rfl) (fk I.1 9 rfl) (by decide) ?_
      refine ex_iload_n ok_X11_isUp (mi 13 rfl) rfl ?_
      refine sf_iald ok_X11_isUp (mi 14 rfl) (fk I.1 9 rfl) (fn I.1 9 rfl) (pk_in 3 4 (by decide)) (fun v5 => ?_)
      refine ex_iload_n ok_X11_isUp (mi 15 rfl) rfl ?_
      refine ex_ishr ok_X11_isUp (mi 16 rfl) ?_
      refine ex_gen (fun w6 => ?_)
      refine ex_iconst ok_X11_isUp (mi 17 rfl) ?_
      refine ex_iand ok_X11_isUp (mi 18 rfl) ?_
      refine ex_gen (fun w7 => ?_)
      refine ex_if_eq (tgt := 38) ok_X11_isUp (mi 19 rfl) rfl (fun h31 => ?_) (fun h31 => ?_)
      · skip
        refine ex_iconst ok_X11_isUp (mi 22 rfl) ?_
        refine ex_zret ok_X11_isUp (mi 23 rfl) rfl (by decide) ?_
        exact ⟨_, rfl, ⟨_, rfl, (by decide), fun e => absurd (by decide) e⟩, rfl⟩
      · skip
        refine ex_iconst ok_X11_isUp (mi 20 rfl) ?_
        refine ex_goto (tgt := 39) ok_X11_isUp (mi 21 rfl) rfl ?_
        refine ex_zret ok_X11_isUp (mi 23 rfl) rfl (by decide) ?_
        exact ⟨_, rfl, ⟨_, rfl, (by decide), fun _ => vin_of h10 (not_le_lt h18) (by decide)⟩, rfl⟩
theorem t_receiverOf {G : GE} (hst : (ge_l G).stackTraces = false) {g : GT} {p0 : Int32} : ex_M G 1 0 0 my_X11_receiverOf [.int p0] g (SVp g (fun v => ∃ i, v = some (.int i) ∧ (i = nI 0 ∨ i = nI 1 ∨ i = nI 2 ∨ i = nI 3))) := by
  refine ex_M_of ok_X11_receiverOf cw_X11_receiverOf rfl hst (Nat.le_of_ble_eq_true rfl) ?_
  refine ex_iload_n ok_X11_receiverOf (mi 0 rfl) rfl ?_
  refine sf_table [104, 106, 108, 110] ok_X11_receiverOf (mi 1 rfl) (by decide) (by decide) (fun t ht => ?_)
  simp only [List.mem_cons, List.not_mem_nil, or_false] at ht
  rcases ht with rfl | rfl | rfl | rfl
  · skip
    refine ex_iconst ok_X11_receiverOf (mi 2 rfl) ?_
    refine ex_iret ok_X11_receiverOf (mi 3 rfl) rfl ?_
    exact ⟨_, rfl, ⟨_, rfl, by decide⟩, rfl⟩
  · skip
    refine ex_iconst ok_X11_receiverOf (mi 4 rfl) ?_
    refine ex_iret ok_X11_receiverOf (mi 5 rfl) rfl ?_
    exact ⟨_, rfl, ⟨_, rfl, by decide⟩, rfl⟩
  · skip
    refine ex_iconst ok_X11_receiverOf (mi 6 rfl) ?_
    refine ex_iret ok_X11_receiverOf (mi 7 rfl) rfl ?_
    exact ⟨_, rfl, ⟨_, rfl, by decide⟩, rfl⟩
  · skip
    refine ex_iconst ok_X11_receiverOf (mi 8 rfl) ?_
    refine ex_iret ok_X11_receiverOf (mi 9 rfl) rfl ?_
    exact ⟨_, rfl, ⟨_, rfl, by decide⟩, rfl⟩
theorem s_X11_bring {G : GE} (hst : (ge_l G).stackTraces = false) {x : Nat} {U : UT} {g : GT} (I : INV x U g) {m0 : Nat} (hm0 : MSR x m0) : ex_M G 7 0 0 my_X11_bring [.ref x, .ref m0] g (SV x U pN) := by
  refine ex_M_of ok_X11_bring cw_X11_bring rfl hst (Nat.le_of_ble_eq_true rfl) ?_
  refine ex_aload_n ok_X11_bring (mi 0 rfl) rfl ?_
  refine ex_getI ok_X11_bring (mi 1 rfl) rfl rfl (fk (INV_6 I hm0) 0 rfl) ?_
  refine sf_Sp (As := [_]) ok_X11_bring (mi 2 rfl) rfl (t_receiverOf hst) rfl rfl rfl (by decide) (Nat.le_of_ble_eq_true rfl) (by decide) (fun z0 p0 => ?_)
  obtain ⟨i0, rfl, hi0⟩ := p0
  refine ex_istore_n ok_X11_bring (mi 3 rfl) ?_
  rcases hi0 with rfl | rfl | rfl | rfl
  · skip
    refine ex_aload_n ok_X11_bring (mi 4 rfl) rfl ?_
    refine ex_iload_n ok_X11_bring (mi 5 rfl) rfl ?_
    refine ex_aload_n ok_X11_bring (mi 6 rfl) rfl ?_
    refine ex_getI ok_X11_bring (mi 7 rfl) rfl rfl (fk (INV_6 I hm0) 0 rfl) ?_
    refine sf_Vp (As := [_, _]) ok_X11_bring (mi 8 rfl) rfl (s_isUp0 hst I) rfl (fk I.1 0 rfl) rfl rfl (by decide) (by decide) (Nat.le_of_ble_eq_true rfl) (by decide) (fun z1 p3 => ?_)
    obtain ⟨v5, rfl, hbv5, hfv5⟩ := p3
    refine ex_if_ne (tgt := 34) ok_X11_bring (mi 9 rfl) rfl (fun h17 => ?_) (fun h17 => ?_)
    · skip
      refine ex_aload_n ok_X11_bring (mi 18 rfl) rfl ?_
      refine ex_dup ok_X11_bring (mi 19 rfl) rfl ?_
      refine sf_getI ok_X11_bring (mi 20 rfl) rfl rfl (fk I.1 0 rfl) (fun v6 => ?_)
      refine ex_iconst ok_X11_bring (mi 21 rfl) ?_
      refine ex_iadd ok_X11_bring (mi 22 rfl) ?_
      refine ex_gen (fun w7 => ?_)
      refine ex_putI ok_X11_bring (mi 23 rfl) rfl (fk I.1 0 rfl) rfl ?_
      have J9 : INV x U (px_I g 1108 x w7) := INV_I I (by decide) (by decide) (by decide +kernel) ⟨by omega, by omega⟩
      refine ex_iload_n ok_X11_bring (mi 24 rfl) rfl ?_
      refine ex_if_ne (tgt := 64) ok_X11_bring (mi 25 rfl) rfl (fun hn => absurd (by decide) hn) (fun _ => ?_)
      refine ex_aload_n ok_X11_bring (mi 26 rfl) rfl ?_
      refine ex_getRx ok_X11_bring (mi 27 rfl) rfl rfl (fk J9.1 0 rfl) (fr J9.1 12 rfl) (fk J9.1 10 rfl) (by decide) ?_
      refine ex_aload_n ok_X11_bring (mi 28 rfl) rfl ?_
      refine ex_getI ok_X11_bring (mi 29 rfl) rfl rfl (fk (INV_6 J9 hm0) 0 rfl) ?_
      refine ex_top (w := (gx_I g 602 m0)) (by rw [gxI_I, if_neg (fun k => absurd k.1 (by decide))]) ?_
      refine sf_leaders J9 ok_X11_bring (mi 30 rfl) (hfv5 h17) (fun m10 hm10 => ?_)
      refine ex_aload_n ok_X11_bring (mi 31 rfl) rfl ?_
      refine sf_V (As := [_]) ok_X11_bring (mi 32 rfl) rfl (s_X5_receive hst J9 hm10 hm0) rfl (fk (INV_5 J9 hm10).1 0 rfl) rfl rfl (by decide) (by decide) (Nat.le_of_ble_eq_true rfl) (by decide) (fun z11 g12 p13 J14 => ?_)
      obtain rfl : z11 = none := p13
      refine ex_goto (tgt := 114) ok_X11_bring (mi 33 rfl) rfl ?_
      refine ex_vret ok_X11_bring (mi 60 rfl) rfl ?_
      exact ⟨_, rfl, rfl, J14⟩
    · skip
      refine ex_aload_n ok_X11_bring (mi 10 rfl) rfl ?_
      refine ex_getRx ok_X11_bring (mi 11 rfl) rfl rfl (fk I.1 0 rfl) (fr I.1 2 rfl) (fk I.1 1 rfl) (by decide) ?_
      refine ex_dup ok_X11_bring (mi 12 rfl) rfl ?_
      refine sf_getI ok_X11_bring (mi 13 rfl) rfl rfl (fk I.1 1 rfl) (fun v15 => ?_)
      refine ex_iconst ok_X11_bring (mi 14 rfl) ?_
      refine ex_iadd ok_X11_bring (mi 15 rfl) ?_
      refine ex_gen (fun w16 => ?_)
      refine sf_putI I ok_X11_bring (mi 16 rfl) rfl rfl (by decide) (by decide) (by decide +kernel) (fk I.1 1 rfl) ⟨by omega, by omega⟩ (fun g17 J18 => ?_)
      refine ex_vret ok_X11_bring (mi 17 rfl) rfl ?_
      exact ⟨_, rfl, rfl, J18⟩
  · skip
    refine ex_aload_n ok_X11_bring (mi 4 rfl) rfl ?_
    refine ex_iload_n ok_X11_bring (mi 5 rfl) rfl ?_
    refine ex_aload_n ok_X11_bring (mi 6 rfl) rfl ?_
    refine ex_getI ok_X11_bring (mi 7 rfl) rfl rfl (fk (INV_6 I hm0) 0 rfl) ?_
    refine sf_Vp (As := [_, _]) ok_X11_bring (mi 8 rfl) rfl (s_isUp1 hst I) rfl (fk I.1 0 rfl) rfl rfl (by decide) (by decide) (Nat.le_of_ble_eq_true rfl) (by decide) (fun z19 p21 => ?_)
    obtain ⟨v23, rfl, hbv23, hfv23⟩ := p21
    refine ex_if_ne (tgt := 34) ok_X11_bring (mi 9 rfl) rfl (fun h17 => ?_) (fun h17 => ?_)
    · skip
      refine ex_aload_n ok_X11_bring (mi 18 rfl) rfl ?_
      refine ex_dup ok_X11_bring (mi 19 rfl) rfl ?_
      refine sf_getI ok_X11_bring (mi 20 rfl) rfl rfl (fk I.1 0 rfl) (fun v24 => ?_)
      refine ex_iconst ok_X11_bring (mi 21 rfl) ?_
      refine ex_iadd ok_X11_bring (mi 22 rfl) ?_
      refine ex_gen (fun w25 => ?_)
      refine ex_putI ok_X11_bring (mi 23 rfl) rfl (fk I.1 0 rfl) rfl ?_
      have J27 : INV x U (px_I g 1108 x w25) := INV_I I (by decide) (by decide) (by decide +kernel) ⟨by omega, by omega⟩
      refine ex_iload_n ok_X11_bring (mi 24 rfl) rfl ?_
      refine ex_if_ne (tgt := 64) ok_X11_bring (mi 25 rfl) rfl (fun _ => ?_) (fun hn => absurd hn (by decide))
      refine ex_iload_n ok_X11_bring (mi 34 rfl) rfl ?_
      refine ex_iconst ok_X11_bring (mi 35 rfl) ?_
      refine ex_icmp_ne (tgt := 85) ok_X11_bring (mi 36 rfl) rfl (fun hn => absurd (by decide) hn) (fun _ => ?_)
      refine ex_aload_n ok_X11_bring (mi 37 rfl) rfl ?_
      refine ex_getRx ok_X11_bring (mi 38 rfl) rfl rfl (fk J27.1 0 rfl) (fr J27.1 55 rfl) (fk J27.1 44 rfl) (by decide) ?_
      refine ex_aload_n ok_X11_bring (mi 39 rfl) rfl ?_
      refine ex_getI ok_X11_bring (mi 40 rfl) rfl rfl (fk (INV_6 J27 hm0) 0 rfl) ?_
      refine ex_top (w := (gx_I g 602 m0)) (by rw [gxI_I, if_neg (fun k => absurd k.1 (by decide))]) ?_
      refine sf_keepers J27 ok_X11_bring (mi 41 rfl) (hfv23 h17) (fun m28 hm28 => ?_)
      refine ex_aload_n ok_X11_bring (mi 42 rfl) rfl ?_
      refine sf_V (As := [_]) ok_X11_bring (mi 43 rfl) rfl (s_X3_receive hst J27 hm28 hm0) rfl (fk (INV_3 J27 hm28).1 0 rfl) rfl rfl (by decide) (by decide) (Nat.le_of_ble_eq_true rfl) (by decide) (fun z29 g30 p31 J32 => ?_)
      obtain rfl : z29 = none := p31
      refine ex_goto (tgt := 114) ok_X11_bring (mi 44 rfl) rfl ?_
      refine ex_vret ok_X11_bring (mi 60 rfl) rfl ?_
      exact ⟨_, rfl, rfl, J32⟩
    · skip
      refine ex_aload_n ok_X11_bring (mi 10 rfl) rfl ?_
      refine ex_getRx ok_X11_bring (mi 11 rfl) rfl rfl (fk I.1 0 rfl) (fr I.1 2 rfl) (fk I.1 1 rfl) (by decide) ?_
      refine ex_dup ok_X11_bring (mi 12 rfl) rfl ?_
      refine sf_getI ok_X11_bring (mi 13 rfl) rfl rfl (fk I.1 1 rfl) (fun v33 => ?_)
      refine ex_iconst ok_X11_bring (mi 14 rfl) ?_
      refine ex_iadd ok_X11_bring (mi 15 rfl) ?_
      refine ex_gen (fun w34 => ?_)
      refine sf_putI I ok_X11_bring (mi 16 rfl) rfl rfl (by decide) (by decide) (by decide +kernel) (fk I.1 1 rfl) ⟨by omega, by omega⟩ (fun g35 J36 => ?_)
      refine ex_vret ok_X11_bring (mi 17 rfl) rfl ?_
      exact ⟨_, rfl, rfl, J36⟩
  · skip
    refine ex_aload_n ok_X11_bring (mi 4 rfl) rfl ?_
    refine ex_iload_n ok_X11_bring (mi 5 rfl) rfl ?_
    refine ex_aload_n ok_X11_bring (mi 6 rfl) rfl ?_
    refine ex_getI ok_X11_bring (mi 7 rfl) rfl rfl (fk (INV_6 I hm0) 0 rfl) ?_
    refine sf_Vp (As := [_, _]) ok_X11_bring (mi 8 rfl) rfl (s_isUp2 hst I) rfl (fk I.1 0 rfl) rfl rfl (by decide) (by decide) (Nat.le_of_ble_eq_true rfl) (by decide) (fun z37 p39 => ?_)
    obtain ⟨v41, rfl, hbv41, hfv41⟩ := p39
    refine ex_if_ne (tgt := 34) ok_X11_bring (mi 9 rfl) rfl (fun h17 => ?_) (fun h17 => ?_)
    · skip
      refine ex_aload_n ok_X11_bring (mi 18 rfl) rfl ?_
      refine ex_dup ok_X11_bring (mi 19 rfl) rfl ?_
      refine sf_getI ok_X11_bring (mi 20 rfl) rfl rfl (fk I.1 0 rfl) (fun v42 => ?_)
      refine ex_iconst ok_X11_bring (mi 21 rfl) ?_
      refine ex_iadd ok_X11_bring (mi 22 rfl) ?_
      refine ex_gen (fun w43 => ?_)
      refine ex_putI ok_X11_bring (mi 23 rfl) rfl (fk I.1 0 rfl) rfl ?_
      have J45 : INV x U (px_I g 1108 x w43) := INV_I I (by decide) (by decide) (by decide +kernel) ⟨by omega, by omega⟩
      refine ex_iload_n ok_X11_bring (mi 24 rfl) rfl ?_
      refine ex_if_ne (tgt := 64) ok_X11_bring (mi 25 rfl) rfl (fun _ => ?_) (fun hn => absurd hn (by decide))
      refine ex_iload_n ok_X11_bring (mi 34 rfl) rfl ?_
      refine ex_iconst ok_X11_bring (mi 35 rfl) ?_
      refine ex_icmp_ne (tgt := 85) ok_X11_bring (mi 36 rfl) rfl (fun _ => ?_) (fun hn => absurd hn (by decide))
      refine ex_iload_n ok_X11_bring (mi 45 rfl) rfl ?_
      refine ex_iconst ok_X11_bring (mi 46 rfl) ?_
      refine ex_icmp_ne (tgt := 106) ok_X11_bring (mi 47 rfl) rfl (fun hn => absurd (by decide) hn) (fun _ => ?_)
      refine ex_aload_n ok_X11_bring (mi 48 rfl) rfl ?_
      refine ex_getRx ok_X11_bring (mi 49 rfl) rfl rfl (fk J45.1 0 rfl) (fr J45.1 83 rfl) (fk J45.1 63 rfl) (by decide) ?_
      refine ex_aload_n ok_X11_bring (mi 50 rfl) rfl ?_
      refine ex_getI ok_X11_bring (mi 51 rfl) rfl rfl (fk (INV_6 J45 hm0) 0 rfl) ?_
      refine ex_top (w := (gx_I g 602 m0)) (by rw [gxI_I, if_neg (fun k => absurd k.1 (by decide))]) ?_
      refine sf_voters J45 ok_X11_bring (mi 52 rfl) (hfv41 h17) (fun m46 hm46 => ?_)
      refine ex_aload_n ok_X11_bring (mi 53 rfl) rfl ?_
      refine sf_V (As := [_]) ok_X11_bring (mi 54 rfl) rfl (s_X10_receive hst J45 hm46 hm0) rfl (fk (INV_10 J45 hm46).1 0 rfl) rfl rfl (by decide) (by decide) (Nat.le_of_ble_eq_true rfl) (by decide) (fun z47 g48 p49 J50 => ?_)
      obtain rfl : z47 = none := p49
      refine ex_goto (tgt := 114) ok_X11_bring (mi 55 rfl) rfl ?_
      refine ex_vret ok_X11_bring (mi 60 rfl) rfl ?_
      exact ⟨_, rfl, rfl, J50⟩
    · skip
      refine ex_aload_n ok_X11_bring (mi 10 rfl) rfl ?_
      refine ex_getRx ok_X11_bring (mi 11 rfl) rfl rfl (fk I.1 0 rfl) (fr I.1 2 rfl) (fk I.1 1 rfl) (by decide) ?_
      refine ex_dup ok_X11_bring (mi 12 rfl) rfl ?_
      refine sf_getI ok_X11_bring (mi 13 rfl) rfl rfl (fk I.1 1 rfl) (fun v51 => ?_)
      refine ex_iconst ok_X11_bring (mi 14 rfl) ?_
      refine ex_iadd ok_X11_bring (mi 15 rfl) ?_
      refine ex_gen (fun w52 => ?_)
      refine sf_putI I ok_X11_bring (mi 16 rfl) rfl rfl (by decide) (by decide) (by decide +kernel) (fk I.1 1 rfl) ⟨by omega, by omega⟩ (fun g53 J54 => ?_)
      refine ex_vret ok_X11_bring (mi 17 rfl) rfl ?_
      exact ⟨_, rfl, rfl, J54⟩
  · skip
    refine ex_aload_n ok_X11_bring (mi 4 rfl) rfl ?_
    refine ex_iload_n ok_X11_bring (mi 5 rfl) rfl ?_
    refine ex_aload_n ok_X11_bring (mi 6 rfl) rfl ?_
    refine ex_getI ok_X11_bring (mi 7 rfl) rfl rfl (fk (INV_6 I hm0) 0 rfl) ?_
    refine sf_Vp (As := [_, _]) ok_X11_bring (mi 8 rfl) rfl (s_isUp3 hst I) rfl (fk I.1 0 rfl) rfl rfl (by decide) (by decide) (Nat.le_of_ble_eq_true rfl) (by decide) (fun z55 p57 => ?_)
    obtain ⟨v59, rfl, hbv59, hfv59⟩ := p57
    refine ex_if_ne (tgt := 34) ok_X11_bring (mi 9 rfl) rfl (fun h17 => ?_) (fun h17 => ?_)
    · skip
      refine ex_aload_n ok_X11_bring (mi 18 rfl) rfl ?_
      refine ex_dup ok_X11_bring (mi 19 rfl) rfl ?_
      refine sf_getI ok_X11_bring (mi 20 rfl) rfl rfl (fk I.1 0 rfl) (fun v60 => ?_)
      refine ex_iconst ok_X11_bring (mi 21 rfl) ?_
      refine ex_iadd ok_X11_bring (mi 22 rfl) ?_
      refine ex_gen (fun w61 => ?_)
      refine ex_putI ok_X11_bring (mi 23 rfl) rfl (fk I.1 0 rfl) rfl ?_
      have J63 : INV x U (px_I g 1108 x w61) := INV_I I (by decide) (by decide) (by decide +kernel) ⟨by omega, by omega⟩
      refine ex_iload_n ok_X11_bring (mi 24 rfl) rfl ?_
      refine ex_if_ne (tgt := 64) ok_X11_bring (mi 25 rfl) rfl (fun _ => ?_) (fun hn => absurd hn (by decide))
      refine ex_iload_n ok_X11_bring (mi 34 rfl) rfl ?_
      refine ex_iconst ok_X11_bring (mi 35 rfl) ?_
      refine ex_icmp_ne (tgt := 85) ok_X11_bring (mi 36 rfl) rfl (fun _ => ?_) (fun hn => absurd hn (by decide))
      refine ex_iload_n ok_X11_bring (mi 45 rfl) rfl ?_
      refine ex_iconst ok_X11_bring (mi 46 rfl) ?_
      refine ex_icmp_ne (tgt := 106) ok_X11_bring (mi 47 rfl) rfl (fun _ => ?_) (fun hn => absurd hn (by decide))
      refine ex_aload_n ok_X11_bring (mi 56 rfl) rfl ?_
      refine ex_getRx ok_X11_bring (mi 57 rfl) rfl rfl (fk J63.1 0 rfl) (fr J63.1 10 rfl) (fk J63.1 7 rfl) (by decide) ?_
      refine ex_aload_n ok_X11_bring (mi 58 rfl) rfl ?_
      refine sf_V (As := [_]) ok_X11_bring (mi 59 rfl) rfl (s_X2_receive hst J63 hm0) rfl (fk J63.1 7 rfl) rfl rfl (by decide) (by decide) (Nat.le_of_ble_eq_true rfl) (by decide) (fun z64 g65 p66 J67 => ?_)
      obtain rfl : z64 = none := p66
      refine ex_vret ok_X11_bring (mi 60 rfl) rfl ?_
      exact ⟨_, rfl, rfl, J67⟩
    · skip
      refine ex_aload_n ok_X11_bring (mi 10 rfl) rfl ?_
      refine ex_getRx ok_X11_bring (mi 11 rfl) rfl rfl (fk I.1 0 rfl) (fr I.1 2 rfl) (fk I.1 1 rfl) (by decide) ?_
      refine ex_dup ok_X11_bring (mi 12 rfl) rfl ?_
      refine sf_getI ok_X11_bring (mi 13 rfl) rfl rfl (fk I.1 1 rfl) (fun v68 => ?_)
      refine ex_iconst ok_X11_bring (mi 14 rfl) ?_
      refine ex_iadd ok_X11_bring (mi 15 rfl) ?_
      refine ex_gen (fun w69 => ?_)
      refine sf_putI I ok_X11_bring (mi 16 rfl) rfl rfl (by decide) (by decide) (by decide +kernel) (fk I.1 1 rfl) ⟨by omega, by omega⟩ (fun g70 J71 => ?_)
      refine ex_vret ok_X11_bring (mi 17 rfl) rfl ?_
      exact ⟨_, rfl, rfl, J71⟩
theorem s_X11_deliver {G : GE} (hst : (ge_l G).stackTraces = false) {x : Nat} {U : UT} {g : GT} (I : INV x U g) {p0 : Int32} : ex_M G 8 4 24 my_X11_deliver [.ref x, .int p0] g (SX x U [100] pI) := by
  refine ex_M_of ok_X11_deliver cw_X11_deliver rfl hst (Nat.le_of_ble_eq_true rfl) ?_
  refine ex_iload_n ok_X11_deliver (mi 0 rfl) rfl ?_
  refine ex_aload_n ok_X11_deliver (mi 1 rfl) rfl ?_
  refine ex_getRx ok_X11_deliver (mi 2 rfl) rfl rfl (fk I.1 0 rfl) (fr I.1 2 rfl) (fk I.1 1 rfl) (by decide) ?_
  refine sf_getSz I ok_X11_deliver (mi 3 rfl) rfl (fk I.1 1 rfl) (fun hz1 => ?_)
  obtain ⟨nz3, hnz3, enz3⟩ := vp_in_of hz1 (by decide)
  refine sf_req (n := nz3) ok_X11_deliver (mi 4 rfl) rfl hst (by omega) enz3 ⟨rfl, rfl, rfl⟩ rfl rfl (by decide) (Nat.le_of_ble_eq_true rfl) (by decide) (fun k => ⟨Or.inr ⟨100, by decide, rfl⟩, INV_Z I⟩) (fun hr2 => ?_)
  refine ex_aload_n ok_X11_deliver (mi 5 rfl) rfl ?_
  refine ex_getRx ok_X11_deliver (mi 6 rfl) rfl rfl (fk I.1 0 rfl) (fr I.1 2 rfl) (fk I.1 1 rfl) (by decide) ?_
  refine ex_iload_n ok_X11_deliver (mi 7 rfl) rfl ?_
  refine sf_V (As := [_]) ok_X11_deliver (mi 8 rfl) rfl (s_X0_take hst I (vp_mono (N := 400) hr2 (by omega)) (sz_pos hr2 enz3)) rfl (fk I.1 1 rfl) rfl rfl (by decide) (by decide) (Nat.le_of_ble_eq_true rfl) (by decide) (fun z4 g5 p6 J7 => ?_)
  obtain ⟨m8, rfl, hm8⟩ := p6
  refine ex_astore_n ok_X11_deliver (mi 9 rfl) ?_
  refine ex_aload_n ok_X11_deliver (mi 10 rfl) rfl ?_
  refine ex_aload_n ok_X11_deliver (mi 11 rfl) rfl ?_
  refine sf_V (As := [_]) ok_X11_deliver (mi 12 rfl) rfl (s_X11_bring hst J7 hm8) rfl (fk J7.1 0 rfl) rfl rfl (by decide) (by decide) (Nat.le_of_ble_eq_true rfl) (by decide) (fun z9 g10 p11 J12 => ?_)
  obtain rfl : z9 = none := p11
  refine ex_aload_n ok_X11_deliver (mi 13 rfl) rfl ?_
  refine ex_getI ok_X11_deliver (mi 14 rfl) rfl rfl (fk (INV_6 J12 hm8) 0 rfl) ?_
  refine ex_iret ok_X11_deliver (mi 15 rfl) rfl ?_
  exact ⟨Or.inl ⟨_, rfl, ⟨_, rfl⟩⟩, J12⟩
theorem s_X11_lose {G : GE} (hst : (ge_l G).stackTraces = false) {x : Nat} {U : UT} {g : GT} (I : INV x U g) {p0 : Int32} : ex_M G 3 4 24 my_X11_lose [.ref x, .int p0] g (SX x U [100] pI) := by
  refine ex_M_of ok_X11_lose cw_X11_lose rfl hst (Nat.le_of_ble_eq_true rfl) ?_
  refine ex_iload_n ok_X11_lose (mi 0 rfl) rfl ?_
  refine ex_aload_n ok_X11_lose (mi 1 rfl) rfl ?_
  refine ex_getRx ok_X11_lose (mi 2 rfl) rfl rfl (fk I.1 0 rfl) (fr I.1 2 rfl) (fk I.1 1 rfl) (by decide) ?_
  refine sf_getSz I ok_X11_lose (mi 3 rfl) rfl (fk I.1 1 rfl) (fun hz1 => ?_)
  obtain ⟨nz3, hnz3, enz3⟩ := vp_in_of hz1 (by decide)
  refine sf_req (n := nz3) ok_X11_lose (mi 4 rfl) rfl hst (by omega) enz3 ⟨rfl, rfl, rfl⟩ rfl rfl (by decide) (Nat.le_of_ble_eq_true rfl) (by decide) (fun k => ⟨Or.inr ⟨100, by decide, rfl⟩, INV_Z I⟩) (fun hr2 => ?_)
  refine ex_aload_n ok_X11_lose (mi 5 rfl) rfl ?_
  refine ex_getRx ok_X11_lose (mi 6 rfl) rfl rfl (fk I.1 0 rfl) (fr I.1 2 rfl) (fk I.1 1 rfl) (by decide) ?_
  refine ex_iload_n ok_X11_lose (mi 7 rfl) rfl ?_
  refine sf_V (As := [_]) ok_X11_lose (mi 8 rfl) rfl (s_X0_take hst I (vp_mono (N := 400) hr2 (by omega)) (sz_pos hr2 enz3)) rfl (fk I.1 1 rfl) rfl rfl (by decide) (by decide) (Nat.le_of_ble_eq_true rfl) (by decide) (fun z4 g5 p6 J7 => ?_)
  obtain ⟨m8, rfl, hm8⟩ := p6
  refine ex_getI ok_X11_lose (mi 9 rfl) rfl rfl (fk (INV_6 J7 hm8) 0 rfl) ?_
  refine ex_iret ok_X11_lose (mi 10 rfl) rfl ?_
  exact ⟨Or.inl ⟨_, rfl, ⟨_, rfl⟩⟩, J7⟩
