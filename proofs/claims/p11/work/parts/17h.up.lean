/-! ===== up ===== -/
def updU (U : UT) (s : Nat) (v : Int32) : UT := (fun j => if j = s then v else U.1 j, U.2)
theorem INV_tE {x s : Nat} {U : UT} {h : GT} (I : INV x U h) (hs : s < 4) : tE [(813, s, U.1 s)] h x := fun q hq => by
  obtain rfl := List.mem_singleton.mp hq
  exact I.2.2.2.2.2.2.2.1 s hs
theorem vin0 (i : Int32) : ¬ vp_in i 0 := fun h => h (Or.inr (Nat.zero_le _))
theorem e_up_0_0_0 {G : GE} (hst : (ge_l G).stackTraces = false) {x j : Nat} {U : UT} {h : GT} (I : INV x U h) (hj : j < 3) (hb : (U.1 0 >>> (nI j &&& 31)) &&& nI 1 = 0) : ex_M G 3 4 24 my_X11_up [.ref x, .int (nI 0), .int (nI j), .int (nI 0)] h (fun r h' => r = .inl (some (.int (nI 0))) ∧ INV x (updU U 0 ((U.1 0) &&& (((nI 1) <<< ((nI j) &&& 31)) ^^^ (-1)))) h') := by
  have he := INV_tE (s := 0) I (by decide)
  refine ex_M_of ok_X11_up cw_X11_up rfl hst (Nat.le_of_ble_eq_true rfl) ?_
  refine ex_iload_n ok_X11_up (mi 0 rfl) rfl ?_
  refine ex_iconst ok_X11_up (mi 1 rfl) ?_
  refine ex_callSr (As := [_, _]) ok_X11_up (mi 2 rfl) rfl (m_reqOk hst (pk_in 0 4 (by decide)) (by decide) (by decide)) rfl rfl rfl (by decide) (Nat.le_of_ble_eq_true rfl) (by decide) ?_
  refine ex_iload_n ok_X11_up (mi 3 rfl) rfl ?_
  refine ex_iload_n ok_X11_up (mi 4 rfl) rfl ?_
  refine ex_callSr (As := [_]) ok_X11_up (mi 5 rfl) rfl (m_nodes0 hst) rfl rfl rfl (by decide) (Nat.le_of_ble_eq_true rfl) (by decide) ?_
  refine ex_callSr (As := [_, _]) ok_X11_up (mi 6 rfl) rfl (m_reqOk hst (vp_in_nI hj (by decide)) (by decide) (by decide)) rfl rfl rfl (by decide) (Nat.le_of_ble_eq_true rfl) (by decide) ?_
  refine ex_aload_n ok_X11_up (mi 7 rfl) rfl ?_
  refine ex_iload_n ok_X11_up (mi 8 rfl) rfl ?_
  refine ex_iload_n ok_X11_up (mi 9 rfl) rfl ?_
  refine ex_callVr (As := [_, _]) (v := some (.int (nI 0))) (g1 := h) ok_X11_up (mi 10 rfl) rfl ?c rfl (fk I.1 0 rfl) rfl rfl (by decide) (by decide) (Nat.le_of_ble_eq_true rfl) (by decide) ?_
  case c =>
    refine ex_M_of ok_X11_isUp cw_X11_isUp rfl hst (Nat.le_of_ble_eq_true rfl) ?_
    refine ex_iload_n ok_X11_isUp (mi 0 rfl) rfl ?_
    refine ex_if_lt (tgt := 38) ok_X11_isUp (mi 1 rfl) rfl (fun hn => absurd hn (by decide)) (fun _ => ?_)
    refine ex_iload_n ok_X11_isUp (mi 2 rfl) rfl ?_
    refine ex_iconst ok_X11_isUp (mi 3 rfl) ?_
    refine ex_icmp_ge (tgt := 38) ok_X11_isUp (mi 4 rfl) rfl (fun hn => absurd hn (by decide)) (fun _ => ?_)
    refine ex_iload_n ok_X11_isUp (mi 5 rfl) rfl ?_
    refine ex_if_lt (tgt := 38) ok_X11_isUp (mi 6 rfl) rfl (fun h10 => False.elim (nI_pos (by omega) h10)) (fun h10 => ?_)
    refine ex_iload_n ok_X11_isUp (mi 7 rfl) rfl ?_
    refine ex_iload_n ok_X11_isUp (mi 8 rfl) rfl ?_
    refine ex_callSr (As := [_]) ok_X11_isUp (mi 9 rfl) rfl (m_nodes0 hst) rfl rfl rfl (by decide) (Nat.le_of_ble_eq_true rfl) (by decide) ?_
    refine ex_icmp_ge (tgt := 38) ok_X11_isUp (mi 10 rfl) rfl (fun h18 => False.elim (absurd h18 (nI_ge hj (by decide)))) (fun h18 => ?_)
    refine ex_aload_n ok_X11_isUp (mi 11 rfl) rfl ?_
    refine ex_getRx ok_X11_isUp (mi 12 rfl) rfl rfl (fk I.1 0 rfl) (fr I.1 11 rfl) (fk I.1 9 rfl) (by decide) ?_
    refine ex_iload_n ok_X11_isUp (mi 13 rfl) rfl ?_
    refine ex_ialdx ok_X11_isUp (mi 14 rfl) (Or.inl (fk I.1 9 rfl)) (fn I.1 9 rfl) (pk_in 0 4 (by decide)) (fe he 0 rfl) ?_
    refine ex_iload_n ok_X11_isUp (mi 15 rfl) rfl ?_
    refine ex_ishr ok_X11_isUp (mi 16 rfl) ?_
    refine ex_iconst ok_X11_isUp (mi 17 rfl) ?_
    refine ex_iand ok_X11_isUp (mi 18 rfl) ?_
    refine ex_if_eq (tgt := 38) ok_X11_isUp (mi 19 rfl) rfl (fun h31 => ?_) (fun h31 => False.elim (h31 hb))
    refine ex_iconst ok_X11_isUp (mi 22 rfl) ?_
    refine ex_zret ok_X11_isUp (mi 23 rfl) rfl (by decide) ?_
    exact ⟨inlI (by decide), rfl⟩
  refine ex_istore ok_X11_up (mi 11 rfl) ?_
  refine ex_iload_n ok_X11_up (mi 12 rfl) rfl ?_
  refine ex_if_eq (tgt := 40) ok_X11_up (mi 13 rfl) rfl (fun _ => ?_) (fun hn => absurd (by decide) hn)
  refine ex_aload_n ok_X11_up (mi 25 rfl) rfl ?_
  refine ex_getRx ok_X11_up (mi 26 rfl) rfl rfl (fk I.1 0 rfl) (fr I.1 11 rfl) (fk I.1 9 rfl) (by decide) ?_
  refine ex_iload_n ok_X11_up (mi 27 rfl) rfl ?_
  refine ex_dup2 ok_X11_up (mi 28 rfl) rfl rfl ?_
  refine ex_ialdx ok_X11_up (mi 29 rfl) (Or.inl (fk I.1 9 rfl)) (fn I.1 9 rfl) (pk_in 0 4 (by decide)) (fe he 0 rfl) ?_
  refine ex_iconst ok_X11_up (mi 30 rfl) ?_
  refine ex_iload_n ok_X11_up (mi 31 rfl) rfl ?_
  refine ex_ishl ok_X11_up (mi 32 rfl) ?_
  refine ex_iconst ok_X11_up (mi 33 rfl) ?_
  refine ex_ixor ok_X11_up (mi 34 rfl) ?_
  refine ex_iand ok_X11_up (mi 35 rfl) ?_
  refine ex_iasta (ws := []) (a := 813) (j := 0) (v := ((U.1 0) &&& (((nI 1) <<< ((nI j) &&& 31)) ^^^ (-1)))) ok_X11_up (mi 36 rfl) (fk I.1 9 rfl) (fn I.1 9 rfl) (pk_in 0 4 (by decide)) (by decide) rfl ?_
  refine ex_iload ok_X11_up (mi 37 rfl) rfl ?_
  refine ex_zret ok_X11_up (mi 38 rfl) rfl (by decide) ?_
  exact ⟨inlI (by decide), INV_U I⟩
theorem e_up_0_0_1 {G : GE} (hst : (ge_l G).stackTraces = false) {x j : Nat} {U : UT} {h : GT} (I : INV x U h) (hj : j < 3) (hb : ¬ ((U.1 0 >>> (nI j &&& 31)) &&& nI 1 = 0)) : ex_M G 3 4 24 my_X11_up [.ref x, .int (nI 0), .int (nI j), .int (nI 0)] h (fun r h' => r = .inl (some (.int (nI 1))) ∧ INV x (updU U 0 ((U.1 0) &&& (((nI 1) <<< ((nI j) &&& 31)) ^^^ (-1)))) h') := by
  have he := INV_tE (s := 0) I (by decide)
  refine ex_M_of ok_X11_up cw_X11_up rfl hst (Nat.le_of_ble_eq_true rfl) ?_
  refine ex_iload_n ok_X11_up (mi 0 rfl) rfl ?_
  refine ex_iconst ok_X11_up (mi 1 rfl) ?_
  refine ex_callSr (As := [_, _]) ok_X11_up (mi 2 rfl) rfl (m_reqOk hst (pk_in 0 4 (by decide)) (by decide) (by decide)) rfl rfl rfl (by decide) (Nat.le_of_ble_eq_true rfl) (by decide) ?_
  refine ex_iload_n ok_X11_up (mi 3 rfl) rfl ?_
  refine ex_iload_n ok_X11_up (mi 4 rfl) rfl ?_
  refine ex_callSr (As := [_]) ok_X11_up (mi 5 rfl) rfl (m_nodes0 hst) rfl rfl rfl (by decide) (Nat.le_of_ble_eq_true rfl) (by decide) ?_
  refine ex_callSr (As := [_, _]) ok_X11_up (mi 6 rfl) rfl (m_reqOk hst (vp_in_nI hj (by decide)) (by decide) (by decide)) rfl rfl rfl (by decide) (Nat.le_of_ble_eq_true rfl) (by decide) ?_
  refine ex_aload_n ok_X11_up (mi 7 rfl) rfl ?_
  refine ex_iload_n ok_X11_up (mi 8 rfl) rfl ?_
  refine ex_iload_n ok_X11_up (mi 9 rfl) rfl ?_
  refine ex_callVr (As := [_, _]) (v := some (.int (nI 1))) (g1 := h) ok_X11_up (mi 10 rfl) rfl ?c rfl (fk I.1 0 rfl) rfl rfl (by decide) (by decide) (Nat.le_of_ble_eq_true rfl) (by decide) ?_
  case c =>
    refine ex_M_of ok_X11_isUp cw_X11_isUp rfl hst (Nat.le_of_ble_eq_true rfl) ?_
    refine ex_iload_n ok_X11_isUp (mi 0 rfl) rfl ?_
    refine ex_if_lt (tgt := 38) ok_X11_isUp (mi 1 rfl) rfl (fun hn => absurd hn (by decide)) (fun _ => ?_)
    refine ex_iload_n ok_X11_isUp (mi 2 rfl) rfl ?_
    refine ex_iconst ok_X11_isUp (mi 3 rfl) ?_
    refine ex_icmp_ge (tgt := 38) ok_X11_isUp (mi 4 rfl) rfl (fun hn => absurd hn (by decide)) (fun _ => ?_)
    refine ex_iload_n ok_X11_isUp (mi 5 rfl) rfl ?_
    refine ex_if_lt (tgt := 38) ok_X11_isUp (mi 6 rfl) rfl (fun h10 => False.elim (nI_pos (by omega) h10)) (fun h10 => ?_)
    refine ex_iload_n ok_X11_isUp (mi 7 rfl) rfl ?_
    refine ex_iload_n ok_X11_isUp (mi 8 rfl) rfl ?_
    refine ex_callSr (As := [_]) ok_X11_isUp (mi 9 rfl) rfl (m_nodes0 hst) rfl rfl rfl (by decide) (Nat.le_of_ble_eq_true rfl) (by decide) ?_
    refine ex_icmp_ge (tgt := 38) ok_X11_isUp (mi 10 rfl) rfl (fun h18 => False.elim (absurd h18 (nI_ge hj (by decide)))) (fun h18 => ?_)
    refine ex_aload_n ok_X11_isUp (mi 11 rfl) rfl ?_
    refine ex_getRx ok_X11_isUp (mi 12 rfl) rfl rfl (fk I.1 0 rfl) (fr I.1 11 rfl) (fk I.1 9 rfl) (by decide) ?_
    refine ex_iload_n ok_X11_isUp (mi 13 rfl) rfl ?_
    refine ex_ialdx ok_X11_isUp (mi 14 rfl) (Or.inl (fk I.1 9 rfl)) (fn I.1 9 rfl) (pk_in 0 4 (by decide)) (fe he 0 rfl) ?_
    refine ex_iload_n ok_X11_isUp (mi 15 rfl) rfl ?_
    refine ex_ishr ok_X11_isUp (mi 16 rfl) ?_
    refine ex_iconst ok_X11_isUp (mi 17 rfl) ?_
    refine ex_iand ok_X11_isUp (mi 18 rfl) ?_
    refine ex_if_eq (tgt := 38) ok_X11_isUp (mi 19 rfl) rfl (fun h31 => False.elim (hb h31)) (fun h31 => ?_)
    refine ex_iconst ok_X11_isUp (mi 20 rfl) ?_
    refine ex_goto (tgt := 39) ok_X11_isUp (mi 21 rfl) rfl ?_
    refine ex_zret ok_X11_isUp (mi 23 rfl) rfl (by decide) ?_
    exact ⟨inlI (by decide), rfl⟩
  refine ex_istore ok_X11_up (mi 11 rfl) ?_
  refine ex_iload_n ok_X11_up (mi 12 rfl) rfl ?_
  refine ex_if_eq (tgt := 40) ok_X11_up (mi 13 rfl) rfl (fun _ => ?_) (fun hn => absurd (by decide) hn)
  refine ex_aload_n ok_X11_up (mi 25 rfl) rfl ?_
  refine ex_getRx ok_X11_up (mi 26 rfl) rfl rfl (fk I.1 0 rfl) (fr I.1 11 rfl) (fk I.1 9 rfl) (by decide) ?_
  refine ex_iload_n ok_X11_up (mi 27 rfl) rfl ?_
  refine ex_dup2 ok_X11_up (mi 28 rfl) rfl rfl ?_
  refine ex_ialdx ok_X11_up (mi 29 rfl) (Or.inl (fk I.1 9 rfl)) (fn I.1 9 rfl) (pk_in 0 4 (by decide)) (fe he 0 rfl) ?_
  refine ex_iconst ok_X11_up (mi 30 rfl) ?_
  refine ex_iload_n ok_X11_up (mi 31 rfl) rfl ?_
  refine ex_ishl ok_X11_up (mi 32 rfl) ?_
  refine ex_iconst ok_X11_up (mi 33 rfl) ?_
  refine ex_ixor ok_X11_up (mi 34 rfl) ?_
  refine ex_iand ok_X11_up (mi 35 rfl) ?_
  refine ex_iasta (ws := []) (a := 813) (j := 0) (v := ((U.1 0) &&& (((nI 1) <<< ((nI j) &&& 31)) ^^^ (-1)))) ok_X11_up (mi 36 rfl) (fk I.1 9 rfl) (fn I.1 9 rfl) (pk_in 0 4 (by decide)) (by decide) rfl ?_
  refine ex_iload ok_X11_up (mi 37 rfl) rfl ?_
  refine ex_zret ok_X11_up (mi 38 rfl) rfl (by decide) ?_
  exact ⟨inlI (by decide), INV_U I⟩
theorem e_up_0_1_0 {G : GE} (hst : (ge_l G).stackTraces = false) {x j : Nat} {U : UT} {h : GT} (I : INV x U h) (hj : j < 3) (hb : (U.1 0 >>> (nI j &&& 31)) &&& nI 1 = 0) : ex_M G 3 4 24 my_X11_up [.ref x, .int (nI 0), .int (nI j), .int (nI 1)] h (fun r h' => r = .inl (some (.int (nI 0))) ∧ INV x (updU U 0 ((U.1 0) ||| ((nI 1) <<< ((nI j) &&& 31)))) h') := by
  have he := INV_tE (s := 0) I (by decide)
  refine ex_M_of ok_X11_up cw_X11_up rfl hst (Nat.le_of_ble_eq_true rfl) ?_
  refine ex_iload_n ok_X11_up (mi 0 rfl) rfl ?_
  refine ex_iconst ok_X11_up (mi 1 rfl) ?_
  refine ex_callSr (As := [_, _]) ok_X11_up (mi 2 rfl) rfl (m_reqOk hst (pk_in 0 4 (by decide)) (by decide) (by decide)) rfl rfl rfl (by decide) (Nat.le_of_ble_eq_true rfl) (by decide) ?_
  refine ex_iload_n ok_X11_up (mi 3 rfl) rfl ?_
  refine ex_iload_n ok_X11_up (mi 4 rfl) rfl ?_
  refine ex_callSr (As := [_]) ok_X11_up (mi 5 rfl) rfl (m_nodes0 hst) rfl rfl rfl (by decide) (Nat.le_of_ble_eq_true rfl) (by decide) ?_
  refine ex_callSr (As := [_, _]) ok_X11_up (mi 6 rfl) rfl (m_reqOk hst (vp_in_nI hj (by decide)) (by decide) (by decide)) rfl rfl rfl (by decide) (Nat.le_of_ble_eq_true rfl) (by decide) ?_
  refine ex_aload_n ok_X11_up (mi 7 rfl) rfl ?_
  refine ex_iload_n ok_X11_up (mi 8 rfl) rfl ?_
  refine ex_iload_n ok_X11_up (mi 9 rfl) rfl ?_
  refine ex_callVr (As := [_, _]) (v := some (.int (nI 0))) (g1 := h) ok_X11_up (mi 10 rfl) rfl ?c rfl (fk I.1 0 rfl) rfl rfl (by decide) (by decide) (Nat.le_of_ble_eq_true rfl) (by decide) ?_
  case c =>
    refine ex_M_of ok_X11_isUp cw_X11_isUp rfl hst (Nat.le_of_ble_eq_true rfl) ?_
    refine ex_iload_n ok_X11_isUp (mi 0 rfl) rfl ?_
    refine ex_if_lt (tgt := 38) ok_X11_isUp (mi 1 rfl) rfl (fun hn => absurd hn (by decide)) (fun _ => ?_)
    refine ex_iload_n ok_X11_isUp (mi 2 rfl) rfl ?_
    refine ex_iconst ok_X11_isUp (mi 3 rfl) ?_
    refine ex_icmp_ge (tgt := 38) ok_X11_isUp (mi 4 rfl) rfl (fun hn => absurd hn (by decide)) (fun _ => ?_)
    refine ex_iload_n ok_X11_isUp (mi 5 rfl) rfl ?_
    refine ex_if_lt (tgt := 38) ok_X11_isUp (mi 6 rfl) rfl (fun h10 => False.elim (nI_pos (by omega) h10)) (fun h10 => ?_)
    refine ex_iload_n ok_X11_isUp (mi 7 rfl) rfl ?_
    refine ex_iload_n ok_X11_isUp (mi 8 rfl) rfl ?_
    refine ex_callSr (As := [_]) ok_X11_isUp (mi 9 rfl) rfl (m_nodes0 hst) rfl rfl rfl (by decide) (Nat.le_of_ble_eq_true rfl) (by decide) ?_
    refine ex_icmp_ge (tgt := 38) ok_X11_isUp (mi 10 rfl) rfl (fun h18 => False.elim (absurd h18 (nI_ge hj (by decide)))) (fun h18 => ?_)
    refine ex_aload_n ok_X11_isUp (mi 11 rfl) rfl ?_
    refine ex_getRx ok_X11_isUp (mi 12 rfl) rfl rfl (fk I.1 0 rfl) (fr I.1 11 rfl) (fk I.1 9 rfl) (by decide) ?_
    refine ex_iload_n ok_X11_isUp (mi 13 rfl) rfl ?_
    refine ex_ialdx ok_X11_isUp (mi 14 rfl) (Or.inl (fk I.1 9 rfl)) (fn I.1 9 rfl) (pk_in 0 4 (by decide)) (fe he 0 rfl) ?_
    refine ex_iload_n ok_X11_isUp (mi 15 rfl) rfl ?_
    refine ex_ishr ok_X11_isUp (mi 16 rfl) ?_
    refine ex_iconst ok_X11_isUp (mi 17 rfl) ?_
    refine ex_iand ok_X11_isUp (mi 18 rfl) ?_
    refine ex_if_eq (tgt := 38) ok_X11_isUp (mi 19 rfl) rfl (fun h31 => ?_) (fun h31 => False.elim (h31 hb))
    refine ex_iconst ok_X11_isUp (mi 22 rfl) ?_
    refine ex_zret ok_X11_isUp (mi 23 rfl) rfl (by decide) ?_
    exact ⟨inlI (by decide), rfl⟩
  refine ex_istore ok_X11_up (mi 11 rfl) ?_
  refine ex_iload_n ok_X11_up (mi 12 rfl) rfl ?_
  refine ex_if_eq (tgt := 40) ok_X11_up (mi 13 rfl) rfl (fun hn => absurd hn (by decide)) (fun _ => ?_)
  refine ex_aload_n ok_X11_up (mi 14 rfl) rfl ?_
  refine ex_getRx ok_X11_up (mi 15 rfl) rfl rfl (fk I.1 0 rfl) (fr I.1 11 rfl) (fk I.1 9 rfl) (by decide) ?_
  refine ex_iload_n ok_X11_up (mi 16 rfl) rfl ?_
  refine ex_dup2 ok_X11_up (mi 17 rfl) rfl rfl ?_
  refine ex_ialdx ok_X11_up (mi 18 rfl) (Or.inl (fk I.1 9 rfl)) (fn I.1 9 rfl) (pk_in 0 4 (by decide)) (fe he 0 rfl) ?_
  refine ex_iconst ok_X11_up (mi 19 rfl) ?_
  refine ex_iload_n ok_X11_up (mi 20 rfl) rfl ?_
  refine ex_ishl ok_X11_up (mi 21 rfl) ?_
  refine ex_ior ok_X11_up (mi 22 rfl) ?_
  refine ex_iasta (ws := []) (a := 813) (j := 0) (v := ((U.1 0) ||| ((nI 1) <<< ((nI j) &&& 31)))) ok_X11_up (mi 23 rfl) (fk I.1 9 rfl) (fn I.1 9 rfl) (pk_in 0 4 (by decide)) (by decide) rfl ?_
  refine ex_goto (tgt := 54) ok_X11_up (mi 24 rfl) rfl ?_
  refine ex_iload ok_X11_up (mi 37 rfl) rfl ?_
  refine ex_zret ok_X11_up (mi 38 rfl) rfl (by decide) ?_
  exact ⟨inlI (by decide), INV_U I⟩
theorem e_up_0_1_1 {G : GE} (hst : (ge_l G).stackTraces = false) {x j : Nat} {U : UT} {h : GT} (I : INV x U h) (hj : j < 3) (hb : ¬ ((U.1 0 >>> (nI j &&& 31)) &&& nI 1 = 0)) : ex_M G 3 4 24 my_X11_up [.ref x, .int (nI 0), .int (nI j), .int (nI 1)] h (fun r h' => r = .inl (some (.int (nI 1))) ∧ INV x (updU U 0 ((U.1 0) ||| ((nI 1) <<< ((nI j) &&& 31)))) h') := by
  have he := INV_tE (s := 0) I (by decide)
  refine ex_M_of ok_X11_up cw_X11_up rfl hst (Nat.le_of_ble_eq_true rfl) ?_
  refine ex_iload_n ok_X11_up (mi 0 rfl) rfl ?_
  refine ex_iconst ok_X11_up (mi 1 rfl) ?_
  refine ex_callSr (As := [_, _]) ok_X11_up (mi 2 rfl) rfl (m_reqOk hst (pk_in 0 4 (by decide)) (by decide) (by decide)) rfl rfl rfl (by decide) (Nat.le_of_ble_eq_true rfl) (by decide) ?_
  refine ex_iload_n ok_X11_up (mi 3 rfl) rfl ?_
  refine ex_iload_n ok_X11_up (mi 4 rfl) rfl ?_
  refine ex_callSr (As := [_]) ok_X11_up (mi 5 rfl) rfl (m_nodes0 hst) rfl rfl rfl (by decide) (Nat.le_of_ble_eq_true rfl) (by decide) ?_
  refine ex_callSr (As := [_, _]) ok_X11_up (mi 6 rfl) rfl (m_reqOk hst (vp_in_nI hj (by decide)) (by decide) (by decide)) rfl rfl rfl (by decide) (Nat.le_of_ble_eq_true rfl) (by decide) ?_
  refine ex_aload_n ok_X11_up (mi 7 rfl) rfl ?_
  refine ex_iload_n ok_X11_up (mi 8 rfl) rfl ?_
  refine ex_iload_n ok_X11_up (mi 9 rfl) rfl ?_
  refine ex_callVr (As := [_, _]) (v := some (.int (nI 1))) (g1 := h) ok_X11_up (mi 10 rfl) rfl ?c rfl (fk I.1 0 rfl) rfl rfl (by decide) (by decide) (Nat.le_of_ble_eq_true rfl) (by decide) ?_
  case c =>
    refine ex_M_of ok_X11_isUp cw_X11_isUp rfl hst (Nat.le_of_ble_eq_true rfl) ?_
    refine ex_iload_n ok_X11_isUp (mi 0 rfl) rfl ?_
    refine ex_if_lt (tgt := 38) ok_X11_isUp (mi 1 rfl) rfl (fun hn => absurd hn (by decide)) (fun _ => ?_)
    refine ex_iload_n ok_X11_isUp (mi 2 rfl) rfl ?_
    refine ex_iconst ok_X11_isUp (mi 3 rfl) ?_
    refine ex_icmp_ge (tgt := 38) ok_X11_isUp (mi 4 rfl) rfl (fun hn => absurd hn (by decide)) (fun _ => ?_)
    refine ex_iload_n ok_X11_isUp (mi 5 rfl) rfl ?_
    refine ex_if_lt (tgt := 38) ok_X11_isUp (mi 6 rfl) rfl (fun h10 => False.elim (nI_pos (by omega) h10)) (fun h10 => ?_)
    refine ex_iload_n ok_X11_isUp (mi 7 rfl) rfl ?_
    refine ex_iload_n ok_X11_isUp (mi 8 rfl) rfl ?_
    refine ex_callSr (As := [_]) ok_X11_isUp (mi 9 rfl) rfl (m_nodes0 hst) rfl rfl rfl (by decide) (Nat.le_of_ble_eq_true rfl) (by decide) ?_
    refine ex_icmp_ge (tgt := 38) ok_X11_isUp (mi 10 rfl) rfl (fun h18 => False.elim (absurd h18 (nI_ge hj (by decide)))) (fun h18 => ?_)
    refine ex_aload_n ok_X11_isUp (mi 11 rfl) rfl ?_
    refine ex_getRx ok_X11_isUp (mi 12 rfl) rfl rfl (fk I.1 0 rfl) (fr I.1 11 rfl) (fk I.1 9 rfl) (by decide) ?_
    refine ex_iload_n ok_X11_isUp (mi 13 rfl) rfl ?_
    refine ex_ialdx ok_X11_isUp (mi 14 rfl) (Or.inl (fk I.1 9 rfl)) (fn I.1 9 rfl) (pk_in 0 4 (by decide)) (fe he 0 rfl) ?_
    refine ex_iload_n ok_X11_isUp (mi 15 rfl) rfl ?_
    refine ex_ishr ok_X11_isUp (mi 16 rfl) ?_
    refine ex_iconst ok_X11_isUp (mi 17 rfl) ?_
    refine ex_iand ok_X11_isUp (mi 18 rfl) ?_
    refine ex_if_eq (tgt := 38) ok_X11_isUp (mi 19 rfl) rfl (fun h31 => False.elim (hb h31)) (fun h31 => ?_)
    refine ex_iconst ok_X11_isUp (mi 20 rfl) ?_
    refine ex_goto (tgt := 39) ok_X11_isUp (mi 21 rfl) rfl ?_
    refine ex_zret ok_X11_isUp (mi 23 rfl) rfl (by decide) ?_
    exact ⟨inlI (by decide), rfl⟩
  refine ex_istore ok_X11_up (mi 11 rfl) ?_
  refine ex_iload_n ok_X11_up (mi 12 rfl) rfl ?_
  refine ex_if_eq (tgt := 40) ok_X11_up (mi 13 rfl) rfl (fun hn => absurd hn (by decide)) (fun _ => ?_)
  refine ex_aload_n ok_X11_up (mi 14 rfl) rfl ?_
  refine ex_getRx ok_X11_up (mi 15 rfl) rfl rfl (fk I.1 0 rfl) (fr I.1 11 rfl) (fk I.1 9 rfl) (by decide) ?_
  refine ex_iload_n ok_X11_up (mi 16 rfl) rfl ?_
  refine ex_dup2 ok_X11_up (mi 17 rfl) rfl rfl ?_
  refine ex_ialdx ok_X11_up (mi 18 rfl) (Or.inl (fk I.1 9 rfl)) (fn I.1 9 rfl) (pk_in 0 4 (by decide)) (fe he 0 rfl) ?_
  refine ex_iconst ok_X11_up (mi 19 rfl) ?_
  refine ex_iload_n ok_X11_up (mi 20 rfl) rfl ?_
  refine ex_ishl ok_X11_up (mi 21 rfl) ?_
  refine ex_ior ok_X11_up (mi 22 rfl) ?_
  refine ex_iasta (ws := []) (a := 813) (j := 0) (v := ((U.1 0) ||| ((nI 1) <<< ((nI j) &&& 31)))) ok_X11_up (mi 23 rfl) (fk I.1 9 rfl) (fn I.1 9 rfl) (pk_in 0 4 (by decide)) (by decide) rfl ?_
  refine ex_goto (tgt := 54) ok_X11_up (mi 24 rfl) rfl ?_
  refine ex_iload ok_X11_up (mi 37 rfl) rfl ?_
  refine ex_zret ok_X11_up (mi 38 rfl) rfl (by decide) ?_
  exact ⟨inlI (by decide), INV_U I⟩
theorem e_up_0_b {G : GE} (hst : (ge_l G).stackTraces = false) {x : Nat} {p1 p2 : Int32} {U : UT} {h : GT} (I : INV x U h) (c1 : ¬ vp_in p1 3) : ex_M G 3 4 24 my_X11_up [.ref x, .int (nI 0), .int p1, .int p2] h (fun r h' => r = .inr (cx_E 100) ∧ INV x U h') := by
  refine ex_M_of ok_X11_up cw_X11_up rfl hst (Nat.le_of_ble_eq_true rfl) ?_
  refine ex_iload_n ok_X11_up (mi 0 rfl) rfl ?_
  refine ex_iconst ok_X11_up (mi 1 rfl) ?_
  refine ex_callSr (As := [_, _]) ok_X11_up (mi 2 rfl) rfl (m_reqOk hst (pk_in 0 4 (by decide)) (by decide) (by decide)) rfl rfl rfl (by decide) (Nat.le_of_ble_eq_true rfl) (by decide) ?_
  refine ex_iload_n ok_X11_up (mi 3 rfl) rfl ?_
  refine ex_iload_n ok_X11_up (mi 4 rfl) rfl ?_
  refine ex_callSr (As := [_]) ok_X11_up (mi 5 rfl) rfl (m_nodes0 hst) rfl rfl rfl (by decide) (Nat.le_of_ble_eq_true rfl) (by decide) ?_
  refine ex_callSt (e := 100) (As := [_, _]) ok_X11_up (mi 6 rfl) rfl (m_reqBad hst c1 (by decide) (by decide)) rfl rfl rfl (by decide) (Nat.le_of_ble_eq_true rfl) (by decide) (fun n hn => ?_)
  exact ⟨rfl, INV_Z I⟩
theorem e_up_1_0_0 {G : GE} (hst : (ge_l G).stackTraces = false) {x j : Nat} {U : UT} {h : GT} (I : INV x U h) (hj : j < 9) (hb : (U.1 1 >>> (nI j &&& 31)) &&& nI 1 = 0) : ex_M G 3 4 24 my_X11_up [.ref x, .int (nI 1), .int (nI j), .int (nI 0)] h (fun r h' => r = .inl (some (.int (nI 0))) ∧ INV x (updU U 1 ((U.1 1) &&& (((nI 1) <<< ((nI j) &&& 31)) ^^^ (-1)))) h') := by
  have he := INV_tE (s := 1) I (by decide)
  refine ex_M_of ok_X11_up cw_X11_up rfl hst (Nat.le_of_ble_eq_true rfl) ?_
  refine ex_iload_n ok_X11_up (mi 0 rfl) rfl ?_
  refine ex_iconst ok_X11_up (mi 1 rfl) ?_
  refine ex_callSr (As := [_, _]) ok_X11_up (mi 2 rfl) rfl (m_reqOk hst (pk_in 1 4 (by decide)) (by decide) (by decide)) rfl rfl rfl (by decide) (Nat.le_of_ble_eq_true rfl) (by decide) ?_
  refine ex_iload_n ok_X11_up (mi 3 rfl) rfl ?_
  refine ex_iload_n ok_X11_up (mi 4 rfl) rfl ?_
  refine ex_callSr (As := [_]) ok_X11_up (mi 5 rfl) rfl (m_nodes1 hst) rfl rfl rfl (by decide) (Nat.le_of_ble_eq_true rfl) (by decide) ?_
  refine ex_callSr (As := [_, _]) ok_X11_up (mi 6 rfl) rfl (m_reqOk hst (vp_in_nI hj (by decide)) (by decide) (by decide)) rfl rfl rfl (by decide) (Nat.le_of_ble_eq_true rfl) (by decide) ?_
  refine ex_aload_n ok_X11_up (mi 7 rfl) rfl ?_
  refine ex_iload_n ok_X11_up (mi 8 rfl) rfl ?_
  refine ex_iload_n ok_X11_up (mi 9 rfl) rfl ?_
  refine ex_callVr (As := [_, _]) (v := some (.int (nI 0))) (g1 := h) ok_X11_up (mi 10 rfl) rfl ?c rfl (fk I.1 0 rfl) rfl rfl (by decide) (by decide) (Nat.le_of_ble_eq_true rfl) (by decide) ?_
  case c =>
    refine ex_M_of ok_X11_isUp cw_X11_isUp rfl hst (Nat.le_of_ble_eq_true rfl) ?_
    refine ex_iload_n ok_X11_isUp (mi 0 rfl) rfl ?_
    refine ex_if_lt (tgt := 38) ok_X11_isUp (mi 1 rfl) rfl (fun hn => absurd hn (by decide)) (fun _ => ?_)
    refine ex_iload_n ok_X11_isUp (mi 2 rfl) rfl ?_
    refine ex_iconst ok_X11_isUp (mi 3 rfl) ?_
    refine ex_icmp_ge (tgt := 38) ok_X11_isUp (mi 4 rfl) rfl (fun hn => absurd hn (by decide)) (fun _ => ?_)
    refine ex_iload_n ok_X11_isUp (mi 5 rfl) rfl ?_
    refine ex_if_lt (tgt := 38) ok_X11_isUp (mi 6 rfl) rfl (fun h10 => False.elim (nI_pos (by omega) h10)) (fun h10 => ?_)
    refine ex_iload_n ok_X11_isUp (mi 7 rfl) rfl ?_
    refine ex_iload_n ok_X11_isUp (mi 8 rfl) rfl ?_
    refine ex_callSr (As := [_]) ok_X11_isUp (mi 9 rfl) rfl (m_nodes1 hst) rfl rfl rfl (by decide) (Nat.le_of_ble_eq_true rfl) (by decide) ?_
    refine ex_icmp_ge (tgt := 38) ok_X11_isUp (mi 10 rfl) rfl (fun h18 => False.elim (absurd h18 (nI_ge hj (by decide)))) (fun h18 => ?_)
    refine ex_aload_n ok_X11_isUp (mi 11 rfl) rfl ?_
    refine ex_getRx ok_X11_isUp (mi 12 rfl) rfl rfl (fk I.1 0 rfl) (fr I.1 11 rfl) (fk I.1 9 rfl) (by decide) ?_
    refine ex_iload_n ok_X11_isUp (mi 13 rfl) rfl ?_
    refine ex_ialdx ok_X11_isUp (mi 14 rfl) (Or.inl (fk I.1 9 rfl)) (fn I.1 9 rfl) (pk_in 1 4 (by decide)) (fe he 0 rfl) ?_
    refine ex_iload_n ok_X11_isUp (mi 15 rfl) rfl ?_
    refine ex_ishr ok_X11_isUp (mi 16 rfl) ?_
    refine ex_iconst ok_X11_isUp (mi 17 rfl) ?_
    refine ex_iand ok_X11_isUp (mi 18 rfl) ?_
    refine ex_if_eq (tgt := 38) ok_X11_isUp (mi 19 rfl) rfl (fun h31 => ?_) (fun h31 => False.elim (h31 hb))
    refine ex_iconst ok_X11_isUp (mi 22 rfl) ?_
    refine ex_zret ok_X11_isUp (mi 23 rfl) rfl (by decide) ?_
    exact ⟨inlI (by decide), rfl⟩
  refine ex_istore ok_X11_up (mi 11 rfl) ?_
  refine ex_iload_n ok_X11_up (mi 12 rfl) rfl ?_
  refine ex_if_eq (tgt := 40) ok_X11_up (mi 13 rfl) rfl (fun _ => ?_) (fun hn => absurd (by decide) hn)
  refine ex_aload_n ok_X11_up (mi 25 rfl) rfl ?_
  refine ex_getRx ok_X11_up (mi 26 rfl) rfl rfl (fk I.1 0 rfl) (fr I.1 11 rfl) (fk I.1 9 rfl) (by decide) ?_
  refine ex_iload_n ok_X11_up (mi 27 rfl) rfl ?_
  refine ex_dup2 ok_X11_up (mi 28 rfl) rfl rfl ?_
  refine ex_ialdx ok_X11_up (mi 29 rfl) (Or.inl (fk I.1 9 rfl)) (fn I.1 9 rfl) (pk_in 1 4 (by decide)) (fe he 0 rfl) ?_
  refine ex_iconst ok_X11_up (mi 30 rfl) ?_
  refine ex_iload_n ok_X11_up (mi 31 rfl) rfl ?_
  refine ex_ishl ok_X11_up (mi 32 rfl) ?_
  refine ex_iconst ok_X11_up (mi 33 rfl) ?_
  refine ex_ixor ok_X11_up (mi 34 rfl) ?_
  refine ex_iand ok_X11_up (mi 35 rfl) ?_
  refine ex_iasta (ws := []) (a := 813) (j := 1) (v := ((U.1 1) &&& (((nI 1) <<< ((nI j) &&& 31)) ^^^ (-1)))) ok_X11_up (mi 36 rfl) (fk I.1 9 rfl) (fn I.1 9 rfl) (pk_in 1 4 (by decide)) (by decide) rfl ?_
  refine ex_iload ok_X11_up (mi 37 rfl) rfl ?_
  refine ex_zret ok_X11_up (mi 38 rfl) rfl (by decide) ?_
  exact ⟨inlI (by decide), INV_U I⟩
theorem e_up_1_0_1 {G : GE} (hst : (ge_l G).stackTraces = false) {x j : Nat} {U : UT} {h : GT} (I : INV x U h) (hj : j < 9) (hb : ¬ ((U.1 1 >>> (nI j &&& 31)) &&& nI 1 = 0)) : ex_M G 3 4 24 my_X11_up [.ref x, .int (nI 1), .int (nI j), .int (nI 0)] h (fun r h' => r = .inl (some (.int (nI 1))) ∧ INV x (updU U 1 ((U.1 1) &&& (((nI 1) <<< ((nI j) &&& 31)) ^^^ (-1)))) h') := by
  have he := INV_tE (s := 1) I (by decide)
  refine ex_M_of ok_X11_up cw_X11_up rfl hst (Nat.le_of_ble_eq_true rfl) ?_
  refine ex_iload_n ok_X11_up (mi 0 rfl) rfl ?_
  refine ex_iconst ok_X11_up (mi 1 rfl) ?_
  refine ex_callSr (As := [_, _]) ok_X11_up (mi 2 rfl) rfl (m_reqOk hst (pk_in 1 4 (by decide)) (by decide) (by decide)) rfl rfl rfl (by decide) (Nat.le_of_ble_eq_true rfl) (by decide) ?_
  refine ex_iload_n ok_X11_up (mi 3 rfl) rfl ?_
  refine ex_iload_n ok_X11_up (mi 4 rfl) rfl ?_
  refine ex_callSr (As := [_]) ok_X11_up (mi 5 rfl) rfl (m_nodes1 hst) rfl rfl rfl (by decide) (Nat.le_of_ble_eq_true rfl) (by decide) ?_
  refine ex_callSr (As := [_, _]) ok_X11_up (mi 6 rfl) rfl (m_reqOk hst (vp_in_nI hj (by decide)) (by decide) (by decide)) rfl rfl rfl (by decide) (Nat.le_of_ble_eq_true rfl) (by decide) ?_
  refine ex_aload_n ok_X11_up (mi 7 rfl) rfl ?_
  refine ex_iload_n ok_X11_up (mi 8 rfl) rfl ?_
  refine ex_iload_n ok_X11_up (mi 9 rfl) rfl ?_
  refine ex_callVr (As := [_, _]) (v := some (.int (nI 1))) (g1 := h) ok_X11_up (mi 10 rfl) rfl ?c rfl (fk I.1 0 rfl) rfl rfl (by decide) (by decide) (Nat.le_of_ble_eq_true rfl) (by decide) ?_
  case c =>
    refine ex_M_of ok_X11_isUp cw_X11_isUp rfl hst (Nat.le_of_ble_eq_true rfl) ?_
    refine ex_iload_n ok_X11_isUp (mi 0 rfl) rfl ?_
    refine ex_if_lt (tgt := 38) ok_X11_isUp (mi 1 rfl) rfl (fun hn => absurd hn (by decide)) (fun _ => ?_)
    refine ex_iload_n ok_X11_isUp (mi 2 rfl) rfl ?_
    refine ex_iconst ok_X11_isUp (mi 3 rfl) ?_
    refine ex_icmp_ge (tgt := 38) ok_X11_isUp (mi 4 rfl) rfl (fun hn => absurd hn (by decide)) (fun _ => ?_)
    refine ex_iload_n ok_X11_isUp (mi 5 rfl) rfl ?_
    refine ex_if_lt (tgt := 38) ok_X11_isUp (mi 6 rfl) rfl (fun h10 => False.elim (nI_pos (by omega) h10)) (fun h10 => ?_)
    refine ex_iload_n ok_X11_isUp (mi 7 rfl) rfl ?_
    refine ex_iload_n ok_X11_isUp (mi 8 rfl) rfl ?_
    refine ex_callSr (As := [_]) ok_X11_isUp (mi 9 rfl) rfl (m_nodes1 hst) rfl rfl rfl (by decide) (Nat.le_of_ble_eq_true rfl) (by decide) ?_
    refine ex_icmp_ge (tgt := 38) ok_X11_isUp (mi 10 rfl) rfl (fun h18 => False.elim (absurd h18 (nI_ge hj (by decide)))) (fun h18 => ?_)
    refine ex_aload_n ok_X11_isUp (mi 11 rfl) rfl ?_
    refine ex_getRx ok_X11_isUp (mi 12 rfl) rfl rfl (fk I.1 0 rfl) (fr I.1 11 rfl) (fk I.1 9 rfl) (by decide) ?_
    refine ex_iload_n ok_X11_isUp (mi 13 rfl) rfl ?_
    refine ex_ialdx ok_X11_isUp (mi 14 rfl) (Or.inl (fk I.1 9 rfl)) (fn I.1 9 rfl) (pk_in 1 4 (by decide)) (fe he 0 rfl) ?_
    refine ex_iload_n ok_X11_isUp (mi 15 rfl) rfl ?_
    refine ex_ishr ok_X11_isUp (mi 16 rfl) ?_
    refine ex_iconst ok_X11_isUp (mi 17 rfl) ?_
    refine ex_iand ok_X11_isUp (mi 18 rfl) ?_
    refine ex_if_eq (tgt := 38) ok_X11_isUp (mi 19 rfl) rfl (fun h31 => False.elim (hb h31)) (fun h31 => ?_)
    refine ex_iconst ok_X11_isUp (mi 20 rfl) ?_
    refine ex_goto (tgt := 39) ok_X11_isUp (mi 21 rfl) rfl ?_
    refine ex_zret ok_X11_isUp (mi 23 rfl) rfl (by decide) ?_
    exact ⟨inlI (by decide), rfl⟩
  refine ex_istore ok_X11_up (mi 11 rfl) ?_
  refine ex_iload_n ok_X11_up (mi 12 rfl) rfl ?_
  refine ex_if_eq (tgt := 40) ok_X11_up (mi 13 rfl) rfl (fun _ => ?_) (fun hn => absurd (by decide) hn)
  refine ex_aload_n ok_X11_up (mi 25 rfl) rfl ?_
  refine ex_getRx ok_X11_up (mi 26 rfl) rfl rfl (fk I.1 0 rfl) (fr I.1 11 rfl) (fk I.1 9 rfl) (by decide) ?_
  refine ex_iload_n ok_X11_up (mi 27 rfl) rfl ?_
  refine ex_dup2 ok_X11_up (mi 28 rfl) rfl rfl ?_
  refine ex_ialdx ok_X11_up (mi 29 rfl) (Or.inl (fk I.1 9 rfl)) (fn I.1 9 rfl) (pk_in 1 4 (by decide)) (fe he 0 rfl) ?_
  refine ex_iconst ok_X11_up (mi 30 rfl) ?_
  refine ex_iload_n ok_X11_up (mi 31 rfl) rfl ?_
  refine ex_ishl ok_X11_up (mi 32 rfl) ?_
  refine ex_iconst ok_X11_up (mi 33 rfl) ?_
  refine ex_ixor ok_X11_up (mi 34 rfl) ?_
  refine ex_iand ok_X11_up (mi 35 rfl) ?_
  refine ex_iasta (ws := []) (a := 813) (j := 1) (v := ((U.1 1) &&& (((nI 1) <<< ((nI j) &&& 31)) ^^^ (-1)))) ok_X11_up (mi 36 rfl) (fk I.1 9 rfl) (fn I.1 9 rfl) (pk_in 1 4 (by decide)) (by decide) rfl ?_
  refine ex_iload ok_X11_up (mi 37 rfl) rfl ?_
  refine ex_zret ok_X11_up (mi 38 rfl) rfl (by decide) ?_
  exact ⟨inlI (by decide), INV_U I⟩
theorem e_up_1_1_0 {G : GE} (hst : (ge_l G).stackTraces = false) {x j : Nat} {U : UT} {h : GT} (I : INV x U h) (hj : j < 9) (hb : (U.1 1 >>> (nI j &&& 31)) &&& nI 1 = 0) : ex_M G 3 4 24 my_X11_up [.ref x, .int (nI 1), .int (nI j), .int (nI 1)] h (fun r h' => r = .inl (some (.int (nI 0))) ∧ INV x (updU U 1 ((U.1 1) ||| ((nI 1) <<< ((nI j) &&& 31)))) h') := by
  have he := INV_tE (s := 1) I (by decide)
  refine ex_M_of ok_X11_up cw_X11_up rfl hst (Nat.le_of_ble_eq_true rfl) ?_
  refine ex_iload_n ok_X11_up (mi 0 rfl) rfl ?_
  refine ex_iconst ok_X11_up (mi 1 rfl) ?_
  refine ex_callSr (As := [_, _]) ok_X11_up (mi 2 rfl) rfl (m_reqOk hst (pk_in 1 4 (by decide)) (by decide) (by decide)) rfl rfl rfl (by decide) (Nat.le_of_ble_eq_true rfl) (by decide) ?_
  refine ex_iload_n ok_X11_up (mi 3 rfl) rfl ?_
  refine ex_iload_n ok_X11_up (mi 4 rfl) rfl ?_
  refine ex_callSr (As := [_]) ok_X11_up (mi 5 rfl) rfl (m_nodes1 hst) rfl rfl rfl (by decide) (Nat.le_of_ble_eq_true rfl) (by decide) ?_
  refine ex_callSr (As := [_, _]) ok_X11_up (mi 6 rfl) rfl (m_reqOk hst (vp_in_nI hj (by decide)) (by decide) (by decide)) rfl rfl rfl (by decide) (Nat.le_of_ble_eq_true rfl) (by decide) ?_
  refine ex_aload_n ok_X11_up (mi 7 rfl) rfl ?_
  refine ex_iload_n ok_X11_up (mi 8 rfl) rfl ?_
  refine ex_iload_n ok_X11_up (mi 9 rfl) rfl ?_
  refine ex_callVr (As := [_, _]) (v := some (.int (nI 0))) (g1 := h) ok_X11_up (mi 10 rfl) rfl ?c rfl (fk I.1 0 rfl) rfl rfl (by decide) (by decide) (Nat.le_of_ble_eq_true rfl) (by decide) ?_
  case c =>
    refine ex_M_of ok_X11_isUp cw_X11_isUp rfl hst (Nat.le_of_ble_eq_true rfl) ?_
    refine ex_iload_n ok_X11_isUp (mi 0 rfl) rfl ?_
    refine ex_if_lt (tgt := 38) ok_X11_isUp (mi 1 rfl) rfl (fun hn => absurd hn (by decide)) (fun _ => ?_)
    refine ex_iload_n ok_X11_isUp (mi 2 rfl) rfl ?_
    refine ex_iconst ok_X11_isUp (mi 3 rfl) ?_
    refine ex_icmp_ge (tgt := 38) ok_X11_isUp (mi 4 rfl) rfl (fun hn => absurd hn (by decide)) (fun _ => ?_)
    refine ex_iload_n ok_X11_isUp (mi 5 rfl) rfl ?_
    refine ex_if_lt (tgt := 38) ok_X11_isUp (mi 6 rfl) rfl (fun h10 => False.elim (nI_pos (by omega) h10)) (fun h10 => ?_)
    refine ex_iload_n ok_X11_isUp (mi 7 rfl) rfl ?_
    refine ex_iload_n ok_X11_isUp (mi 8 rfl) rfl ?_
    refine ex_callSr (As := [_]) ok_X11_isUp (mi 9 rfl) rfl (m_nodes1 hst) rfl rfl rfl (by decide) (Nat.le_of_ble_eq_true rfl) (by decide) ?_
    refine ex_icmp_ge (tgt := 38) ok_X11_isUp (mi 10 rfl) rfl (fun h18 => False.elim (absurd h18 (nI_ge hj (by decide)))) (fun h18 => ?_)
    refine ex_aload_n ok_X11_isUp (mi 11 rfl) rfl ?_
    refine ex_getRx ok_X11_isUp (mi 12 rfl) rfl rfl (fk I.1 0 rfl) (fr I.1 11 rfl) (fk I.1 9 rfl) (by decide) ?_
    refine ex_iload_n ok_X11_isUp (mi 13 rfl) rfl ?_
    refine ex_ialdx ok_X11_isUp (mi 14 rfl) (Or.inl (fk I.1 9 rfl)) (fn I.1 9 rfl) (pk_in 1 4 (by decide)) (fe he 0 rfl) ?_
    refine ex_iload_n ok_X11_isUp (mi 15 rfl) rfl ?_
    refine ex_ishr ok_X11_isUp (mi 16 rfl) ?_
    refine ex_iconst ok_X11_isUp (mi 17 rfl) ?_
    refine ex_iand ok_X11_isUp (mi 18 rfl) ?_
    refine ex_if_eq (tgt := 38) ok_X11_isUp (mi 19 rfl) rfl (fun h31 => ?_) (fun h31 => False.elim (h31 hb))
    refine ex_iconst ok_X11_isUp (mi 22 rfl) ?_
    refine ex_zret ok_X11_isUp (mi 23 rfl) rfl (by decide) ?_
    exact ⟨inlI (by decide), rfl⟩
  refine ex_istore ok_X11_up (mi 11 rfl) ?_
  refine ex_iload_n ok_X11_up (mi 12 rfl) rfl ?_
  refine ex_if_eq (tgt := 40) ok_X11_up (mi 13 rfl) rfl (fun hn => absurd hn (by decide)) (fun _ => ?_)
  refine ex_aload_n ok_X11_up (mi 14 rfl) rfl ?_
  refine ex_getRx ok_X11_up (mi 15 rfl) rfl rfl (fk I.1 0 rfl) (fr I.1 11 rfl) (fk I.1 9 rfl) (by decide) ?_
  refine ex_iload_n ok_X11_up (mi 16 rfl) rfl ?_
  refine ex_dup2 ok_X11_up (mi 17 rfl) rfl rfl ?_
  refine ex_ialdx ok_X11_up (mi 18 rfl) (Or.inl (fk I.1 9 rfl)) (fn I.1 9 rfl) (pk_in 1 4 (by decide)) (fe he 0 rfl) ?_
  refine ex_iconst ok_X11_up (mi 19 rfl) ?_
  refine ex_iload_n ok_X11_up (mi 20 rfl) rfl ?_
  refine ex_ishl ok_X11_up (mi 21 rfl) ?_
  refine ex_ior ok_X11_up (mi 22 rfl) ?_
  refine ex_iasta (ws := []) (a := 813) (j := 1) (v := ((U.1 1) ||| ((nI 1) <<< ((nI j) &&& 31)))) ok_X11_up (mi 23 rfl) (fk I.1 9 rfl) (fn I.1 9 rfl) (pk_in 1 4 (by decide)) (by decide) rfl ?_
  refine ex_goto (tgt := 54) ok_X11_up (mi 24 rfl) rfl ?_
  refine ex_iload ok_X11_up (mi 37 rfl) rfl ?_
  refine ex_zret ok_X11_up (mi 38 rfl) rfl (by decide) ?_
  exact ⟨inlI (by decide), INV_U I⟩
theorem e_up_1_1_1 {G : GE} (hst : (ge_l G).stackTraces = false) {x j : Nat} {U : UT} {h : GT} (I : INV x U h) (hj : j < 9) (hb : ¬ ((U.1 1 >>> (nI j &&& 31)) &&& nI 1 = 0)) : ex_M G 3 4 24 my_X11_up [.ref x, .int (nI 1), .int (nI j), .int (nI 1)] h (fun r h' => r = .inl (some (.int (nI 1))) ∧ INV x (updU U 1 ((U.1 1) ||| ((nI 1) <<< ((nI j) &&& 31)))) h') := by
  have he := INV_tE (s := 1) I (by decide)
  refine ex_M_of ok_X11_up cw_X11_up rfl hst (Nat.le_of_ble_eq_true rfl) ?_
  refine ex_iload_n ok_X11_up (mi 0 rfl) rfl ?_
  refine ex_iconst ok_X11_up (mi 1 rfl) ?_
  refine ex_callSr (As := [_, _]) ok_X11_up (mi 2 rfl) rfl (m_reqOk hst (pk_in 1 4 (by decide)) (by decide) (by decide)) rfl rfl rfl (by decide) (Nat.le_of_ble_eq_true rfl) (by decide) ?_
  refine ex_iload_n ok_X11_up (mi 3 rfl) rfl ?_
  refine ex_iload_n ok_X11_up (mi 4 rfl) rfl ?_
  refine ex_callSr (As := [_]) ok_X11_up (mi 5 rfl) rfl (m_nodes1 hst) rfl rfl rfl (by decide) (Nat.le_of_ble_eq_true rfl) (by decide) ?_
  refine ex_callSr (As := [_, _]) ok_X11_up (mi 6 rfl) rfl (m_reqOk hst (vp_in_nI hj (by decide)) (by decide) (by decide)) rfl rfl rfl (by decide) (Nat.le_of_ble_eq_true rfl) (by decide) ?_
  refine ex_aload_n ok_X11_up (mi 7 rfl) rfl ?_
  refine ex_iload_n ok_X11_up (mi 8 rfl) rfl ?_
  refine ex_iload_n ok_X11_up (mi 9 rfl) rfl ?_
  refine ex_callVr (As := [_, _]) (v := some (.int (nI 1))) (g1 := h) ok_X11_up (mi 10 rfl) rfl ?c rfl (fk I.1 0 rfl) rfl rfl (by decide) (by decide) (Nat.le_of_ble_eq_true rfl) (by decide) ?_
  case c =>
    refine ex_M_of ok_X11_isUp cw_X11_isUp rfl hst (Nat.le_of_ble_eq_true rfl) ?_
    refine ex_iload_n ok_X11_isUp (mi 0 rfl) rfl ?_
    refine ex_if_lt (tgt := 38) ok_X11_isUp (mi 1 rfl) rfl (fun hn => absurd hn (by decide)) (fun _ => ?_)
    refine ex_iload_n ok_X11_isUp (mi 2 rfl) rfl ?_
    refine ex_iconst ok_X11_isUp (mi 3 rfl) ?_
    refine ex_icmp_ge (tgt := 38) ok_X11_isUp (mi 4 rfl) rfl (fun hn => absurd hn (by decide)) (fun _ => ?_)
    refine ex_iload_n ok_X11_isUp (mi 5 rfl) rfl ?_
    refine ex_if_lt (tgt := 38) ok_X11_isUp (mi 6 rfl) rfl (fun h10 => False.elim (nI_pos (by omega) h10)) (fun h10 => ?_)
    refine ex_iload_n ok_X11_isUp (mi 7 rfl) rfl ?_
    refine ex_iload_n ok_X11_isUp (mi 8 rfl) rfl ?_
    refine ex_callSr (As := [_]) ok_X11_isUp (mi 9 rfl) rfl (m_nodes1 hst) rfl rfl rfl (by decide) (Nat.le_of_ble_eq_true rfl) (by decide) ?_
    refine ex_icmp_ge (tgt := 38) ok_X11_isUp (mi 10 rfl) rfl (fun h18 => False.elim (absurd h18 (nI_ge hj (by decide)))) (fun h18 => ?_)
    refine ex_aload_n ok_X11_isUp (mi 11 rfl) rfl ?_
    refine ex_getRx ok_X11_isUp (mi 12 rfl) rfl rfl (fk I.1 0 rfl) (fr I.1 11 rfl) (fk I.1 9 rfl) (by decide) ?_
    refine ex_iload_n ok_X11_isUp (mi 13 rfl) rfl ?_
    refine ex_ialdx ok_X11_isUp (mi 14 rfl) (Or.inl (fk I.1 9 rfl)) (fn I.1 9 rfl) (pk_in 1 4 (by decide)) (fe he 0 rfl) ?_
    refine ex_iload_n ok_X11_isUp (mi 15 rfl) rfl ?_
    refine ex_ishr ok_X11_isUp (mi 16 rfl) ?_
    refine ex_iconst ok_X11_isUp (mi 17 rfl) ?_
    refine ex_iand ok_X11_isUp (mi 18 rfl) ?_
    refine ex_if_eq (tgt := 38) ok_X11_isUp (mi 19 rfl) rfl (fun h31 => False.elim (hb h31)) (fun h31 => ?_)
    refine ex_iconst ok_X11_isUp (mi 20 rfl) ?_
    refine ex_goto (tgt := 39) ok_X11_isUp (mi 21 rfl) rfl ?_
    refine ex_zret ok_X11_isUp (mi 23 rfl) rfl (by decide) ?_
    exact ⟨inlI (by decide), rfl⟩
  refine ex_istore ok_X11_up (mi 11 rfl) ?_
  refine ex_iload_n ok_X11_up (mi 12 rfl) rfl ?_
  refine ex_if_eq (tgt := 40) ok_X11_up (mi 13 rfl) rfl (fun hn => absurd hn (by decide)) (fun _ => ?_)
  refine ex_aload_n ok_X11_up (mi 14 rfl) rfl ?_
  refine ex_getRx ok_X11_up (mi 15 rfl) rfl rfl (fk I.1 0 rfl) (fr I.1 11 rfl) (fk I.1 9 rfl) (by decide) ?_
  refine ex_iload_n ok_X11_up (mi 16 rfl) rfl ?_
  refine ex_dup2 ok_X11_up (mi 17 rfl) rfl rfl ?_
  refine ex_ialdx ok_X11_up (mi 18 rfl) (Or.inl (fk I.1 9 rfl)) (fn I.1 9 rfl) (pk_in 1 4 (by decide)) (fe he 0 rfl) ?_
  refine ex_iconst ok_X11_up (mi 19 rfl) ?_
  refine ex_iload_n ok_X11_up (mi 20 rfl) rfl ?_
  refine ex_ishl ok_X11_up (mi 21 rfl) ?_
  refine ex_ior ok_X11_up (mi 22 rfl) ?_
  refine ex_iasta (ws := []) (a := 813) (j := 1) (v := ((U.1 1) ||| ((nI 1) <<< ((nI j) &&& 31)))) ok_X11_up (mi 23 rfl) (fk I.1 9 rfl) (fn I.1 9 rfl) (pk_in 1 4 (by decide)) (by decide) rfl ?_
  refine ex_goto (tgt := 54) ok_X11_up (mi 24 rfl) rfl ?_
  refine ex_iload ok_X11_up (mi 37 rfl) rfl ?_
  refine ex_zret ok_X11_up (mi 38 rfl) rfl (by decide) ?_
  exact ⟨inlI (by decide), INV_U I⟩
theorem e_up_1_b {G : GE} (hst : (ge_l G).stackTraces = false) {x : Nat} {p1 p2 : Int32} {U : UT} {h : GT} (I : INV x U h) (c1 : ¬ vp_in p1 9) : ex_M G 3 4 24 my_X11_up [.ref x, .int (nI 1), .int p1, .int p2] h (fun r h' => r = .inr (cx_E 100) ∧ INV x U h') := by
  refine ex_M_of ok_X11_up cw_X11_up rfl hst (Nat.le_of_ble_eq_true rfl) ?_
  refine ex_iload_n ok_X11_up (mi 0 rfl) rfl ?_
  refine ex_iconst ok_X11_up (mi 1 rfl) ?_
  refine ex_callSr (As := [_, _]) ok_X11_up (mi 2 rfl) rfl (m_reqOk hst (pk_in 1 4 (by decide)) (by decide) (by decide)) rfl rfl rfl (by decide) (Nat.le_of_ble_eq_true rfl) (by decide) ?_
  refine ex_iload_n ok_X11_up (mi 3 rfl) rfl ?_
  refine ex_iload_n ok_X11_up (mi 4 rfl) rfl ?_
  refine ex_callSr (As := [_]) ok_X11_up (mi 5 rfl) rfl (m_nodes1 hst) rfl rfl rfl (by decide) (Nat.le_of_ble_eq_true rfl) (by decide) ?_
  refine ex_callSt (e := 100) (As := [_, _]) ok_X11_up (mi 6 rfl) rfl (m_reqBad hst c1 (by decide) (by decide)) rfl rfl rfl (by decide) (Nat.le_of_ble_eq_true rfl) (by decide) (fun n hn => ?_)
  exact ⟨rfl, INV_Z I⟩
theorem e_up_2_0_0 {G : GE} (hst : (ge_l G).stackTraces = false) {x j : Nat} {U : UT} {h : GT} (I : INV x U h) (hj : j < 12) (hb : (U.1 2 >>> (nI j &&& 31)) &&& nI 1 = 0) : ex_M G 3 4 24 my_X11_up [.ref x, .int (nI 2), .int (nI j), .int (nI 0)] h (fun r h' => r = .inl (some (.int (nI 0))) ∧ INV x (updU U 2 ((U.1 2) &&& (((nI 1) <<< ((nI j) &&& 31)) ^^^ (-1)))) h') := by
  have he := INV_tE (s := 2) I (by decide)
  refine ex_M_of ok_X11_up cw_X11_up rfl hst (Nat.le_of_ble_eq_true rfl) ?_
  refine ex_iload_n ok_X11_up (mi 0 rfl) rfl ?_
  refine ex_iconst ok_X11_up (mi 1 rfl) ?_
  refine ex_callSr (As := [_, _]) ok_X11_up (mi 2 rfl) rfl (m_reqOk hst (pk_in 2 4 (by decide)) (by decide) (by decide)) rfl rfl rfl (by decide) (Nat.le_of_ble_eq_true rfl) (by decide) ?_
  refine ex_iload_n ok_X11_up (mi 3 rfl) rfl ?_
  refine ex_iload_n ok_X11_up (mi 4 rfl) rfl ?_
  refine ex_callSr (As := [_]) ok_X11_up (mi 5 rfl) rfl (m_nodes2 hst) rfl rfl rfl (by decide) (Nat.le_of_ble_eq_true rfl) (by decide) ?_
  refine ex_callSr (As := [_, _]) ok_X11_up (mi 6 rfl) rfl (m_reqOk hst (vp_in_nI hj (by decide)) (by decide) (by decide)) rfl rfl rfl (by decide) (Nat.le_of_ble_eq_true rfl) (by decide) ?_
  refine ex_aload_n ok_X11_up (mi 7 rfl) rfl ?_
  refine ex_iload_n ok_X11_up (mi 8 rfl) rfl ?_
  refine ex_iload_n ok_X11_up (mi 9 rfl) rfl ?_
  refine ex_callVr (As := [_, _]) (v := some (.int (nI 0))) (g1 := h) ok_X11_up (mi 10 rfl) rfl ?c rfl (fk I.1 0 rfl) rfl rfl (by decide) (by decide) (Nat.le_of_ble_eq_true rfl) (by decide) ?_
  case c =>
    refine ex_M_of ok_X11_isUp cw_X11_isUp rfl hst (Nat.le_of_ble_eq_true rfl) ?_
    refine ex_iload_n ok_X11_isUp (mi 0 rfl) rfl ?_
    refine ex_if_lt (tgt := 38) ok_X11_isUp (mi 1 rfl) rfl (fun hn => absurd hn (by decide)) (fun _ => ?_)
    refine ex_iload_n ok_X11_isUp (mi 2 rfl) rfl ?_
    refine ex_iconst ok_X11_isUp (mi 3 rfl) ?_
    refine ex_icmp_ge (tgt := 38) ok_X11_isUp (mi 4 rfl) rfl (fun hn => absurd hn (by decide)) (fun _ => ?_)
    refine ex_iload_n ok_X11_isUp (mi 5 rfl) rfl ?_
    refine ex_if_lt (tgt := 38) ok_X11_isUp (mi 6 rfl) rfl (fun h10 => False.elim (nI_pos (by omega) h10)) (fun h10 => ?_)
    refine ex_iload_n ok_X11_isUp (mi 7 rfl) rfl ?_
    refine ex_iload_n ok_X11_isUp (mi 8 rfl) rfl ?_
    refine ex_callSr (As := [_]) ok_X11_isUp (mi 9 rfl) rfl (m_nodes2 hst) rfl rfl rfl (by decide) (Nat.le_of_ble_eq_true rfl) (by decide) ?_
    refine ex_icmp_ge (tgt := 38) ok_X11_isUp (mi 10 rfl) rfl (fun h18 => False.elim (absurd h18 (nI_ge hj (by decide)))) (fun h18 => ?_)
    refine ex_aload_n ok_X11_isUp (mi 11 rfl) rfl ?_
    refine ex_getRx ok_X11_isUp (mi 12 rfl) rfl rfl (fk I.1 0 rfl) (fr I.1 11 rfl) (fk I.1 9 rfl) (by decide) ?_
    refine ex_iload_n ok_X11_isUp (mi 13 rfl) rfl ?_
    refine ex_ialdx ok_X11_isUp (mi 14 rfl) (Or.inl (fk I.1 9 rfl)) (fn I.1 9 rfl) (pk_in 2 4 (by decide)) (fe he 0 rfl) ?_
    refine ex_iload_n ok_X11_isUp (mi 15 rfl) rfl ?_
    refine ex_ishr ok_X11_isUp (mi 16 rfl) ?_
    refine ex_iconst ok_X11_isUp (mi 17 rfl) ?_
    refine ex_iand ok_X11_isUp (mi 18 rfl) ?_
    refine ex_if_eq (tgt := 38) ok_X11_isUp (mi 19 rfl) rfl (fun h31 => ?_) (fun h31 => False.elim (h31 hb))
    refine ex_iconst ok_X11_isUp (mi 22 rfl) ?_
    refine ex_zret ok_X11_isUp (mi 23 rfl) rfl (by decide) ?_
    exact ⟨inlI (by decide), rfl⟩
  refine ex_istore ok_X11_up (mi 11 rfl) ?_
  refine ex_iload_n ok_X11_up (mi 12 rfl) rfl ?_
  refine ex_if_eq (tgt := 40) ok_X11_up (mi 13 rfl) rfl (fun _ => ?_) (fun hn => absurd (by decide) hn)
  refine ex_aload_n ok_X11_up (mi 25 rfl) rfl ?_
  refine ex_getRx ok_X11_up (mi 26 rfl) rfl rfl (fk I.1 0 rfl) (fr I.1 11 rfl) (fk I.1 9 rfl) (by decide) ?_
  refine ex_iload_n ok_X11_up (mi 27 rfl) rfl ?_
  refine ex_dup2 ok_X11_up (mi 28 rfl) rfl rfl ?_
  refine ex_ialdx ok_X11_up (mi 29 rfl) (Or.inl (fk I.1 9 rfl)) (fn I.1 9 rfl) (pk_in 2 4 (by decide)) (fe he 0 rfl) ?_
  refine ex_iconst ok_X11_up (mi 30 rfl) ?_
  refine ex_iload_n ok_X11_up (mi 31 rfl) rfl ?_
  refine ex_ishl ok_X11_up (mi 32 rfl) ?_
  refine ex_iconst ok_X11_up (mi 33 rfl) ?_
  refine ex_ixor ok_X11_up (mi 34 rfl) ?_
  refine ex_iand ok_X11_up (mi 35 rfl) ?_
  refine ex_iasta (ws := []) (a := 813) (j := 2) (v := ((U.1 2) &&& (((nI 1) <<< ((nI j) &&& 31)) ^^^ (-1)))) ok_X11_up (mi 36 rfl) (fk I.1 9 rfl) (fn I.1 9 rfl) (pk_in 2 4 (by decide)) (by decide) rfl ?_
  refine ex_iload ok_X11_up (mi 37 rfl) rfl ?_
  refine ex_zret ok_X11_up (mi 38 rfl) rfl (by decide) ?_
  exact ⟨inlI (by decide), INV_U I⟩
theorem e_up_2_0_1 {G : GE} (hst : (ge_l G).stackTraces = false) {x j : Nat} {U : UT} {h : GT} (I : INV x U h) (hj : j < 12) (hb : ¬ ((U.1 2 >>> (nI j &&& 31)) &&& nI 1 = 0)) : ex_M G 3 4 24 my_X11_up [.ref x, .int (nI 2), .int (nI j), .int (nI 0)] h (fun r h' => r = .inl (some (.int (nI 1))) ∧ INV x (updU U 2 ((U.1 2) &&& (((nI 1) <<< ((nI j) &&& 31)) ^^^ (-1)))) h') := by
  have he := INV_tE (s := 2) I (by decide)
  refine ex_M_of ok_X11_up cw_X11_up rfl hst (Nat.le_of_ble_eq_true rfl) ?_
  refine ex_iload_n ok_X11_up (mi 0 rfl) rfl ?_
  refine ex_iconst ok_X11_up (mi 1 rfl) ?_
  refine ex_callSr (As := [_, _]) ok_X11_up (mi 2 rfl) rfl (m_reqOk hst (pk_in 2 4 (by decide)) (by decide) (by decide)) rfl rfl rfl (by decide) (Nat.le_of_ble_eq_true rfl) (by decide) ?_
  refine ex_iload_n ok_X11_up (mi 3 rfl) rfl ?_
  refine ex_iload_n ok_X11_up (mi 4 rfl) rfl ?_
  refine ex_callSr (As := [_]) ok_X11_up (mi 5 rfl) rfl (m_nodes2 hst) rfl rfl rfl (by decide) (Nat.le_of_ble_eq_true rfl) (by decide) ?_
  refine ex_callSr (As := [_, _]) ok_X11_up (mi 6 rfl) rfl (m_reqOk hst (vp_in_nI hj (by decide)) (by decide) (by decide)) rfl rfl rfl (by decide) (Nat.le_of_ble_eq_true rfl) (by decide) ?_
  refine ex_aload_n ok_X11_up (mi 7 rfl) rfl ?_
  refine ex_iload_n ok_X11_up (mi 8 rfl) rfl ?_
  refine ex_iload_n ok_X11_up (mi 9 rfl) rfl ?_
  refine ex_callVr (As := [_, _]) (v := some (.int (nI 1))) (g1 := h) ok_X11_up (mi 10 rfl) rfl ?c rfl (fk I.1 0 rfl) rfl rfl (by decide) (by decide) (Nat.le_of_ble_eq_true rfl) (by decide) ?_
  case c =>
    refine ex_M_of ok_X11_isUp cw_X11_isUp rfl hst (Nat.le_of_ble_eq_true rfl) ?_
    refine ex_iload_n ok_X11_isUp (mi 0 rfl) rfl ?_
    refine ex_if_lt (tgt := 38) ok_X11_isUp (mi 1 rfl) rfl (fun hn => absurd hn (by decide)) (fun _ => ?_)
    refine ex_iload_n ok_X11_isUp (mi 2 rfl) rfl ?_
    refine ex_iconst ok_X11_isUp (mi 3 rfl) ?_
    refine ex_icmp_ge (tgt := 38) ok_X11_isUp (mi 4 rfl) rfl (fun hn => absurd hn (by decide)) (fun _ => ?_)
    refine ex_iload_n ok_X11_isUp (mi 5 rfl) rfl ?_
    refine ex_if_lt (tgt := 38) ok_X11_isUp (mi 6 rfl) rfl (fun h10 => False.elim (nI_pos (by omega) h10)) (fun h10 => ?_)
    refine ex_iload_n ok_X11_isUp (mi 7 rfl) rfl ?_
    refine ex_iload_n ok_X11_isUp (mi 8 rfl) rfl ?_
    refine ex_callSr (As := [_]) ok_X11_isUp (mi 9 rfl) rfl (m_nodes2 hst) rfl rfl rfl (by decide) (Nat.le_of_ble_eq_true rfl) (by decide) ?_
    refine ex_icmp_ge (tgt := 38) ok_X11_isUp (mi 10 rfl) rfl (fun h18 => False.elim (absurd h18 (nI_ge hj (by decide)))) (fun h18 => ?_)
    refine ex_aload_n ok_X11_isUp (mi 11 rfl) rfl ?_
    refine ex_getRx ok_X11_isUp (mi 12 rfl) rfl rfl (fk I.1 0 rfl) (fr I.1 11 rfl) (fk I.1 9 rfl) (by decide) ?_
    refine ex_iload_n ok_X11_isUp (mi 13 rfl) rfl ?_
    refine ex_ialdx ok_X11_isUp (mi 14 rfl) (Or.inl (fk I.1 9 rfl)) (fn I.1 9 rfl) (pk_in 2 4 (by decide)) (fe he 0 rfl) ?_
    refine ex_iload_n ok_X11_isUp (mi 15 rfl) rfl ?_
    refine ex_ishr ok_X11_isUp (mi 16 rfl) ?_
    refine ex_iconst ok_X11_isUp (mi 17 rfl) ?_
    refine ex_iand ok_X11_isUp (mi 18 rfl) ?_
    refine ex_if_eq (tgt := 38) ok_X11_isUp (mi 19 rfl) rfl (fun h31 => False.elim (hb h31)) (fun h31 => ?_)
    refine ex_iconst ok_X11_isUp (mi 20 rfl) ?_
    refine ex_goto (tgt := 39) ok_X11_isUp (mi 21 rfl) rfl ?_
    refine ex_zret ok_X11_isUp (mi 23 rfl) rfl (by decide) ?_
    exact ⟨inlI (by decide), rfl⟩
  refine ex_istore ok_X11_up (mi 11 rfl) ?_
  refine ex_iload_n ok_X11_up (mi 12 rfl) rfl ?_
  refine ex_if_eq (tgt := 40) ok_X11_up (mi 13 rfl) rfl (fun _ => ?_) (fun hn => absurd (by decide) hn)
  refine ex_aload_n ok_X11_up (mi 25 rfl) rfl ?_
  refine ex_getRx ok_X11_up (mi 26 rfl) rfl rfl (fk I.1 0 rfl) (fr I.1 11 rfl) (fk I.1 9 rfl) (by decide) ?_
  refine ex_iload_n ok_X11_up (mi 27 rfl) rfl ?_
  refine ex_dup2 ok_X11_up (mi 28 rfl) rfl rfl ?_
  refine ex_ialdx ok_X11_up (mi 29 rfl) (Or.inl (fk I.1 9 rfl)) (fn I.1 9 rfl) (pk_in 2 4 (by decide)) (fe he 0 rfl) ?_
  refine ex_iconst ok_X11_up (mi 30 rfl) ?_
  refine ex_iload_n ok_X11_up (mi 31 rfl) rfl ?_
  refine ex_ishl ok_X11_up (mi 32 rfl) ?_
  refine ex_iconst ok_X11_up (mi 33 rfl) ?_
  refine ex_ixor ok_X11_up (mi 34 rfl) ?_
  refine ex_iand ok_X11_up (mi 35 rfl) ?_
  refine ex_iasta (ws := []) (a := 813) (j := 2) (v := ((U.1 2) &&& (((nI 1) <<< ((nI j) &&& 31)) ^^^ (-1)))) ok_X11_up (mi 36 rfl) (fk I.1 9 rfl) (fn I.1 9 rfl) (pk_in 2 4 (by decide)) (by decide) rfl ?_
  refine ex_iload ok_X11_up (mi 37 rfl) rfl ?_
  refine ex_zret ok_X11_up (mi 38 rfl) rfl (by decide) ?_
  exact ⟨inlI (by decide), INV_U I⟩
theorem e_up_2_1_0 {G : GE} (hst : (ge_l G).stackTraces = false) {x j : Nat} {U : UT} {h : GT} (I : INV x U h) (hj : j < 12) (hb : (U.1 2 >>> (nI j &&& 31)) &&& nI 1 = 0) : ex_M G 3 4 24 my_X11_up [.ref x, .int (nI 2), .int (nI j), .int (nI 1)] h (fun r h' => r = .inl (some (.int (nI 0))) ∧ INV x (updU U 2 ((U.1 2) ||| ((nI 1) <<< ((nI j) &&& 31)))) h') := by
  have he := INV_tE (s := 2) I (by decide)
  refine ex_M_of ok_X11_up cw_X11_up rfl hst (Nat.le_of_ble_eq_true rfl) ?_
  refine ex_iload_n ok_X11_up (mi 0 rfl) rfl ?_
  refine ex_iconst ok_X11_up (mi 1 rfl) ?_
  refine ex_callSr (As := [_, _]) ok_X11_up (mi 2 rfl) rfl (m_reqOk hst (pk_in 2 4 (by decide)) (by decide) (by decide)) rfl rfl rfl (by decide) (Nat.le_of_ble_eq_true rfl) (by decide) ?_
  refine ex_iload_n ok_X11_up (mi 3 rfl) rfl ?_
  refine ex_iload_n ok_X11_up (mi 4 rfl) rfl ?_
  refine ex_callSr (As := [_]) ok_X11_up (mi 5 rfl) rfl (m_nodes2 hst) rfl rfl rfl (by decide) (Nat.le_of_ble_eq_true rfl) (by decide) ?_
  refine ex_callSr (As := [_, _]) ok_X11_up (mi 6 rfl) rfl (m_reqOk hst (vp_in_nI hj (by decide)) (by decide) (by decide)) rfl rfl rfl (by decide) (Nat.le_of_ble_eq_true rfl) (by decide) ?_
  refine ex_aload_n ok_X11_up (mi 7 rfl) rfl ?_
  refine ex_iload_n ok_X11_up (mi 8 rfl) rfl ?_
  refine ex_iload_n ok_X11_up (mi 9 rfl) rfl ?_
  refine ex_callVr (As := [_, _]) (v := some (.int (nI 0))) (g1 := h) ok_X11_up (mi 10 rfl) rfl ?c rfl (fk I.1 0 rfl) rfl rfl (by decide) (by decide) (Nat.le_of_ble_eq_true rfl) (by decide) ?_
  case c =>
    refine ex_M_of ok_X11_isUp cw_X11_isUp rfl hst (Nat.le_of_ble_eq_true rfl) ?_
    refine ex_iload_n ok_X11_isUp (mi 0 rfl) rfl ?_
    refine ex_if_lt (tgt := 38) ok_X11_isUp (mi 1 rfl) rfl (fun hn => absurd hn (by decide)) (fun _ => ?_)
    refine ex_iload_n ok_X11_isUp (mi 2 rfl) rfl ?_
    refine ex_iconst ok_X11_isUp (mi 3 rfl) ?_
    refine ex_icmp_ge (tgt := 38) ok_X11_isUp (mi 4 rfl) rfl (fun hn => absurd hn (by decide)) (fun _ => ?_)
    refine ex_iload_n ok_X11_isUp (mi 5 rfl) rfl ?_
    refine ex_if_lt (tgt := 38) ok_X11_isUp (mi 6 rfl) rfl (fun h10 => False.elim (nI_pos (by omega) h10)) (fun h10 => ?_)
    refine ex_iload_n ok_X11_isUp (mi 7 rfl) rfl ?_
    refine ex_iload_n ok_X11_isUp (mi 8 rfl) rfl ?_
    refine ex_callSr (As := [_]) ok_X11_isUp (mi 9 rfl) rfl (m_nodes2 hst) rfl rfl rfl (by decide) (Nat.le_of_ble_eq_true rfl) (by decide) ?_
    refine ex_icmp_ge (tgt := 38) ok_X11_isUp (mi 10 rfl) rfl (fun h18 => False.elim (absurd h18 (nI_ge hj (by decide)))) (fun h18 => ?_)
    refine ex_aload_n ok_X11_isUp (mi 11 rfl) rfl ?_
    refine ex_getRx ok_X11_isUp (mi 12 rfl) rfl rfl (fk I.1 0 rfl) (fr I.1 11 rfl) (fk I.1 9 rfl) (by decide) ?_
    refine ex_iload_n ok_X11_isUp (mi 13 rfl) rfl ?_
    refine ex_ialdx ok_X11_isUp (mi 14 rfl) (Or.inl (fk I.1 9 rfl)) (fn I.1 9 rfl) (pk_in 2 4 (by decide)) (fe he 0 rfl) ?_
    refine ex_iload_n ok_X11_isUp (mi 15 rfl) rfl ?_
    refine ex_ishr ok_X11_isUp (mi 16 rfl) ?_
    refine ex_iconst ok_X11_isUp (mi 17 rfl) ?_
    refine ex_iand ok_X11_isUp (mi 18 rfl) ?_
    refine ex_if_eq (tgt := 38) ok_X11_isUp (mi 19 rfl) rfl (fun h31 => ?_) (fun h31 => False.elim (h31 hb))
    refine ex_iconst ok_X11_isUp (mi 22 rfl) ?_
    refine ex_zret ok_X11_isUp (mi 23 rfl) rfl (by decide) ?_
    exact ⟨inlI (by decide), rfl⟩
  refine ex_istore ok_X11_up (mi 11 rfl) ?_
  refine ex_iload_n ok_X11_up (mi 12 rfl) rfl ?_
  refine ex_if_eq (tgt := 40) ok_X11_up (mi 13 rfl) rfl (fun hn => absurd hn (by decide)) (fun _ => ?_)
  refine ex_aload_n ok_X11_up (mi 14 rfl) rfl ?_
  refine ex_getRx ok_X11_up (mi 15 rfl) rfl rfl (fk I.1 0 rfl) (fr I.1 11 rfl) (fk I.1 9 rfl) (by decide) ?_
  refine ex_iload_n ok_X11_up (mi 16 rfl) rfl ?_
  refine ex_dup2 ok_X11_up (mi 17 rfl) rfl rfl ?_
  refine ex_ialdx ok_X11_up (mi 18 rfl) (Or.inl (fk I.1 9 rfl)) (fn I.1 9 rfl) (pk_in 2 4 (by decide)) (fe he 0 rfl) ?_
  refine ex_iconst ok_X11_up (mi 19 rfl) ?_
  refine ex_iload_n ok_X11_up (mi 20 rfl) rfl ?_
  refine ex_ishl ok_X11_up (mi 21 rfl) ?_
  refine ex_ior ok_X11_up (mi 22 rfl) ?_
  refine ex_iasta (ws := []) (a := 813) (j := 2) (v := ((U.1 2) ||| ((nI 1) <<< ((nI j) &&& 31)))) ok_X11_up (mi 23 rfl) (fk I.1 9 rfl) (fn I.1 9 rfl) (pk_in 2 4 (by decide)) (by decide) rfl ?_
  refine ex_goto (tgt := 54) ok_X11_up (mi 24 rfl) rfl ?_
  refine ex_iload ok_X11_up (mi 37 rfl) rfl ?_
  refine ex_zret ok_X11_up (mi 38 rfl) rfl (by decide) ?_
  exact ⟨inlI (by decide), INV_U I⟩
theorem e_up_2_1_1 {G : GE} (hst : (ge_l G).stackTraces = false) {x j : Nat} {U : UT} {h : GT} (I : INV x U h) (hj : j < 12) (hb : ¬ ((U.1 2 >>> (nI j &&& 31)) &&& nI 1 = 0)) : ex_M G 3 4 24 my_X11_up [.ref x, .int (nI 2), .int (nI j), .int (nI 1)] h (fun r h' => r = .inl (some (.int (nI 1))) ∧ INV x (updU U 2 ((U.1 2) ||| ((nI 1) <<< ((nI j) &&& 31)))) h') := by
  have he := INV_tE (s := 2) I (by decide)
  refine ex_M_of ok_X11_up cw_X11_up rfl hst (Nat.le_of_ble_eq_true rfl) ?_
  refine ex_iload_n ok_X11_up (mi 0 rfl) rfl ?_
  refine ex_iconst ok_X11_up (mi 1 rfl) ?_
  refine ex_callSr (As := [_, _]) ok_X11_up (mi 2 rfl) rfl (m_reqOk hst (pk_in 2 4 (by decide)) (by decide) (by decide)) rfl rfl rfl (by decide) (Nat.le_of_ble_eq_true rfl) (by decide) ?_
  refine ex_iload_n ok_X11_up (mi 3 rfl) rfl ?_
  refine ex_iload_n ok_X11_up (mi 4 rfl) rfl ?_
  refine ex_callSr (As := [_]) ok_X11_up (mi 5 rfl) rfl (m_nodes2 hst) rfl rfl rfl (by decide) (Nat.le_of_ble_eq_true rfl) (by decide) ?_
  refine ex_callSr (As := [_, _]) ok_X11_up (mi 6 rfl) rfl (m_reqOk hst (vp_in_nI hj (by decide)) (by decide) (by decide)) rfl rfl rfl (by decide) (Nat.le_of_ble_eq_true rfl) (by decide) ?_
  refine ex_aload_n ok_X11_up (mi 7 rfl) rfl ?_
  refine ex_iload_n ok_X11_up (mi 8 rfl) rfl ?_
  refine ex_iload_n ok_X11_up (mi 9 rfl) rfl ?_
  refine ex_callVr (As := [_, _]) (v := some (.int (nI 1))) (g1 := h) ok_X11_up (mi 10 rfl) rfl ?c rfl (fk I.1 0 rfl) rfl rfl (by decide) (by decide) (Nat.le_of_ble_eq_true rfl) (by decide) ?_
  case c =>
    refine ex_M_of ok_X11_isUp cw_X11_isUp rfl hst (Nat.le_of_ble_eq_true rfl) ?_
    refine ex_iload_n ok_X11_isUp (mi 0 rfl) rfl ?_
    refine ex_if_lt (tgt := 38) ok_X11_isUp (mi 1 rfl) rfl (fun hn => absurd hn (by decide)) (fun _ => ?_)
    refine ex_iload_n ok_X11_isUp (mi 2 rfl) rfl ?_
    refine ex_iconst ok_X11_isUp (mi 3 rfl) ?_
    refine ex_icmp_ge (tgt := 38) ok_X11_isUp (mi 4 rfl) rfl (fun hn => absurd hn (by decide)) (fun _ => ?_)
    refine ex_iload_n ok_X11_isUp (mi 5 rfl) rfl ?_
    refine ex_if_lt (tgt := 38) ok_X11_isUp (mi 6 rfl) rfl (fun h10 => False.elim (nI_pos (by omega) h10)) (fun h10 => ?_)
    refine ex_iload_n ok_X11_isUp (mi 7 rfl) rfl ?_
    refine ex_iload_n ok_X11_isUp (mi 8 rfl) rfl ?_
    refine ex_callSr (As := [_]) ok_X11_isUp (mi 9 rfl) rfl (m_nodes2 hst) rfl rfl rfl (by decide) (Nat.le_of_ble_eq_true rfl) (by decide) ?_
    refine ex_icmp_ge (tgt := 38) ok_X11_isUp (mi 10 rfl) rfl (fun h18 => False.elim (absurd h18 (nI_ge hj (by decide)))) (fun h18 => ?_)
    refine ex_aload_n ok_X11_isUp (mi 11 rfl) rfl ?_
    refine ex_getRx ok_X11_isUp (mi 12 rfl) rfl rfl (fk I.1 0 rfl) (fr I.1 11 rfl) (fk I.1 9 rfl) (by decide) ?_
    refine ex_iload_n ok_X11_isUp (mi 13 rfl) rfl ?_
    refine ex_ialdx ok_X11_isUp (mi 14 rfl) (Or.inl (fk I.1 9 rfl)) (fn I.1 9 rfl) (pk_in 2 4 (by decide)) (fe he 0 rfl) ?_
    refine ex_iload_n ok_X11_isUp (mi 15 rfl) rfl ?_
    refine ex_ishr ok_X11_isUp (mi 16 rfl) ?_
    refine ex_iconst ok_X11_isUp (mi 17 rfl) ?_
    refine ex_iand ok_X11_isUp (mi 18 rfl) ?_
    refine ex_if_eq (tgt := 38) ok_X11_isUp (mi 19 rfl) rfl (fun h31 => False.elim (hb h31)) (fun h31 => ?_)
    refine ex_iconst ok_X11_isUp (mi 20 rfl) ?_
    refine ex_goto (tgt := 39) ok_X11_isUp (mi 21 rfl) rfl ?_
    refine ex_zret ok_X11_isUp (mi 23 rfl) rfl (by decide) ?_
    exact ⟨inlI (by decide), rfl⟩
  refine ex_istore ok_X11_up (mi 11 rfl) ?_
  refine ex_iload_n ok_X11_up (mi 12 rfl) rfl ?_
  refine ex_if_eq (tgt := 40) ok_X11_up (mi 13 rfl) rfl (fun hn => absurd hn (by decide)) (fun _ => ?_)
  refine ex_aload_n ok_X11_up (mi 14 rfl) rfl ?_
  refine ex_getRx ok_X11_up (mi 15 rfl) rfl rfl (fk I.1 0 rfl) (fr I.1 11 rfl) (fk I.1 9 rfl) (by decide) ?_
  refine ex_iload_n ok_X11_up (mi 16 rfl) rfl ?_
  refine ex_dup2 ok_X11_up (mi 17 rfl) rfl rfl ?_
  refine ex_ialdx ok_X11_up (mi 18 rfl) (Or.inl (fk I.1 9 rfl)) (fn I.1 9 rfl) (pk_in 2 4 (by decide)) (fe he 0 rfl) ?_
  refine ex_iconst ok_X11_up (mi 19 rfl) ?_
  refine ex_iload_n ok_X11_up (mi 20 rfl) rfl ?_
  refine ex_ishl ok_X11_up (mi 21 rfl) ?_
  refine ex_ior ok_X11_up (mi 22 rfl) ?_
  refine ex_iasta (ws := []) (a := 813) (j := 2) (v := ((U.1 2) ||| ((nI 1) <<< ((nI j) &&& 31)))) ok_X11_up (mi 23 rfl) (fk I.1 9 rfl) (fn I.1 9 rfl) (pk_in 2 4 (by decide)) (by decide) rfl ?_
  refine ex_goto (tgt := 54) ok_X11_up (mi 24 rfl) rfl ?_
  refine ex_iload ok_X11_up (mi 37 rfl) rfl ?_
  refine ex_zret ok_X11_up (mi 38 rfl) rfl (by decide) ?_
  exact ⟨inlI (by decide), INV_U I⟩
theorem e_up_2_b {G : GE} (hst : (ge_l G).stackTraces = false) {x : Nat} {p1 p2 : Int32} {U : UT} {h : GT} (I : INV x U h) (c1 : ¬ vp_in p1 12) : ex_M G 3 4 24 my_X11_up [.ref x, .int (nI 2), .int p1, .int p2] h (fun r h' => r = .inr (cx_E 100) ∧ INV x U h') := by
  refine ex_M_of ok_X11_up cw_X11_up rfl hst (Nat.le_of_ble_eq_true rfl) ?_
  refine ex_iload_n ok_X11_up (mi 0 rfl) rfl ?_
  refine ex_iconst ok_X11_up (mi 1 rfl) ?_
  refine ex_callSr (As := [_, _]) ok_X11_up (mi 2 rfl) rfl (m_reqOk hst (pk_in 2 4 (by decide)) (by decide) (by decide)) rfl rfl rfl (by decide) (Nat.le_of_ble_eq_true rfl) (by decide) ?_
  refine ex_iload_n ok_X11_up (mi 3 rfl) rfl ?_
  refine ex_iload_n ok_X11_up (mi 4 rfl) rfl ?_
  refine ex_callSr (As := [_]) ok_X11_up (mi 5 rfl) rfl (m_nodes2 hst) rfl rfl rfl (by decide) (Nat.le_of_ble_eq_true rfl) (by decide) ?_
  refine ex_callSt (e := 100) (As := [_, _]) ok_X11_up (mi 6 rfl) rfl (m_reqBad hst c1 (by decide) (by decide)) rfl rfl rfl (by decide) (Nat.le_of_ble_eq_true rfl) (by decide) (fun n hn => ?_)
  exact ⟨rfl, INV_Z I⟩
theorem e_up_3_0_0 {G : GE} (hst : (ge_l G).stackTraces = false) {x j : Nat} {U : UT} {h : GT} (I : INV x U h) (hj : j < 3) (hb : (U.1 3 >>> (nI j &&& 31)) &&& nI 1 = 0) : ex_M G 3 4 24 my_X11_up [.ref x, .int (nI 3), .int (nI j), .int (nI 0)] h (fun r h' => r = .inl (some (.int (nI 0))) ∧ INV x (updU U 3 ((U.1 3) &&& (((nI 1) <<< ((nI j) &&& 31)) ^^^ (-1)))) h') := by
  have he := INV_tE (s := 3) I (by decide)
  refine ex_M_of ok_X11_up cw_X11_up rfl hst (Nat.le_of_ble_eq_true rfl) ?_
  refine ex_iload_n ok_X11_up (mi 0 rfl) rfl ?_
  refine ex_iconst ok_X11_up (mi 1 rfl) ?_
  refine ex_callSr (As := [_, _]) ok_X11_up (mi 2 rfl) rfl (m_reqOk hst (pk_in 3 4 (by decide)) (by decide) (by decide)) rfl rfl rfl (by decide) (Nat.le_of_ble_eq_true rfl) (by decide) ?_
  refine ex_iload_n ok_X11_up (mi 3 rfl) rfl ?_
  refine ex_iload_n ok_X11_up (mi 4 rfl) rfl ?_
  refine ex_callSr (As := [_]) ok_X11_up (mi 5 rfl) rfl (m_nodes3 hst) rfl rfl rfl (by decide) (Nat.le_of_ble_eq_true rfl) (by decide) ?_
  refine ex_callSr (As := [_, _]) ok_X11_up (mi 6 rfl) rfl (m_reqOk hst (vp_in_nI hj (by decide)) (by decide) (by decide)) rfl rfl rfl (by decide) (Nat.le_of_ble_eq_true rfl) (by decide) ?_
  refine ex_aload_n ok_X11_up (mi 7 rfl) rfl ?_
  refine ex_iload_n ok_X11_up (mi 8 rfl) rfl ?_
  refine ex_iload_n ok_X11_up (mi 9 rfl) rfl ?_
  refine ex_callVr (As := [_, _]) (v := some (.int (nI 0))) (g1 := h) ok_X11_up (mi 10 rfl) rfl ?c rfl (fk I.1 0 rfl) rfl rfl (by decide) (by decide) (Nat.le_of_ble_eq_true rfl) (by decide) ?_
  case c =>
    refine ex_M_of ok_X11_isUp cw_X11_isUp rfl hst (Nat.le_of_ble_eq_true rfl) ?_
    refine ex_iload_n ok_X11_isUp (mi 0 rfl) rfl ?_
    refine ex_if_lt (tgt := 38) ok_X11_isUp (mi 1 rfl) rfl (fun hn => absurd hn (by decide)) (fun _ => ?_)
    refine ex_iload_n ok_X11_isUp (mi 2 rfl) rfl ?_
    refine ex_iconst ok_X11_isUp (mi 3 rfl) ?_
    refine ex_icmp_ge (tgt := 38) ok_X11_isUp (mi 4 rfl) rfl (fun hn => absurd hn (by decide)) (fun _ => ?_)
    refine ex_iload_n ok_X11_isUp (mi 5 rfl) rfl ?_
    refine ex_if_lt (tgt := 38) ok_X11_isUp (mi 6 rfl) rfl (fun h10 => False.elim (nI_pos (by omega) h10)) (fun h10 => ?_)
    refine ex_iload_n ok_X11_isUp (mi 7 rfl) rfl ?_
    refine ex_iload_n ok_X11_isUp (mi 8 rfl) rfl ?_
    refine ex_callSr (As := [_]) ok_X11_isUp (mi 9 rfl) rfl (m_nodes3 hst) rfl rfl rfl (by decide) (Nat.le_of_ble_eq_true rfl) (by decide) ?_
    refine ex_icmp_ge (tgt := 38) ok_X11_isUp (mi 10 rfl) rfl (fun h18 => False.elim (absurd h18 (nI_ge hj (by decide)))) (fun h18 => ?_)
    refine ex_aload_n ok_X11_isUp (mi 11 rfl) rfl ?_
    refine ex_getRx ok_X11_isUp (mi 12 rfl) rfl rfl (fk I.1 0 rfl) (fr I.1 11 rfl) (fk I.1 9 rfl) (by decide) ?_
    refine ex_iload_n ok_X11_isUp (mi 13 rfl) rfl ?_
    refine ex_ialdx ok_X11_isUp (mi 14 rfl) (Or.inl (fk I.1 9 rfl)) (fn I.1 9 rfl) (pk_in 3 4 (by decide)) (fe he 0 rfl) ?_
    refine ex_iload_n ok_X11_isUp (mi 15 rfl) rfl ?_
    refine ex_ishr ok_X11_isUp (mi 16 rfl) ?_
    refine ex_iconst ok_X11_isUp (mi 17 rfl) ?_
    refine ex_iand ok_X11_isUp (mi 18 rfl) ?_
    refine ex_if_eq (tgt := 38) ok_X11_isUp (mi 19 rfl) rfl (fun h31 => ?_) (fun h31 => False.elim (h31 hb))
    refine ex_iconst ok_X11_isUp (mi 22 rfl) ?_
    refine ex_zret ok_X11_isUp (mi 23 rfl) rfl (by decide) ?_
    exact ⟨inlI (by decide), rfl⟩
  refine ex_istore ok_X11_up (mi 11 rfl) ?_
  refine ex_iload_n ok_X11_up (mi 12 rfl) rfl ?_
  refine ex_if_eq (tgt := 40) ok_X11_up (mi 13 rfl) rfl (fun _ => ?_) (fun hn => absurd (by decide) hn)
  refine ex_aload_n ok_X11_up (mi 25 rfl) rfl ?_
  refine ex_getRx ok_X11_up (mi 26 rfl) rfl rfl (fk I.1 0 rfl) (fr I.1 11 rfl) (fk I.1 9 rfl) (by decide) ?_
  refine ex_iload_n ok_X11_up (mi 27 rfl) rfl ?_
  refine ex_dup2 ok_X11_up (mi 28 rfl) rfl rfl ?_
  refine ex_ialdx ok_X11_up (mi 29 rfl) (Or.inl (fk I.1 9 rfl)) (fn I.1 9 rfl) (pk_in 3 4 (by decide)) (fe he 0 rfl) ?_
  refine ex_iconst ok_X11_up (mi 30 rfl) ?_
  refine ex_iload_n ok_X11_up (mi 31 rfl) rfl ?_
  refine ex_ishl ok_X11_up (mi 32 rfl) ?_
  refine ex_iconst ok_X11_up (mi 33 rfl) ?_
  refine ex_ixor ok_X11_up (mi 34 rfl) ?_
  refine ex_iand ok_X11_up (mi 35 rfl) ?_
  refine ex_iasta (ws := []) (a := 813) (j := 3) (v := ((U.1 3) &&& (((nI 1) <<< ((nI j) &&& 31)) ^^^ (-1)))) ok_X11_up (mi 36 rfl) (fk I.1 9 rfl) (fn I.1 9 rfl) (pk_in 3 4 (by decide)) (by decide) rfl ?_
  refine ex_iload ok_X11_up (mi 37 rfl) rfl ?_
  refine ex_zret ok_X11_up (mi 38 rfl) rfl (by decide) ?_
  exact ⟨inlI (by decide), INV_U I⟩
theorem e_up_3_0_1 {G : GE} (hst : (ge_l G).stackTraces = false) {x j : Nat} {U : UT} {h : GT} (I : INV x U h) (hj : j < 3) (hb : ¬ ((U.1 3 >>> (nI j &&& 31)) &&& nI 1 = 0)) : ex_M G 3 4 24 my_X11_up [.ref x, .int (nI 3), .int (nI j), .int (nI 0)] h (fun r h' => r = .inl (some (.int (nI 1))) ∧ INV x (updU U 3 ((U.1 3) &&& (((nI 1) <<< ((nI j) &&& 31)) ^^^ (-1)))) h') := by
  have he := INV_tE (s := 3) I (by decide)
  refine ex_M_of ok_X11_up cw_X11_up rfl hst (Nat.le_of_ble_eq_true rfl) ?_
  refine ex_iload_n ok_X11_up (mi 0 rfl) rfl ?_
  refine ex_iconst ok_X11_up (mi 1 rfl) ?_
  refine ex_callSr (As := [_, _]) ok_X11_up (mi 2 rfl) rfl (m_reqOk hst (pk_in 3 4 (by decide)) (by decide) (by decide)) rfl rfl rfl (by decide) (Nat.le_of_ble_eq_true rfl) (by decide) ?_
  refine ex_iload_n ok_X11_up (mi 3 rfl) rfl ?_
  refine ex_iload_n ok_X11_up (mi 4 rfl) rfl ?_
  refine ex_callSr (As := [_]) ok_X11_up (mi 5 rfl) rfl (m_nodes3 hst) rfl rfl rfl (by decide) (Nat.le_of_ble_eq_true rfl) (by decide) ?_
  refine ex_callSr (As := [_, _]) ok_X11_up (mi 6 rfl) rfl (m_reqOk hst (vp_in_nI hj (by decide)) (by decide) (by decide)) rfl rfl rfl (by decide) (Nat.le_of_ble_eq_true rfl) (by decide) ?_
  refine ex_aload_n ok_X11_up (mi 7 rfl) rfl ?_
  refine ex_iload_n ok_X11_up (mi 8 rfl) rfl ?_
  refine ex_iload_n ok_X11_up (mi 9 rfl) rfl ?_
  refine ex_callVr (As := [_, _]) (v := some (.int (nI 1))) (g1 := h) ok_X11_up (mi 10 rfl) rfl ?c rfl (fk I.1 0 rfl) rfl rfl (by decide) (by decide) (Nat.le_of_ble_eq_true rfl) (by decide) ?_
  case c =>
    refine ex_M_of ok_X11_isUp cw_X11_isUp rfl hst (Nat.le_of_ble_eq_true rfl) ?_
    refine ex_iload_n ok_X11_isUp (mi 0 rfl) rfl ?_
    refine ex_if_lt (tgt := 38) ok_X11_isUp (mi 1 rfl) rfl (fun hn => absurd hn (by decide)) (fun _ => ?_)
    refine ex_iload_n ok_X11_isUp (mi 2 rfl) rfl ?_
    refine ex_iconst ok_X11_isUp (mi 3 rfl) ?_
    refine ex_icmp_ge (tgt := 38) ok_X11_isUp (mi 4 rfl) rfl (fun hn => absurd hn (by decide)) (fun _ => ?_)
    refine ex_iload_n ok_X11_isUp (mi 5 rfl) rfl ?_
    refine ex_if_lt (tgt := 38) ok_X11_isUp (mi 6 rfl) rfl (fun h10 => False.elim (nI_pos (by omega) h10)) (fun h10 => ?_)
    refine ex_iload_n ok_X11_isUp (mi 7 rfl) rfl ?_
    refine ex_iload_n ok_X11_isUp (mi 8 rfl) rfl ?_
    refine ex_callSr (As := [_]) ok_X11_isUp (mi 9 rfl) rfl (m_nodes3 hst) rfl rfl rfl (by decide) (Nat.le_of_ble_eq_true rfl) (by decide) ?_
    refine ex_icmp_ge (tgt := 38) ok_X11_isUp (mi 10 rfl) rfl (fun h18 => False.elim (absurd h18 (nI_ge hj (by decide)))) (fun h18 => ?_)
    refine ex_aload_n ok_X11_isUp (mi 11 rfl) rfl ?_
    refine ex_getRx ok_X11_isUp (mi 12 rfl) rfl rfl (fk I.1 0 rfl) (fr I.1 11 rfl) (fk I.1 9 rfl) (by decide) ?_
    refine ex_iload_n ok_X11_isUp (mi 13 rfl) rfl ?_
    refine ex_ialdx ok_X11_isUp (mi 14 rfl) (Or.inl (fk I.1 9 rfl)) (fn I.1 9 rfl) (pk_in 3 4 (by decide)) (fe he 0 rfl) ?_
    refine ex_iload_n ok_X11_isUp (mi 15 rfl) rfl ?_
    refine ex_ishr ok_X11_isUp (mi 16 rfl) ?_
    refine ex_iconst ok_X11_isUp (mi 17 rfl) ?_
    refine ex_iand ok_X11_isUp (mi 18 rfl) ?_
    refine ex_if_eq (tgt := 38) ok_X11_isUp (mi 19 rfl) rfl (fun h31 => False.elim (hb h31)) (fun h31 => ?_)
    refine ex_iconst ok_X11_isUp (mi 20 rfl) ?_
    refine ex_goto (tgt := 39) ok_X11_isUp (mi 21 rfl) rfl ?_
    refine ex_zret ok_X11_isUp (mi 23 rfl) rfl (by decide) ?_
    exact ⟨inlI (by decide), rfl⟩
  refine ex_istore ok_X11_up (mi 11 rfl) ?_
  refine ex_iload_n ok_X11_up (mi 12 rfl) rfl ?_
  refine ex_if_eq (tgt := 40) ok_X11_up (mi 13 rfl) rfl (fun _ => ?_) (fun hn => absurd (by decide) hn)
  refine ex_aload_n ok_X11_up (mi 25 rfl) rfl ?_
  refine ex_getRx ok_X11_up (mi 26 rfl) rfl rfl (fk I.1 0 rfl) (fr I.1 11 rfl) (fk I.1 9 rfl) (by decide) ?_
  refine ex_iload_n ok_X11_up (mi 27 rfl) rfl ?_
  refine ex_dup2 ok_X11_up (mi 28 rfl) rfl rfl ?_
  refine ex_ialdx ok_X11_up (mi 29 rfl) (Or.inl (fk I.1 9 rfl)) (fn I.1 9 rfl) (pk_in 3 4 (by decide)) (fe he 0 rfl) ?_
  refine ex_iconst ok_X11_up (mi 30 rfl) ?_
  refine ex_iload_n ok_X11_up (mi 31 rfl) rfl ?_
  refine ex_ishl ok_X11_up (mi 32 rfl) ?_
  refine ex_iconst ok_X11_up (mi 33 rfl) ?_
  refine ex_ixor ok_X11_up (mi 34 rfl) ?_
  refine ex_iand ok_X11_up (mi 35 rfl) ?_
  refine ex_iasta (ws := []) (a := 813) (j := 3) (v := ((U.1 3) &&& (((nI 1) <<< ((nI j) &&& 31)) ^^^ (-1)))) ok_X11_up (mi 36 rfl) (fk I.1 9 rfl) (fn I.1 9 rfl) (pk_in 3 4 (by decide)) (by decide) rfl ?_
  refine ex_iload ok_X11_up (mi 37 rfl) rfl ?_
  refine ex_zret ok_X11_up (mi 38 rfl) rfl (by decide) ?_
  exact ⟨inlI (by decide), INV_U I⟩
theorem e_up_3_1_0 {G : GE} (hst : (ge_l G).stackTraces = false) {x j : Nat} {U : UT} {h : GT} (I : INV x U h) (hj : j < 3) (hb : (U.1 3 >>> (nI j &&& 31)) &&& nI 1 = 0) : ex_M G 3 4 24 my_X11_up [.ref x, .int (nI 3), .int (nI j), .int (nI 1)] h (fun r h' => r = .inl (some (.int (nI 0))) ∧ INV x (updU U 3 ((U.1 3) ||| ((nI 1) <<< ((nI j) &&& 31)))) h') := by
  have he := INV_tE (s := 3) I (by decide)
  refine ex_M_of ok_X11_up cw_X11_up rfl hst (Nat.le_of_ble_eq_true rfl) ?_
  refine ex_iload_n ok_X11_up (mi 0 rfl) rfl ?_
  refine ex_iconst ok_X11_up (mi 1 rfl) ?_
  refine ex_callSr (As := [_, _]) ok_X11_up (mi 2 rfl) rfl (m_reqOk hst (pk_in 3 4 (by decide)) (by decide) (by decide)) rfl rfl rfl (by decide) (Nat.le_of_ble_eq_true rfl) (by decide) ?_
  refine ex_iload_n ok_X11_up (mi 3 rfl) rfl ?_
  refine ex_iload_n ok_X11_up (mi 4 rfl) rfl ?_
  refine ex_callSr (As := [_]) ok_X11_up (mi 5 rfl) rfl (m_nodes3 hst) rfl rfl rfl (by decide) (Nat.le_of_ble_eq_true rfl) (by decide) ?_
  refine ex_callSr (As := [_, _]) ok_X11_up (mi 6 rfl) rfl (m_reqOk hst (vp_in_nI hj (by decide)) (by decide) (by decide)) rfl rfl rfl (by decide) (Nat.le_of_ble_eq_true rfl) (by decide) ?_
  refine ex_aload_n ok_X11_up (mi 7 rfl) rfl ?_
  refine ex_iload_n ok_X11_up (mi 8 rfl) rfl ?_
  refine ex_iload_n ok_X11_up (mi 9 rfl) rfl ?_
  refine ex_callVr (As := [_, _]) (v := some (.int (nI 0))) (g1 := h) ok_X11_up (mi 10 rfl) rfl ?c rfl (fk I.1 0 rfl) rfl rfl (by decide) (by decide) (Nat.le_of_ble_eq_true rfl) (by decide) ?_
  case c =>
    refine ex_M_of ok_X11_isUp cw_X11_isUp rfl hst (Nat.le_of_ble_eq_true rfl) ?_
    refine ex_iload_n ok_X11_isUp (mi 0 rfl) rfl ?_
    refine ex_if_lt (tgt := 38) ok_X11_isUp (mi 1 rfl) rfl (fun hn => absurd hn (by decide)) (fun _ => ?_)
    refine ex_iload_n ok_X11_isUp (mi 2 rfl) rfl ?_
    refine ex_iconst ok_X11_isUp (mi 3 rfl) ?_
    refine ex_icmp_ge (tgt := 38) ok_X11_isUp (mi 4 rfl) rfl (fun hn => absurd hn (by decide)) (fun _ => ?_)
    refine ex_iload_n ok_X11_isUp (mi 5 rfl) rfl ?_
    refine ex_if_lt (tgt := 38) ok_X11_isUp (mi 6 rfl) rfl (fun h10 => False.elim (nI_pos (by omega) h10)) (fun h10 => ?_)
    refine ex_iload_n ok_X11_isUp (mi 7 rfl) rfl ?_
    refine ex_iload_n ok_X11_isUp (mi 8 rfl) rfl ?_
    refine ex_callSr (As := [_]) ok_X11_isUp (mi 9 rfl) rfl (m_nodes3 hst) rfl rfl rfl (by decide) (Nat.le_of_ble_eq_true rfl) (by decide) ?_
    refine ex_icmp_ge (tgt := 38) ok_X11_isUp (mi 10 rfl) rfl (fun h18 => False.elim (absurd h18 (nI_ge hj (by decide)))) (fun h18 => ?_)
    refine ex_aload_n ok_X11_isUp (mi 11 rfl) rfl ?_
    refine ex_getRx ok_X11_isUp (mi 12 rfl) rfl rfl (fk I.1 0 rfl) (fr I.1 11 rfl) (fk I.1 9 rfl) (by decide) ?_
    refine ex_iload_n ok_X11_isUp (mi 13 rfl) rfl ?_
    refine ex_ialdx ok_X11_isUp (mi 14 rfl) (Or.inl (fk I.1 9 rfl)) (fn I.1 9 rfl) (pk_in 3 4 (by decide)) (fe he 0 rfl) ?_
    refine ex_iload_n ok_X11_isUp (mi 15 rfl) rfl ?_
    refine ex_ishr ok_X11_isUp (mi 16 rfl) ?_
    refine ex_iconst ok_X11_isUp (mi 17 rfl) ?_
    refine ex_iand ok_X11_isUp (mi 18 rfl) ?_
    refine ex_if_eq (tgt := 38) ok_X11_isUp (mi 19 rfl) rfl (fun h31 => ?_) (fun h31 => False.elim (h31 hb))
    refine ex_iconst ok_X11_isUp (mi 22 rfl) ?_
    refine ex_zret ok_X11_isUp (mi 23 rfl) rfl (by decide) ?_
    exact ⟨inlI (by decide), rfl⟩
  refine ex_istore ok_X11_up (mi 11 rfl) ?_
  refine ex_iload_n ok_X11_up (mi 12 rfl) rfl ?_
  refine ex_if_eq (tgt := 40) ok_X11_up (mi 13 rfl) rfl (fun hn => absurd hn (by decide)) (fun _ => ?_)
  refine ex_aload_n ok_X11_up (mi 14 rfl) rfl ?_
  refine ex_getRx ok_X11_up (mi 15 rfl) rfl rfl (fk I.1 0 rfl) (fr I.1 11 rfl) (fk I.1 9 rfl) (by decide) ?_
  refine ex_iload_n ok_X11_up (mi 16 rfl) rfl ?_
  refine ex_dup2 ok_X11_up (mi 17 rfl) rfl rfl ?_
  refine ex_ialdx ok_X11_up (mi 18 rfl) (Or.inl (fk I.1 9 rfl)) (fn I.1 9 rfl) (pk_in 3 4 (by decide)) (fe he 0 rfl) ?_
  refine ex_iconst ok_X11_up (mi 19 rfl) ?_
  refine ex_iload_n ok_X11_up (mi 20 rfl) rfl ?_
  refine ex_ishl ok_X11_up (mi 21 rfl) ?_
  refine ex_ior ok_X11_up (mi 22 rfl) ?_
  refine ex_iasta (ws := []) (a := 813) (j := 3) (v := ((U.1 3) ||| ((nI 1) <<< ((nI j) &&& 31)))) ok_X11_up (mi 23 rfl) (fk I.1 9 rfl) (fn I.1 9 rfl) (pk_in 3 4 (by decide)) (by decide) rfl ?_
  refine ex_goto (tgt := 54) ok_X11_up (mi 24 rfl) rfl ?_
  refine ex_iload ok_X11_up (mi 37 rfl) rfl ?_
  refine ex_zret ok_X11_up (mi 38 rfl) rfl (by decide) ?_
  exact ⟨inlI (by decide), INV_U I⟩
theorem e_up_3_1_1 {G : GE} (hst : (ge_l G).stackTraces = false) {x j : Nat} {U : UT} {h : GT} (I : INV x U h) (hj : j < 3) (hb : ¬ ((U.1 3 >>> (nI j &&& 31)) &&& nI 1 = 0)) : ex_M G 3 4 24 my_X11_up [.ref x, .int (nI 3), .int (nI j), .int (nI 1)] h (fun r h' => r = .inl (some (.int (nI 1))) ∧ INV x (updU U 3 ((U.1 3) ||| ((nI 1) <<< ((nI j) &&& 31)))) h') := by
  have he := INV_tE (s := 3) I (by decide)
  refine ex_M_of ok_X11_up cw_X11_up rfl hst (Nat.le_of_ble_eq_true rfl) ?_
  refine ex_iload_n ok_X11_up (mi 0 rfl) rfl ?_
  refine ex_iconst ok_X11_up (mi 1 rfl) ?_
  refine ex_callSr (As := [_, _]) ok_X11_up (mi 2 rfl) rfl (m_reqOk hst (pk_in 3 4 (by decide)) (by decide) (by decide)) rfl rfl rfl (by decide) (Nat.le_of_ble_eq_true rfl) (by decide) ?_
  refine ex_iload_n ok_X11_up (mi 3 rfl) rfl ?_
  refine ex_iload_n ok_X11_up (mi 4 rfl) rfl ?_
  refine ex_callSr (As := [_]) ok_X11_up (mi 5 rfl) rfl (m_nodes3 hst) rfl rfl rfl (by decide) (Nat.le_of_ble_eq_true rfl) (by decide) ?_
  refine ex_callSr (As := [_, _]) ok_X11_up (mi 6 rfl) rfl (m_reqOk hst (vp_in_nI hj (by decide)) (by decide) (by decide)) rfl rfl rfl (by decide) (Nat.le_of_ble_eq_true rfl) (by decide) ?_
  refine ex_aload_n ok_X11_up (mi 7 rfl) rfl ?_
  refine ex_iload_n ok_X11_up (mi 8 rfl) rfl ?_
  refine ex_iload_n ok_X11_up (mi 9 rfl) rfl ?_
  refine ex_callVr (As := [_, _]) (v := some (.int (nI 1))) (g1 := h) ok_X11_up (mi 10 rfl) rfl ?c rfl (fk I.1 0 rfl) rfl rfl (by decide) (by decide) (Nat.le_of_ble_eq_true rfl) (by decide) ?_
  case c =>
    refine ex_M_of ok_X11_isUp cw_X11_isUp rfl hst (Nat.le_of_ble_eq_true rfl) ?_
    refine ex_iload_n ok_X11_isUp (mi 0 rfl) rfl ?_
    refine ex_if_lt (tgt := 38) ok_X11_isUp (mi 1 rfl) rfl (fun hn => absurd hn (by decide)) (fun _ => ?_)
    refine ex_iload_n ok_X11_isUp (mi 2 rfl) rfl ?_
    refine ex_iconst ok_X11_isUp (mi 3 rfl) ?_
    refine ex_icmp_ge (tgt := 38) ok_X11_isUp (mi 4 rfl) rfl (fun hn => absurd hn (by decide)) (fun _ => ?_)
    refine ex_iload_n ok_X11_isUp (mi 5 rfl) rfl ?_
    refine ex_if_lt (tgt := 38) ok_X11_isUp (mi 6 rfl) rfl (fun h10 => False.elim (nI_pos (by omega) h10)) (fun h10 => ?_)
    refine ex_iload_n ok_X11_isUp (mi 7 rfl) rfl ?_
    refine ex_iload_n ok_X11_isUp (mi 8 rfl) rfl ?_
    refine ex_callSr (As := [_]) ok_X11_isUp (mi 9 rfl) rfl (m_nodes3 hst) rfl rfl rfl (by decide) (Nat.le_of_ble_eq_true rfl) (by decide) ?_
    refine ex_icmp_ge (tgt := 38) ok_X11_isUp (mi 10 rfl) rfl (fun h18 => False.elim (absurd h18 (nI_ge hj (by decide)))) (fun h18 => ?_)
    refine ex_aload_n ok_X11_isUp (mi 11 rfl) rfl ?_
    refine ex_getRx ok_X11_isUp (mi 12 rfl) rfl rfl (fk I.1 0 rfl) (fr I.1 11 rfl) (fk I.1 9 rfl) (by decide) ?_
    refine ex_iload_n ok_X11_isUp (mi 13 rfl) rfl ?_
    refine ex_ialdx ok_X11_isUp (mi 14 rfl) (Or.inl (fk I.1 9 rfl)) (fn I.1 9 rfl) (pk_in 3 4 (by decide)) (fe he 0 rfl) ?_
    refine ex_iload_n ok_X11_isUp (mi 15 rfl) rfl ?_
    refine ex_ishr ok_X11_isUp (mi 16 rfl) ?_
    refine ex_iconst ok_X11_isUp (mi 17 rfl) ?_
    refine ex_iand ok_X11_isUp (mi 18 rfl) ?_
    refine ex_if_eq (tgt := 38) ok_X11_isUp (mi 19 rfl) rfl (fun h31 => False.elim (hb h31)) (fun h31 => ?_)
    refine ex_iconst ok_X11_isUp (mi 20 rfl) ?_
    refine ex_goto (tgt := 39) ok_X11_isUp (mi 21 rfl) rfl ?_
    refine ex_zret ok_X11_isUp (mi 23 rfl) rfl (by decide) ?_
    exact ⟨inlI (by decide), rfl⟩
  refine ex_istore ok_X11_up (mi 11 rfl) ?_
  refine ex_iload_n ok_X11_up (mi 12 rfl) rfl ?_
  refine ex_if_eq (tgt := 40) ok_X11_up (mi 13 rfl) rfl (fun hn => absurd hn (by decide)) (fun _ => ?_)
  refine ex_aload_n ok_X11_up (mi 14 rfl) rfl ?_
  refine ex_getRx ok_X11_up (mi 15 rfl) rfl rfl (fk I.1 0 rfl) (fr I.1 11 rfl) (fk I.1 9 rfl) (by decide) ?_
  refine ex_iload_n ok_X11_up (mi 16 rfl) rfl ?_
  refine ex_dup2 ok_X11_up (mi 17 rfl) rfl rfl ?_
  refine ex_ialdx ok_X11_up (mi 18 rfl) (Or.inl (fk I.1 9 rfl)) (fn I.1 9 rfl) (pk_in 3 4 (by decide)) (fe he 0 rfl) ?_
  refine ex_iconst ok_X11_up (mi 19 rfl) ?_
  refine ex_iload_n ok_X11_up (mi 20 rfl) rfl ?_
  refine ex_ishl ok_X11_up (mi 21 rfl) ?_
  refine ex_ior ok_X11_up (mi 22 rfl) ?_
  refine ex_iasta (ws := []) (a := 813) (j := 3) (v := ((U.1 3) ||| ((nI 1) <<< ((nI j) &&& 31)))) ok_X11_up (mi 23 rfl) (fk I.1 9 rfl) (fn I.1 9 rfl) (pk_in 3 4 (by decide)) (by decide) rfl ?_
  refine ex_goto (tgt := 54) ok_X11_up (mi 24 rfl) rfl ?_
  refine ex_iload ok_X11_up (mi 37 rfl) rfl ?_
  refine ex_zret ok_X11_up (mi 38 rfl) rfl (by decide) ?_
  exact ⟨inlI (by decide), INV_U I⟩
theorem e_up_3_b {G : GE} (hst : (ge_l G).stackTraces = false) {x : Nat} {p1 p2 : Int32} {U : UT} {h : GT} (I : INV x U h) (c1 : ¬ vp_in p1 3) : ex_M G 3 4 24 my_X11_up [.ref x, .int (nI 3), .int p1, .int p2] h (fun r h' => r = .inr (cx_E 100) ∧ INV x U h') := by
  refine ex_M_of ok_X11_up cw_X11_up rfl hst (Nat.le_of_ble_eq_true rfl) ?_
  refine ex_iload_n ok_X11_up (mi 0 rfl) rfl ?_
  refine ex_iconst ok_X11_up (mi 1 rfl) ?_
  refine ex_callSr (As := [_, _]) ok_X11_up (mi 2 rfl) rfl (m_reqOk hst (pk_in 3 4 (by decide)) (by decide) (by decide)) rfl rfl rfl (by decide) (Nat.le_of_ble_eq_true rfl) (by decide) ?_
  refine ex_iload_n ok_X11_up (mi 3 rfl) rfl ?_
  refine ex_iload_n ok_X11_up (mi 4 rfl) rfl ?_
  refine ex_callSr (As := [_]) ok_X11_up (mi 5 rfl) rfl (m_nodes3 hst) rfl rfl rfl (by decide) (Nat.le_of_ble_eq_true rfl) (by decide) ?_
  refine ex_callSt (e := 100) (As := [_, _]) ok_X11_up (mi 6 rfl) rfl (m_reqBad hst c1 (by decide) (by decide)) rfl rfl rfl (by decide) (Nat.le_of_ble_eq_true rfl) (by decide) (fun n hn => ?_)
  exact ⟨rfl, INV_Z I⟩
theorem e_up_b {G : GE} (hst : (ge_l G).stackTraces = false) {x : Nat} {p0 p1 p2 : Int32} {U : UT} {h : GT} (I : INV x U h) (c0 : ¬ vp_in p0 4) : ex_M G 3 4 24 my_X11_up [.ref x, .int p0, .int p1, .int p2] h (fun r h' => r = .inr (cx_E 100) ∧ INV x U h') := by
  refine ex_M_of ok_X11_up cw_X11_up rfl hst (Nat.le_of_ble_eq_true rfl) ?_
  refine ex_iload_n ok_X11_up (mi 0 rfl) rfl ?_
  refine ex_iconst ok_X11_up (mi 1 rfl) ?_
  refine ex_callSt (e := 100) (As := [_, _]) ok_X11_up (mi 2 rfl) rfl (m_reqBad hst c0 (by decide) (by decide)) rfl rfl rfl (by decide) (Nat.le_of_ble_eq_true rfl) (by decide) (fun n hn => ?_)
  exact ⟨rfl, INV_Z I⟩
