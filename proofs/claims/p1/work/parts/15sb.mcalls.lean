theorem d_reform_0_r1 {G : GE} (hst : (ge_l G).stackTraces = false) {x : Nat} {p1 p2 : Int32} (c1 : ¬ vp_in p1 300) : MM G 3 0 0 my_X12_reform x [.int (nI 0), .int p1, .int p2] 2 (nI 0) := by
  intro h f
  refine ex_M_of ok_X12_reform cw_X12_reform rfl hst (Nat.le_of_ble_eq_true rfl) ?_
  refine ex_iload_n ok_X12_reform (mi 0 rfl) rfl ?_
  refine ex_iconst ok_X12_reform (mi 1 rfl) ?_
  refine ex_iconst ok_X12_reform (mi 2 rfl) ?_
  refine ex_callSr (As := [_, _, _]) ok_X12_reform (mi 3 rfl) rfl (m_in1 hst (by decide) (by decide)) rfl rfl rfl (by decide) (Nat.le_of_ble_eq_true rfl) (by decide) ?_
  refine ex_istore ok_X12_reform (mi 4 rfl) ?_
  refine ex_iload ok_X12_reform (mi 5 rfl) rfl ?_
  refine ex_if_eq (tgt := 64) ok_X12_reform (mi 6 rfl) rfl (fun hn => absurd hn (by decide)) (fun _ => ?_)
  refine ex_iload_n ok_X12_reform (mi 7 rfl) rfl ?_
  refine ex_iconst ok_X12_reform (mi 8 rfl) ?_
  refine ex_sipush ok_X12_reform (mi 9 rfl) ?_
  refine ex_callSr (As := [_, _, _]) ok_X12_reform (mi 10 rfl) rfl (m_in0 hst (vbad c1 (by decide))) rfl rfl rfl (by decide) (Nat.le_of_ble_eq_true rfl) (by decide) ?_
  refine ex_if_eq (tgt := 64) ok_X12_reform (mi 11 rfl) rfl (fun _ => ?_) (fun hn => absurd (by decide) hn)
  refine ex_iconst ok_X12_reform (mi 34 rfl) ?_
  refine ex_istore ok_X12_reform (mi 35 rfl) ?_
  refine ex_aload_n ok_X12_reform (mi 36 rfl) rfl ?_
  refine ex_iload ok_X12_reform (mi 37 rfl) rfl ?_
  refine ex_iload ok_X12_reform (mi 38 rfl) rfl ?_
  refine ex_iload ok_X12_reform (mi 39 rfl) rfl ?_
  refine ex_if_eq (tgt := 90) ok_X12_reform (mi 40 rfl) rfl (fun hn => absurd hn (by decide)) (fun _ => ?_)
  refine ex_aload_n ok_X12_reform (mi 41 rfl) rfl ?_
  refine ex_getRx ok_X12_reform (mi 42 rfl) rfl rfl (fk f.1 0 rfl) (fr f.1 0 rfl) (fk f.1 1 rfl) (by decide) ?_
  refine ex_iload_n ok_X12_reform (mi 43 rfl) rfl ?_
  refine ex_baldx ok_X12_reform (mi 44 rfl) (fk f.1 1 rfl) (fn f.1 1 rfl) (pk_in 0 27 (by decide)) (fg (j := 0) f.2.2.2 28 rfl (by decide) (by decide)) ?_
  refine ex_if_ne (tgt := 90) ok_X12_reform (mi 45 rfl) rfl (fun hn => absurd (by decide) hn) (fun _ => ?_)
  refine ex_iconst ok_X12_reform (mi 46 rfl) ?_
  refine ex_goto (tgt := 91) ok_X12_reform (mi 47 rfl) rfl ?_
  refine ex_callVr (As := [_, _, _]) (v := some (.int (nI 1))) (g1 := (ap x [(0, 0, 1200, 0, (nI 2))] h)) ok_X12_reform (mi 49 rfl) rfl (m_ref101 (ws := []) hst f.1) rfl (fk f.1 0 rfl) rfl rfl (by decide) (by decide) (Nat.le_of_ble_eq_true rfl) (by decide) ?_
  refine ex_if_eq (tgt := 99) ok_X12_reform (mi 50 rfl) rfl (fun hn => absurd hn (by decide)) (fun _ => ?_)
  refine ex_iconst ok_X12_reform (mi 51 rfl) ?_
  refine ex_iret ok_X12_reform (mi 52 rfl) rfl ?_
  exact ⟨_, rfl, fun e => absurd e (by decide), apI (a := 0) rfl, kq apq (fk f.1 0 rfl), kp_ap rfl⟩
theorem d_reform_0_r2 {G : GE} (hst : (ge_l G).stackTraces = false) {x : Nat} {p1 p2 : Int32} (c1 : vp_in p1 300) (cr : ¬ (p1 - p1 / 3 * 3 = nI 0)) : MM G 3 0 0 my_X12_reform x [.int (nI 0), .int p1, .int p2] 2 (nI 0) := by
  intro h f
  refine ex_M_of ok_X12_reform cw_X12_reform rfl hst (Nat.le_of_ble_eq_true rfl) ?_
  refine ex_iload_n ok_X12_reform (mi 0 rfl) rfl ?_
  refine ex_iconst ok_X12_reform (mi 1 rfl) ?_
  refine ex_iconst ok_X12_reform (mi 2 rfl) ?_
  refine ex_callSr (As := [_, _, _]) ok_X12_reform (mi 3 rfl) rfl (m_in1 hst (by decide) (by decide)) rfl rfl rfl (by decide) (Nat.le_of_ble_eq_true rfl) (by decide) ?_
  refine ex_istore ok_X12_reform (mi 4 rfl) ?_
  refine ex_iload ok_X12_reform (mi 5 rfl) rfl ?_
  refine ex_if_eq (tgt := 64) ok_X12_reform (mi 6 rfl) rfl (fun hn => absurd hn (by decide)) (fun _ => ?_)
  refine ex_iload_n ok_X12_reform (mi 7 rfl) rfl ?_
  refine ex_iconst ok_X12_reform (mi 8 rfl) ?_
  refine ex_sipush ok_X12_reform (mi 9 rfl) ?_
  refine ex_callSr (As := [_, _, _]) ok_X12_reform (mi 10 rfl) rfl (m_in1 hst (vlo c1 (by decide)) (vhi c1 (by decide))) rfl rfl rfl (by decide) (Nat.le_of_ble_eq_true rfl) (by decide) ?_
  refine ex_if_eq (tgt := 64) ok_X12_reform (mi 11 rfl) rfl (fun hn => absurd hn (by decide)) (fun _ => ?_)
  refine ex_iload_n ok_X12_reform (mi 12 rfl) rfl ?_
  refine ex_iconst ok_X12_reform (mi 13 rfl) ?_
  refine ex_irem ok_X12_reform (mi 14 rfl) (by decide) ?_
  refine ex_iload_n ok_X12_reform (mi 15 rfl) rfl ?_
  refine ex_icmp_ne (tgt := 64) ok_X12_reform (mi 16 rfl) rfl (fun h28 => ?_) (fun h28 => False.elim (cr h28))
  refine ex_iconst ok_X12_reform (mi 34 rfl) ?_
  refine ex_istore ok_X12_reform (mi 35 rfl) ?_
  refine ex_aload_n ok_X12_reform (mi 36 rfl) rfl ?_
  refine ex_iload ok_X12_reform (mi 37 rfl) rfl ?_
  refine ex_iload ok_X12_reform (mi 38 rfl) rfl ?_
  refine ex_iload ok_X12_reform (mi 39 rfl) rfl ?_
  refine ex_if_eq (tgt := 90) ok_X12_reform (mi 40 rfl) rfl (fun hn => absurd hn (by decide)) (fun _ => ?_)
  refine ex_aload_n ok_X12_reform (mi 41 rfl) rfl ?_
  refine ex_getRx ok_X12_reform (mi 42 rfl) rfl rfl (fk f.1 0 rfl) (fr f.1 0 rfl) (fk f.1 1 rfl) (by decide) ?_
  refine ex_iload_n ok_X12_reform (mi 43 rfl) rfl ?_
  refine ex_baldx ok_X12_reform (mi 44 rfl) (fk f.1 1 rfl) (fn f.1 1 rfl) (pk_in 0 27 (by decide)) (fg (j := 0) f.2.2.2 28 rfl (by decide) (by decide)) ?_
  refine ex_if_ne (tgt := 90) ok_X12_reform (mi 45 rfl) rfl (fun hn => absurd (by decide) hn) (fun _ => ?_)
  refine ex_iconst ok_X12_reform (mi 46 rfl) ?_
  refine ex_goto (tgt := 91) ok_X12_reform (mi 47 rfl) rfl ?_
  refine ex_callVr (As := [_, _, _]) (v := some (.int (nI 1))) (g1 := (ap x [(0, 0, 1200, 0, (nI 2))] h)) ok_X12_reform (mi 49 rfl) rfl (m_ref101 (ws := []) hst f.1) rfl (fk f.1 0 rfl) rfl rfl (by decide) (by decide) (Nat.le_of_ble_eq_true rfl) (by decide) ?_
  refine ex_if_eq (tgt := 99) ok_X12_reform (mi 50 rfl) rfl (fun hn => absurd hn (by decide)) (fun _ => ?_)
  refine ex_iconst ok_X12_reform (mi 51 rfl) ?_
  refine ex_iret ok_X12_reform (mi 52 rfl) rfl ?_
  exact ⟨_, rfl, fun e => absurd e (by decide), apI (a := 0) rfl, kq apq (fk f.1 0 rfl), kp_ap rfl⟩
theorem d_reform_0_g1 {G : GE} (hst : (ge_l G).stackTraces = false) {x : Nat} {p1 p2 : Int32} (c1 : vp_in p1 300) (cr : p1 - p1 / 3 * 3 = nI 0) (c2 : ¬ (nI 1 ≤ p2 ∧ p2 ≤ nI 511)) : MM G 3 0 0 my_X12_reform x [.int (nI 0), .int p1, .int p2] 2 (nI 0) := by
  intro h f
  refine ex_M_of ok_X12_reform cw_X12_reform rfl hst (Nat.le_of_ble_eq_true rfl) ?_
  refine ex_iload_n ok_X12_reform (mi 0 rfl) rfl ?_
  refine ex_iconst ok_X12_reform (mi 1 rfl) ?_
  refine ex_iconst ok_X12_reform (mi 2 rfl) ?_
  refine ex_callSr (As := [_, _, _]) ok_X12_reform (mi 3 rfl) rfl (m_in1 hst (by decide) (by decide)) rfl rfl rfl (by decide) (Nat.le_of_ble_eq_true rfl) (by decide) ?_
  refine ex_istore ok_X12_reform (mi 4 rfl) ?_
  refine ex_iload ok_X12_reform (mi 5 rfl) rfl ?_
  refine ex_if_eq (tgt := 64) ok_X12_reform (mi 6 rfl) rfl (fun hn => absurd hn (by decide)) (fun _ => ?_)
  refine ex_iload_n ok_X12_reform (mi 7 rfl) rfl ?_
  refine ex_iconst ok_X12_reform (mi 8 rfl) ?_
  refine ex_sipush ok_X12_reform (mi 9 rfl) ?_
  refine ex_callSr (As := [_, _, _]) ok_X12_reform (mi 10 rfl) rfl (m_in1 hst (vlo c1 (by decide)) (vhi c1 (by decide))) rfl rfl rfl (by decide) (Nat.le_of_ble_eq_true rfl) (by decide) ?_
  refine ex_if_eq (tgt := 64) ok_X12_reform (mi 11 rfl) rfl (fun hn => absurd hn (by decide)) (fun _ => ?_)
  refine ex_iload_n ok_X12_reform (mi 12 rfl) rfl ?_
  refine ex_iconst ok_X12_reform (mi 13 rfl) ?_
  refine ex_irem ok_X12_reform (mi 14 rfl) (by decide) ?_
  refine ex_iload_n ok_X12_reform (mi 15 rfl) rfl ?_
  refine ex_icmp_ne (tgt := 64) ok_X12_reform (mi 16 rfl) rfl (fun h28 => False.elim (h28 cr)) (fun h28 => ?_)
  refine ex_iload_n ok_X12_reform (mi 17 rfl) rfl ?_
  refine ex_aload_n ok_X12_reform (mi 18 rfl) rfl ?_
  refine ex_getRx ok_X12_reform (mi 19 rfl) rfl rfl (fk f.1 0 rfl) (fr f.1 27 rfl) (fk f.1 28 rfl) (by decide) ?_
  refine ex_iload_n ok_X12_reform (mi 20 rfl) rfl ?_
  refine ex_ialdx ok_X12_reform (mi 21 rfl) (Or.inl (fk f.1 28 rfl)) (fn f.1 28 rfl) (pk_in 0 3 (by decide)) (fe f.2.2.1 148 rfl) ?_
  refine ex_icmp_le (tgt := 64) ok_X12_reform (mi 22 rfl) rfl (fun h38 => False.elim (absurd (Int32.le_trans (vlo c1 (by decide)) h38) (by decide))) (fun h38 => ?_)
  refine ex_iload_n ok_X12_reform (mi 23 rfl) rfl ?_
  refine ex_iconst ok_X12_reform (mi 24 rfl) ?_
  refine ex_sipush ok_X12_reform (mi 25 rfl) ?_
  refine ex_callSr (As := [_, _, _]) ok_X12_reform (mi 26 rfl) rfl (m_in0 hst c2) rfl rfl rfl (by decide) (Nat.le_of_ble_eq_true rfl) (by decide) ?_
  refine ex_if_eq (tgt := 64) ok_X12_reform (mi 27 rfl) rfl (fun _ => ?_) (fun hn => absurd (by decide) hn)
  refine ex_iconst ok_X12_reform (mi 34 rfl) ?_
  refine ex_istore ok_X12_reform (mi 35 rfl) ?_
  refine ex_aload_n ok_X12_reform (mi 36 rfl) rfl ?_
  refine ex_iload ok_X12_reform (mi 37 rfl) rfl ?_
  refine ex_iload ok_X12_reform (mi 38 rfl) rfl ?_
  refine ex_iload ok_X12_reform (mi 39 rfl) rfl ?_
  refine ex_if_eq (tgt := 90) ok_X12_reform (mi 40 rfl) rfl (fun hn => absurd hn (by decide)) (fun _ => ?_)
  refine ex_aload_n ok_X12_reform (mi 41 rfl) rfl ?_
  refine ex_getRx ok_X12_reform (mi 42 rfl) rfl rfl (fk f.1 0 rfl) (fr f.1 0 rfl) (fk f.1 1 rfl) (by decide) ?_
  refine ex_iload_n ok_X12_reform (mi 43 rfl) rfl ?_
  refine ex_baldx ok_X12_reform (mi 44 rfl) (fk f.1 1 rfl) (fn f.1 1 rfl) (pk_in 0 27 (by decide)) (fg (j := 0) f.2.2.2 28 rfl (by decide) (by decide)) ?_
  refine ex_if_ne (tgt := 90) ok_X12_reform (mi 45 rfl) rfl (fun hn => absurd (by decide) hn) (fun _ => ?_)
  refine ex_iconst ok_X12_reform (mi 46 rfl) ?_
  refine ex_goto (tgt := 91) ok_X12_reform (mi 47 rfl) rfl ?_
  refine ex_callVr (As := [_, _, _]) (v := some (.int (nI 1))) (g1 := (ap x [(0, 0, 1200, 0, (nI 2))] h)) ok_X12_reform (mi 49 rfl) rfl (m_ref101 (ws := []) hst f.1) rfl (fk f.1 0 rfl) rfl rfl (by decide) (by decide) (Nat.le_of_ble_eq_true rfl) (by decide) ?_
  refine ex_if_eq (tgt := 99) ok_X12_reform (mi 50 rfl) rfl (fun hn => absurd hn (by decide)) (fun _ => ?_)
  refine ex_iconst ok_X12_reform (mi 51 rfl) ?_
  refine ex_iret ok_X12_reform (mi 52 rfl) rfl ?_
  exact ⟨_, rfl, fun e => absurd e (by decide), apI (a := 0) rfl, kq apq (fk f.1 0 rfl), kp_ap rfl⟩
theorem d_reform_0_g2 {G : GE} (hst : (ge_l G).stackTraces = false) {x : Nat} {p1 p2 : Int32} (c1 : vp_in p1 300) (cr : p1 - p1 / 3 * 3 = nI 0) (c2 : nI 1 ≤ p2 ∧ p2 ≤ nI 511) (cb : ¬ bcE p2 = nI 3) : MM G 3 0 0 my_X12_reform x [.int (nI 0), .int p1, .int p2] 2 (nI 0) := by
  intro h f
  refine ex_M_of ok_X12_reform cw_X12_reform rfl hst (Nat.le_of_ble_eq_true rfl) ?_
  refine ex_iload_n ok_X12_reform (mi 0 rfl) rfl ?_
  refine ex_iconst ok_X12_reform (mi 1 rfl) ?_
  refine ex_iconst ok_X12_reform (mi 2 rfl) ?_
  refine ex_callSr (As := [_, _, _]) ok_X12_reform (mi 3 rfl) rfl (m_in1 hst (by decide) (by decide)) rfl rfl rfl (by decide) (Nat.le_of_ble_eq_true rfl) (by decide) ?_
  refine ex_istore ok_X12_reform (mi 4 rfl) ?_
  refine ex_iload ok_X12_reform (mi 5 rfl) rfl ?_
  refine ex_if_eq (tgt := 64) ok_X12_reform (mi 6 rfl) rfl (fun hn => absurd hn (by decide)) (fun _ => ?_)
  refine ex_iload_n ok_X12_reform (mi 7 rfl) rfl ?_
  refine ex_iconst ok_X12_reform (mi 8 rfl) ?_
  refine ex_sipush ok_X12_reform (mi 9 rfl) ?_
  refine ex_callSr (As := [_, _, _]) ok_X12_reform (mi 10 rfl) rfl (m_in1 hst (vlo c1 (by decide)) (vhi c1 (by decide))) rfl rfl rfl (by decide) (Nat.le_of_ble_eq_true rfl) (by decide) ?_
  refine ex_if_eq (tgt := 64) ok_X12_reform (mi 11 rfl) rfl (fun hn => absurd hn (by decide)) (fun _ => ?_)
  refine ex_iload_n ok_X12_reform (mi 12 rfl) rfl ?_
  refine ex_iconst ok_X12_reform (mi 13 rfl) ?_
  refine ex_irem ok_X12_reform (mi 14 rfl) (by decide) ?_
  refine ex_iload_n ok_X12_reform (mi 15 rfl) rfl ?_
  refine ex_icmp_ne (tgt := 64) ok_X12_reform (mi 16 rfl) rfl (fun h28 => False.elim (h28 cr)) (fun h28 => ?_)
  refine ex_iload_n ok_X12_reform (mi 17 rfl) rfl ?_
  refine ex_aload_n ok_X12_reform (mi 18 rfl) rfl ?_
  refine ex_getRx ok_X12_reform (mi 19 rfl) rfl rfl (fk f.1 0 rfl) (fr f.1 27 rfl) (fk f.1 28 rfl) (by decide) ?_
  refine ex_iload_n ok_X12_reform (mi 20 rfl) rfl ?_
  refine ex_ialdx ok_X12_reform (mi 21 rfl) (Or.inl (fk f.1 28 rfl)) (fn f.1 28 rfl) (pk_in 0 3 (by decide)) (fe f.2.2.1 148 rfl) ?_
  refine ex_icmp_le (tgt := 64) ok_X12_reform (mi 22 rfl) rfl (fun h38 => False.elim (absurd (Int32.le_trans (vlo c1 (by decide)) h38) (by decide))) (fun h38 => ?_)
  refine ex_iload_n ok_X12_reform (mi 23 rfl) rfl ?_
  refine ex_iconst ok_X12_reform (mi 24 rfl) ?_
  refine ex_sipush ok_X12_reform (mi 25 rfl) ?_
  refine ex_callSr (As := [_, _, _]) ok_X12_reform (mi 26 rfl) rfl (m_in1 hst c2.1 c2.2) rfl rfl rfl (by decide) (Nat.le_of_ble_eq_true rfl) (by decide) ?_
  refine ex_if_eq (tgt := 64) ok_X12_reform (mi 27 rfl) rfl (fun hn => absurd hn (by decide)) (fun _ => ?_)
  refine ex_iload_n ok_X12_reform (mi 28 rfl) rfl ?_
  refine ex_callSr (As := [_]) ok_X12_reform (mi 29 rfl) rfl (m_bits hst c2.1 (Int32.le_trans c2.2 (by decide))) rfl rfl rfl (by decide) (Nat.le_of_ble_eq_true rfl) (by decide) ?_
  refine ex_iconst ok_X12_reform (mi 30 rfl) ?_
  refine ex_icmp_ne (tgt := 64) ok_X12_reform (mi 31 rfl) rfl (fun h57 => ?_) (fun h57 => False.elim (cb h57))
  refine ex_iconst ok_X12_reform (mi 34 rfl) ?_
  refine ex_istore ok_X12_reform (mi 35 rfl) ?_
  refine ex_aload_n ok_X12_reform (mi 36 rfl) rfl ?_
  refine ex_iload ok_X12_reform (mi 37 rfl) rfl ?_
  refine ex_iload ok_X12_reform (mi 38 rfl) rfl ?_
  refine ex_iload ok_X12_reform (mi 39 rfl) rfl ?_
  refine ex_if_eq (tgt := 90) ok_X12_reform (mi 40 rfl) rfl (fun hn => absurd hn (by decide)) (fun _ => ?_)
  refine ex_aload_n ok_X12_reform (mi 41 rfl) rfl ?_
  refine ex_getRx ok_X12_reform (mi 42 rfl) rfl rfl (fk f.1 0 rfl) (fr f.1 0 rfl) (fk f.1 1 rfl) (by decide) ?_
  refine ex_iload_n ok_X12_reform (mi 43 rfl) rfl ?_
  refine ex_baldx ok_X12_reform (mi 44 rfl) (fk f.1 1 rfl) (fn f.1 1 rfl) (pk_in 0 27 (by decide)) (fg (j := 0) f.2.2.2 28 rfl (by decide) (by decide)) ?_
  refine ex_if_ne (tgt := 90) ok_X12_reform (mi 45 rfl) rfl (fun hn => absurd (by decide) hn) (fun _ => ?_)
  refine ex_iconst ok_X12_reform (mi 46 rfl) ?_
  refine ex_goto (tgt := 91) ok_X12_reform (mi 47 rfl) rfl ?_
  refine ex_callVr (As := [_, _, _]) (v := some (.int (nI 1))) (g1 := (ap x [(0, 0, 1200, 0, (nI 2))] h)) ok_X12_reform (mi 49 rfl) rfl (m_ref101 (ws := []) hst f.1) rfl (fk f.1 0 rfl) rfl rfl (by decide) (by decide) (Nat.le_of_ble_eq_true rfl) (by decide) ?_
  refine ex_if_eq (tgt := 99) ok_X12_reform (mi 50 rfl) rfl (fun hn => absurd hn (by decide)) (fun _ => ?_)
  refine ex_iconst ok_X12_reform (mi 51 rfl) ?_
  refine ex_iret ok_X12_reform (mi 52 rfl) rfl ?_
  exact ⟨_, rfl, fun e => absurd e (by decide), apI (a := 0) rfl, kq apq (fk f.1 0 rfl), kp_ap rfl⟩
theorem d_reform_0_k {G : GE} (hst : (ge_l G).stackTraces = false) {x : Nat} {p1 p2 : Int32} (c1 : vp_in p1 300) (cr : p1 - p1 / 3 * 3 = nI 0) (c2 : nI 1 ≤ p2 ∧ p2 ≤ nI 511) (cb : bcE p2 = nI 3) : MM G 3 0 0 my_X12_reform x [.int (nI 0), .int p1, .int p2] 0 (nI 3) := by
  intro h f
  refine ex_M_of ok_X12_reform cw_X12_reform rfl hst (Nat.le_of_ble_eq_true rfl) ?_
  refine ex_iload_n ok_X12_reform (mi 0 rfl) rfl ?_
  refine ex_iconst ok_X12_reform (mi 1 rfl) ?_
  refine ex_iconst ok_X12_reform (mi 2 rfl) ?_
  refine ex_callSr (As := [_, _, _]) ok_X12_reform (mi 3 rfl) rfl (m_in1 hst (by decide) (by decide)) rfl rfl rfl (by decide) (Nat.le_of_ble_eq_true rfl) (by decide) ?_
  refine ex_istore ok_X12_reform (mi 4 rfl) ?_
  refine ex_iload ok_X12_reform (mi 5 rfl) rfl ?_
  refine ex_if_eq (tgt := 64) ok_X12_reform (mi 6 rfl) rfl (fun hn => absurd hn (by decide)) (fun _ => ?_)
  refine ex_iload_n ok_X12_reform (mi 7 rfl) rfl ?_
  refine ex_iconst ok_X12_reform (mi 8 rfl) ?_
  refine ex_sipush ok_X12_reform (mi 9 rfl) ?_
  refine ex_callSr (As := [_, _, _]) ok_X12_reform (mi 10 rfl) rfl (m_in1 hst (vlo c1 (by decide)) (vhi c1 (by decide))) rfl rfl rfl (by decide) (Nat.le_of_ble_eq_true rfl) (by decide) ?_
  refine ex_if_eq (tgt := 64) ok_X12_reform (mi 11 rfl) rfl (fun hn => absurd hn (by decide)) (fun _ => ?_)
  refine ex_iload_n ok_X12_reform (mi 12 rfl) rfl ?_
  refine ex_iconst ok_X12_reform (mi 13 rfl) ?_
  refine ex_irem ok_X12_reform (mi 14 rfl) (by decide) ?_
  refine ex_iload_n ok_X12_reform (mi 15 rfl) rfl ?_
  refine ex_icmp_ne (tgt := 64) ok_X12_reform (mi 16 rfl) rfl (fun h28 => False.elim (h28 cr)) (fun h28 => ?_)
  refine ex_iload_n ok_X12_reform (mi 17 rfl) rfl ?_
  refine ex_aload_n ok_X12_reform (mi 18 rfl) rfl ?_
  refine ex_getRx ok_X12_reform (mi 19 rfl) rfl rfl (fk f.1 0 rfl) (fr f.1 27 rfl) (fk f.1 28 rfl) (by decide) ?_
  refine ex_iload_n ok_X12_reform (mi 20 rfl) rfl ?_
  refine ex_ialdx ok_X12_reform (mi 21 rfl) (Or.inl (fk f.1 28 rfl)) (fn f.1 28 rfl) (pk_in 0 3 (by decide)) (fe f.2.2.1 148 rfl) ?_
  refine ex_icmp_le (tgt := 64) ok_X12_reform (mi 22 rfl) rfl (fun h38 => False.elim (absurd (Int32.le_trans (vlo c1 (by decide)) h38) (by decide))) (fun h38 => ?_)
  refine ex_iload_n ok_X12_reform (mi 23 rfl) rfl ?_
  refine ex_iconst ok_X12_reform (mi 24 rfl) ?_
  refine ex_sipush ok_X12_reform (mi 25 rfl) ?_
  refine ex_callSr (As := [_, _, _]) ok_X12_reform (mi 26 rfl) rfl (m_in1 hst c2.1 c2.2) rfl rfl rfl (by decide) (Nat.le_of_ble_eq_true rfl) (by decide) ?_
  refine ex_if_eq (tgt := 64) ok_X12_reform (mi 27 rfl) rfl (fun hn => absurd hn (by decide)) (fun _ => ?_)
  refine ex_iload_n ok_X12_reform (mi 28 rfl) rfl ?_
  refine ex_callSr (As := [_]) ok_X12_reform (mi 29 rfl) rfl (m_bits hst c2.1 (Int32.le_trans c2.2 (by decide))) rfl rfl rfl (by decide) (Nat.le_of_ble_eq_true rfl) (by decide) ?_
  refine ex_iconst ok_X12_reform (mi 30 rfl) ?_
  refine ex_icmp_ne (tgt := 64) ok_X12_reform (mi 31 rfl) rfl (fun h57 => False.elim (h57 cb)) (fun h57 => ?_)
  refine ex_iconst ok_X12_reform (mi 32 rfl) ?_
  refine ex_goto (tgt := 65) ok_X12_reform (mi 33 rfl) rfl ?_
  refine ex_istore ok_X12_reform (mi 35 rfl) ?_
  refine ex_aload_n ok_X12_reform (mi 36 rfl) rfl ?_
  refine ex_iload ok_X12_reform (mi 37 rfl) rfl ?_
  refine ex_iload ok_X12_reform (mi 38 rfl) rfl ?_
  refine ex_iload ok_X12_reform (mi 39 rfl) rfl ?_
  refine ex_if_eq (tgt := 90) ok_X12_reform (mi 40 rfl) rfl (fun hn => absurd hn (by decide)) (fun _ => ?_)
  refine ex_aload_n ok_X12_reform (mi 41 rfl) rfl ?_
  refine ex_getRx ok_X12_reform (mi 42 rfl) rfl rfl (fk f.1 0 rfl) (fr f.1 0 rfl) (fk f.1 1 rfl) (by decide) ?_
  refine ex_iload_n ok_X12_reform (mi 43 rfl) rfl ?_
  refine ex_baldx ok_X12_reform (mi 44 rfl) (fk f.1 1 rfl) (fn f.1 1 rfl) (pk_in 0 27 (by decide)) (fg (j := 0) f.2.2.2 28 rfl (by decide) (by decide)) ?_
  refine ex_if_ne (tgt := 90) ok_X12_reform (mi 45 rfl) rfl (fun hn => absurd (by decide) hn) (fun _ => ?_)
  refine ex_iconst ok_X12_reform (mi 46 rfl) ?_
  refine ex_goto (tgt := 91) ok_X12_reform (mi 47 rfl) rfl ?_
  refine ex_callVr (As := [_, _, _]) (v := some (.int (nI 0))) (g1 := (ap x [(0, 0, 1200, 0, (nI 0))] h)) ok_X12_reform (mi 49 rfl) rfl (m_ref111 (ws := []) hst f.1) rfl (fk f.1 0 rfl) rfl rfl (by decide) (by decide) (Nat.le_of_ble_eq_true rfl) (by decide) ?_
  refine ex_if_eq (tgt := 99) ok_X12_reform (mi 50 rfl) rfl (fun _ => ?_) (fun hn => absurd (by decide) hn)
  refine ex_aload_n ok_X12_reform (mi 53 rfl) rfl ?_
  refine ex_iload_n ok_X12_reform (mi 54 rfl) rfl ?_
  refine ex_callVr (As := [_]) (v := none) (g1 := (ap x [(2, 31, 0, 300, (nI 0)), (1, 33, 0, 0, (nI 0)), (1, 32, 0, 0, (-1)), (1, 30, 0, 0, (nI 0)), (1, 29, 0, 0, (nI 0)), (0, 0, 1200, 0, (nI 0))] h)) ok_X12_reform (mi 55 rfl) rfl (m_X12_forgetReform0 hst f.1) rfl (kq apq (fk f.1 0 rfl)) rfl rfl (by decide) (by decide) (Nat.le_of_ble_eq_true rfl) (by decide) ?_
  refine ex_aload_n ok_X12_reform (mi 56 rfl) rfl ?_
  refine ex_getRx ok_X12_reform (mi 57 rfl) rfl rfl (kq apq (fk f.1 0 rfl)) (rq apq (fr f.1 25 rfl)) (kq apq (fk f.1 26 rfl)) (by decide) ?_
  refine ex_iload_n ok_X12_reform (mi 58 rfl) rfl ?_
  refine ex_iconst ok_X12_reform (mi 59 rfl) ?_
  refine ex_iasta (a := 26) (j := 0) (v := (nI 1)) ok_X12_reform (mi 60 rfl) (fk f.1 26 rfl) (fn f.1 26 rfl) (pk_in 0 3 (by decide)) (by decide) (by decide) ?_
  refine ex_aload_n ok_X12_reform (mi 61 rfl) rfl ?_
  refine ex_getRx ok_X12_reform (mi 62 rfl) rfl rfl (kq apq (fk f.1 0 rfl)) (rq apq (fr f.1 27 rfl)) (kq apq (fk f.1 28 rfl)) (by decide) ?_
  refine ex_iload_n ok_X12_reform (mi 63 rfl) rfl ?_
  refine ex_iload_n ok_X12_reform (mi 64 rfl) rfl ?_
  refine ex_iasta (a := 28) (j := 0) (v := p1) ok_X12_reform (mi 65 rfl) (fk f.1 28 rfl) (fn f.1 28 rfl) (pk_in 0 3 (by decide)) (by decide) rfl ?_
  refine ex_aload_n ok_X12_reform (mi 66 rfl) rfl ?_
  refine ex_getRx ok_X12_reform (mi 67 rfl) rfl rfl (kq apq (fk f.1 0 rfl)) (rq apq (fr f.1 26 rfl)) (kq apq (fk f.1 27 rfl)) (by decide) ?_
  refine ex_iload_n ok_X12_reform (mi 68 rfl) rfl ?_
  refine ex_iload_n ok_X12_reform (mi 69 rfl) rfl ?_
  refine ex_iasta (a := 27) (j := 0) (v := p2) ok_X12_reform (mi 70 rfl) (fk f.1 27 rfl) (fn f.1 27 rfl) (pk_in 0 3 (by decide)) (by decide) rfl ?_
  refine ex_aload_n ok_X12_reform (mi 71 rfl) rfl ?_
  refine ex_bipush ok_X12_reform (mi 72 rfl) ?_
  refine ex_iload_n ok_X12_reform (mi 73 rfl) rfl ?_
  refine ex_aload_n ok_X12_reform (mi 74 rfl) rfl ?_
  refine ex_getRx ok_X12_reform (mi 75 rfl) rfl rfl (kq apq (fk f.1 0 rfl)) (rq apq (fr f.1 5 rfl)) (kq apq (fk f.1 6 rfl)) (by decide) ?_
  refine ex_iload_n ok_X12_reform (mi 76 rfl) rfl ?_
  refine ex_ialdx ok_X12_reform (mi 77 rfl) (Or.inl (kq apq (fk f.1 6 rfl))) (nq apq (fn f.1 6 rfl)) (pk_in 0 3 (by decide)) (apA0 (j := 0) rfl (fe f.2.2.1 163 rfl)) ?_
  refine ex_aload_n ok_X12_reform (mi 78 rfl) rfl ?_
  refine ex_getRx ok_X12_reform (mi 79 rfl) rfl rfl (kq apq (fk f.1 0 rfl)) (rq apq (fr f.1 4 rfl)) (kq apq (fk f.1 5 rfl)) (by decide) ?_
  refine ex_iload_n ok_X12_reform (mi 80 rfl) rfl ?_
  refine ex_ialdx ok_X12_reform (mi 81 rfl) (Or.inl (kq apq (fk f.1 5 rfl))) (nq apq (fn f.1 5 rfl)) (pk_in 0 3 (by decide)) (apA0 (j := 0) rfl (fe f.2.2.1 164 rfl)) ?_
  refine ex_iload_n ok_X12_reform (mi 82 rfl) rfl ?_
  refine ex_iconst ok_X12_reform (mi 83 rfl) ?_
  refine ex_callVr (As := [_, _, _, _, _, _]) (v := some (.int (nI 3))) (g1 := (ap x [(0, 0, 1258, 0, (nI 2)), (1, 55, 5, 0, (nI 0)), (1, 55, 4, 0, (nI 0)), (1, 54, 2, 0, (nI 0)), (1, 53, 8, 0, (nI 0)), (1, 53, 7, 0, p1), (1, 53, 6, 0, (nI 0)), (1, 52, 2, 0, (nI 2)), (1, 51, 2, 0, (nI 0)), (1, 50, 2, 0, (nI 16)), (0, 0, 1248, 0, (nI 3)), (1, 48, 2, 0, (nI 2)), (1, 49, 2, 0, (nI 1)), (0, 0, 1258, 0, (-1)), (0, 0, 1258, 0, (nI 1)), (1, 55, 3, 0, (nI 0)), (1, 55, 2, 0, (nI 0)), (1, 54, 1, 0, (nI 0)), (1, 53, 5, 0, (nI 0)), (1, 53, 4, 0, p1), (1, 53, 3, 0, (nI 0)), (1, 52, 1, 0, (nI 1)), (1, 51, 1, 0, (nI 0)), (1, 50, 1, 0, (nI 16)), (0, 0, 1248, 0, (nI 2)), (1, 48, 1, 0, (nI 1)), (1, 49, 1, 0, (nI 1)), (0, 0, 1258, 0, (-1)), (0, 0, 1258, 0, (nI 0)), (1, 55, 1, 0, (nI 0)), (1, 55, 0, 0, (nI 0)), (1, 54, 0, 0, (nI 0)), (1, 53, 2, 0, (nI 0)), (1, 53, 1, 0, p1), (1, 53, 0, 0, (nI 0)), (1, 52, 0, 0, (nI 0)), (1, 51, 0, 0, (nI 0)), (1, 50, 0, 0, (nI 16)), (0, 0, 1248, 0, (nI 1)), (1, 48, 0, 0, (nI 0)), (1, 49, 0, 0, (nI 1)), (0, 0, 1258, 0, (-1)), (1, 27, 0, 0, p2), (1, 28, 0, 0, p1), (1, 26, 0, 0, (nI 1)), (2, 31, 0, 300, (nI 0)), (1, 33, 0, 0, (nI 0)), (1, 32, 0, 0, (-1)), (1, 30, 0, 0, (nI 0)), (1, 29, 0, 0, (nI 0)), (0, 0, 1200, 0, (nI 0))] h)) ok_X12_reform (mi 84 rfl) rfl ?c rfl (kq apq (fk f.1 0 rfl)) rfl rfl (by decide) (by decide) (Nat.le_of_ble_eq_true rfl) (by decide) ?_
  case c =>
    refine ex_M_of ok_X12_layAll cw_X12_layAll rfl hst (Nat.le_of_ble_eq_true rfl) ?_
    refine ex_iconst ok_X12_layAll (mi 0 rfl) ?_
    refine ex_istore ok_X12_layAll (mi 1 rfl) ?_
    refine ex_iconst ok_X12_layAll (mi 2 rfl) ?_
    refine ex_istore ok_X12_layAll (mi 3 rfl) ?_
    refine ex_iload ok_X12_layAll (mi 4 rfl) rfl ?_
    refine ex_bipush ok_X12_layAll (mi 5 rfl) ?_
    refine ex_icmp_ge (tgt := 47) ok_X12_layAll (mi 6 rfl) rfl (fun hn => absurd hn (by decide)) (fun _ => ?_)
    refine ex_iload_n ok_X12_layAll (mi 7 rfl) rfl ?_
    refine ex_iload ok_X12_layAll (mi 8 rfl) rfl ?_
    refine ex_callSr (As := [_, _]) (v := some (.int (nI 1))) (g1 := (ap x [(1, 27, 0, 0, p2), (1, 28, 0, 0, p1), (1, 26, 0, 0, (nI 1)), (2, 31, 0, 300, (nI 0)), (1, 33, 0, 0, (nI 0)), (1, 32, 0, 0, (-1)), (1, 30, 0, 0, (nI 0)), (1, 29, 0, 0, (nI 0)), (0, 0, 1200, 0, (nI 0))] h)) ok_X12_layAll (mi 9 rfl) rfl ?c rfl rfl rfl (by decide) (Nat.le_of_ble_eq_true rfl) (by decide) ?_
    case c =>
      refine ex_M_of ok_X12_has cw_X12_has rfl hst (Nat.le_of_ble_eq_true rfl) ?_
      refine ex_iload_n ok_X12_has (mi 0 rfl) rfl ?_
      refine ex_iload_n ok_X12_has (mi 1 rfl) rfl ?_
      refine ex_ishr ok_X12_has (mi 2 rfl) ?_
      refine ex_top (w := (nI 7)) (by decide) ?_
      refine ex_iconst ok_X12_has (mi 3 rfl) ?_
      refine ex_iand ok_X12_has (mi 4 rfl) ?_
      refine ex_top (w := (nI 1)) (by decide) ?_
      refine ex_iconst ok_X12_has (mi 5 rfl) ?_
      refine ex_icmp_ne (tgt := 13) ok_X12_has (mi 6 rfl) rfl (fun hn => absurd (by decide) hn) (fun _ => ?_)
      refine ex_iconst ok_X12_has (mi 7 rfl) ?_
      refine ex_goto (tgt := 14) ok_X12_has (mi 8 rfl) rfl ?_
      refine ex_zret ok_X12_has (mi 10 rfl) rfl (by decide) ?_
      exact ⟨inlI (by decide), rfl⟩
    refine ex_if_eq (tgt := 41) ok_X12_layAll (mi 10 rfl) rfl (fun hn => absurd hn (by decide)) (fun _ => ?_)
    refine ex_aload_n ok_X12_layAll (mi 11 rfl) rfl ?_
    refine ex_iload_n ok_X12_layAll (mi 12 rfl) rfl ?_
    refine ex_iload_n ok_X12_layAll (mi 13 rfl) rfl ?_
    refine ex_iload ok_X12_layAll (mi 14 rfl) rfl ?_
    refine ex_iload ok_X12_layAll (mi 15 rfl) rfl ?_
    refine ex_iload ok_X12_layAll (mi 16 rfl) rfl ?_
    refine ex_iload ok_X12_layAll (mi 17 rfl) rfl ?_
    refine ex_callVr (As := [_, _, _, _, _, _]) (v := some (.int (nI 1))) (g1 := (ap x [(0, 0, 1258, 0, (nI 0)), (1, 55, 1, 0, (nI 0)), (1, 55, 0, 0, (nI 0)), (1, 54, 0, 0, (nI 0)), (1, 53, 2, 0, (nI 0)), (1, 53, 1, 0, p1), (1, 53, 0, 0, (nI 0)), (1, 52, 0, 0, (nI 0)), (1, 51, 0, 0, (nI 0)), (1, 50, 0, 0, (nI 16)), (0, 0, 1248, 0, (nI 1)), (1, 48, 0, 0, (nI 0)), (1, 49, 0, 0, (nI 1)), (0, 0, 1258, 0, (-1)), (1, 27, 0, 0, p2), (1, 28, 0, 0, p1), (1, 26, 0, 0, (nI 1)), (2, 31, 0, 300, (nI 0)), (1, 33, 0, 0, (nI 0)), (1, 32, 0, 0, (-1)), (1, 30, 0, 0, (nI 0)), (1, 29, 0, 0, (nI 0)), (0, 0, 1200, 0, (nI 0))] h)) ok_X12_layAll (mi 18 rfl) rfl ?c rfl (kq apq (fk f.1 0 rfl)) rfl rfl (by decide) (by decide) (Nat.le_of_ble_eq_true rfl) (by decide) ?_
    case c =>
      refine ex_M_of ok_X12_lay cw_X12_lay rfl hst (Nat.le_of_ble_eq_true rfl) ?_
      refine ex_aload_n ok_X12_lay (mi 0 rfl) rfl ?_
      refine ex_iconst ok_X12_lay (mi 1 rfl) ?_
      refine ex_putIa (a := 0) (v := (-1)) ok_X12_lay (mi 2 rfl) rfl rfl (fk f.1 0 rfl) (by decide) ?_
      refine ex_aload_n ok_X12_lay (mi 3 rfl) rfl ?_
      refine ex_getIx ok_X12_lay (mi 4 rfl) rfl rfl (kq apq (fk f.1 0 rfl)) (apI0 (a := 0) rfl (fi f.2.1 5 rfl)) ?_
      refine ex_sipush ok_X12_lay (mi 5 rfl) ?_
      refine ex_icmp_ne (tgt := 27) ok_X12_lay (mi 6 rfl) rfl (fun _ => ?_) (fun hn => absurd hn (by decide))
      refine ex_iconst ok_X12_lay (mi 15 rfl) ?_
      refine ex_istore ok_X12_lay (mi 16 rfl) ?_
      refine ex_aload_n ok_X12_lay (mi 17 rfl) rfl ?_
      refine ex_getRx ok_X12_lay (mi 18 rfl) rfl rfl (kq apq (fk f.1 0 rfl)) (rq apq (fr f.1 48 rfl)) (kq apq (fk f.1 49 rfl)) (by decide) ?_
      refine ex_iload ok_X12_lay (mi 19 rfl) rfl ?_
      refine ex_baldx ok_X12_lay (mi 20 rfl) (kq apq (fk f.1 49 rfl)) (nq apq (fn f.1 49 rfl)) (pk_in 0 402 (by decide)) (apA0 (j := 0) rfl (fg (j := 0) f.2.2.2 3 rfl (by decide) (by decide))) ?_
      refine ex_if_eq (tgt := 46) ok_X12_lay (mi 21 rfl) rfl (fun _ => ?_) (fun hn => absurd (by decide) hn)
      refine ex_aload_n ok_X12_lay (mi 24 rfl) rfl ?_
      refine ex_getRx ok_X12_lay (mi 25 rfl) rfl rfl (kq apq (fk f.1 0 rfl)) (rq apq (fr f.1 48 rfl)) (kq apq (fk f.1 49 rfl)) (by decide) ?_
      refine ex_iload ok_X12_lay (mi 26 rfl) rfl ?_
      refine ex_iconst ok_X12_lay (mi 27 rfl) ?_
      refine ex_basta (a := 49) (j := 0) (v := (nI 1)) ok_X12_lay (mi 28 rfl) (fk f.1 49 rfl) (fn f.1 49 rfl) (pk_in 0 402 (by decide)) (by decide) (by decide) (by decide) ?_
      refine ex_aload_n ok_X12_lay (mi 29 rfl) rfl ?_
      refine ex_getRx ok_X12_lay (mi 30 rfl) rfl rfl (kq apq (fk f.1 0 rfl)) (rq apq (fr f.1 47 rfl)) (kq apq (fk f.1 48 rfl)) (by decide) ?_
      refine ex_aload_n ok_X12_lay (mi 31 rfl) rfl ?_
      refine ex_getIx ok_X12_lay (mi 32 rfl) rfl rfl (kq apq (fk f.1 0 rfl)) (apI0 (a := 0) rfl (fi f.2.1 5 rfl)) ?_
      refine ex_iload ok_X12_lay (mi 33 rfl) rfl ?_
      refine ex_iasta (a := 48) (j := 0) (v := (nI 0)) ok_X12_lay (mi 34 rfl) (fk f.1 48 rfl) (fn f.1 48 rfl) (pk_in 0 400 (by decide)) (by decide) (by decide) ?_
      refine ex_aload_n ok_X12_lay (mi 35 rfl) rfl ?_
      refine ex_dup ok_X12_lay (mi 36 rfl) rfl ?_
      refine ex_getIx ok_X12_lay (mi 37 rfl) rfl rfl (kq apq (fk f.1 0 rfl)) (apI0 (a := 0) rfl (fi f.2.1 5 rfl)) ?_
      refine ex_iconst ok_X12_lay (mi 38 rfl) ?_
      refine ex_iadd ok_X12_lay (mi 39 rfl) ?_
      refine ex_top (w := (nI 1)) (by decide) ?_
      refine ex_putIa (a := 0) (v := (nI 1)) ok_X12_lay (mi 40 rfl) rfl rfl (fk f.1 0 rfl) (by decide) ?_
      refine ex_aload_n ok_X12_lay (mi 41 rfl) rfl ?_
      refine ex_getRx ok_X12_lay (mi 42 rfl) rfl rfl (kq apq (fk f.1 0 rfl)) (rq apq (fr f.1 49 rfl)) (kq apq (fk f.1 50 rfl)) (by decide) ?_
      refine ex_iload ok_X12_lay (mi 43 rfl) rfl ?_
      refine ex_iload_n ok_X12_lay (mi 44 rfl) rfl ?_
      refine ex_iasta (a := 50) (j := 0) (v := (nI 16)) ok_X12_lay (mi 45 rfl) (fk f.1 50 rfl) (fn f.1 50 rfl) (pk_in 0 402 (by decide)) (by decide) (by decide) ?_
      refine ex_aload_n ok_X12_lay (mi 46 rfl) rfl ?_
      refine ex_getRx ok_X12_lay (mi 47 rfl) rfl rfl (kq apq (fk f.1 0 rfl)) (rq apq (fr f.1 50 rfl)) (kq apq (fk f.1 51 rfl)) (by decide) ?_
      refine ex_iload ok_X12_lay (mi 48 rfl) rfl ?_
      refine ex_iload_n ok_X12_lay (mi 49 rfl) rfl ?_
      refine ex_iasta (a := 51) (j := 0) (v := (nI 0)) ok_X12_lay (mi 50 rfl) (fk f.1 51 rfl) (fn f.1 51 rfl) (pk_in 0 402 (by decide)) (by decide) (by decide) ?_
      refine ex_aload_n ok_X12_lay (mi 51 rfl) rfl ?_
      refine ex_getRx ok_X12_lay (mi 52 rfl) rfl rfl (kq apq (fk f.1 0 rfl)) (rq apq (fr f.1 51 rfl)) (kq apq (fk f.1 52 rfl)) (by decide) ?_
      refine ex_iload ok_X12_lay (mi 53 rfl) rfl ?_
      refine ex_iload_n ok_X12_lay (mi 54 rfl) rfl ?_
      refine ex_iasta (a := 52) (j := 0) (v := (nI 0)) ok_X12_lay (mi 55 rfl) (fk f.1 52 rfl) (fn f.1 52 rfl) (pk_in 0 402 (by decide)) (by decide) (by decide) ?_
      refine ex_aload_n ok_X12_lay (mi 56 rfl) rfl ?_
      refine ex_getRx ok_X12_lay (mi 57 rfl) rfl rfl (kq apq (fk f.1 0 rfl)) (rq apq (fr f.1 52 rfl)) (kq apq (fk f.1 53 rfl)) (by decide) ?_
      refine ex_iconst ok_X12_lay (mi 58 rfl) ?_
      refine ex_iload ok_X12_lay (mi 59 rfl) rfl ?_
      refine ex_imul ok_X12_lay (mi 60 rfl) ?_
      refine ex_top (w := (nI 0)) (by decide) ?_
      refine ex_iload ok_X12_lay (mi 61 rfl) rfl ?_
      refine ex_iasta (a := 53) (j := 0) (v := (nI 0)) ok_X12_lay (mi 62 rfl) (fk f.1 53 rfl) (fn f.1 53 rfl) (pk_in 0 1206 (by decide)) (by decide) (by decide) ?_
      refine ex_aload_n ok_X12_lay (mi 63 rfl) rfl ?_
      refine ex_getRx ok_X12_lay (mi 64 rfl) rfl rfl (kq apq (fk f.1 0 rfl)) (rq apq (fr f.1 52 rfl)) (kq apq (fk f.1 53 rfl)) (by decide) ?_
      refine ex_iconst ok_X12_lay (mi 65 rfl) ?_
      refine ex_iload ok_X12_lay (mi 66 rfl) rfl ?_
      refine ex_imul ok_X12_lay (mi 67 rfl) ?_
      refine ex_top (w := (nI 0)) (by decide) ?_
      refine ex_iconst ok_X12_lay (mi 68 rfl) ?_
      refine ex_iadd ok_X12_lay (mi 69 rfl) ?_
      refine ex_top (w := (nI 1)) (by decide) ?_
      refine ex_iload ok_X12_lay (mi 70 rfl) rfl ?_
      refine ex_iasta (a := 53) (j := 1) (v := p1) ok_X12_lay (mi 71 rfl) (fk f.1 53 rfl) (fn f.1 53 rfl) (pk_in 1 1206 (by decide)) (by decide) rfl ?_
      refine ex_aload_n ok_X12_lay (mi 72 rfl) rfl ?_
      refine ex_getRx ok_X12_lay (mi 73 rfl) rfl rfl (kq apq (fk f.1 0 rfl)) (rq apq (fr f.1 52 rfl)) (kq apq (fk f.1 53 rfl)) (by decide) ?_
      refine ex_iconst ok_X12_lay (mi 74 rfl) ?_
      refine ex_iload ok_X12_lay (mi 75 rfl) rfl ?_
      refine ex_imul ok_X12_lay (mi 76 rfl) ?_
      refine ex_top (w := (nI 0)) (by decide) ?_
      refine ex_iconst ok_X12_lay (mi 77 rfl) ?_
      refine ex_iadd ok_X12_lay (mi 78 rfl) ?_
      refine ex_top (w := (nI 2)) (by decide) ?_
      refine ex_iload ok_X12_lay (mi 79 rfl) rfl ?_
      refine ex_iasta (a := 53) (j := 2) (v := (nI 0)) ok_X12_lay (mi 80 rfl) (fk f.1 53 rfl) (fn f.1 53 rfl) (pk_in 2 1206 (by decide)) (by decide) (by decide) ?_
      refine ex_aload_n ok_X12_lay (mi 81 rfl) rfl ?_
      refine ex_getRx ok_X12_lay (mi 82 rfl) rfl rfl (kq apq (fk f.1 0 rfl)) (rq apq (fr f.1 53 rfl)) (kq apq (fk f.1 54 rfl)) (by decide) ?_
      refine ex_iload ok_X12_lay (mi 83 rfl) rfl ?_
      refine ex_iconst ok_X12_lay (mi 84 rfl) ?_
      refine ex_iasta (a := 54) (j := 0) (v := (nI 0)) ok_X12_lay (mi 85 rfl) (fk f.1 54 rfl) (fn f.1 54 rfl) (pk_in 0 402 (by decide)) (by decide) (by decide) ?_
      refine ex_aload_n ok_X12_lay (mi 86 rfl) rfl ?_
      refine ex_getRx ok_X12_lay (mi 87 rfl) rfl rfl (kq apq (fk f.1 0 rfl)) (rq apq (fr f.1 54 rfl)) (kq apq (fk f.1 55 rfl)) (by decide) ?_
      refine ex_iconst ok_X12_lay (mi 88 rfl) ?_
      refine ex_iload ok_X12_lay (mi 89 rfl) rfl ?_
      refine ex_imul ok_X12_lay (mi 90 rfl) ?_
      refine ex_top (w := (nI 0)) (by decide) ?_
      refine ex_iconst ok_X12_lay (mi 91 rfl) ?_
      refine ex_iasta (a := 55) (j := 0) (v := (nI 0)) ok_X12_lay (mi 92 rfl) (fk f.1 55 rfl) (fn f.1 55 rfl) (pk_in 0 804 (by decide)) (by decide) (by decide) ?_
      refine ex_aload_n ok_X12_lay (mi 93 rfl) rfl ?_
      refine ex_getRx ok_X12_lay (mi 94 rfl) rfl rfl (kq apq (fk f.1 0 rfl)) (rq apq (fr f.1 54 rfl)) (kq apq (fk f.1 55 rfl)) (by decide) ?_
      refine ex_iconst ok_X12_lay (mi 95 rfl) ?_
      refine ex_iload ok_X12_lay (mi 96 rfl) rfl ?_
      refine ex_imul ok_X12_lay (mi 97 rfl) ?_
      refine ex_top (w := (nI 0)) (by decide) ?_
      refine ex_iconst ok_X12_lay (mi 98 rfl) ?_
      refine ex_iadd ok_X12_lay (mi 99 rfl) ?_
      refine ex_top (w := (nI 1)) (by decide) ?_
      refine ex_iconst ok_X12_lay (mi 100 rfl) ?_
      refine ex_iasta (a := 55) (j := 1) (v := (nI 0)) ok_X12_lay (mi 101 rfl) (fk f.1 55 rfl) (fn f.1 55 rfl) (pk_in 1 804 (by decide)) (by decide) (by decide) ?_
      refine ex_aload_n ok_X12_lay (mi 102 rfl) rfl ?_
      refine ex_iload ok_X12_lay (mi 103 rfl) rfl ?_
      refine ex_putIa (a := 0) (v := (nI 0)) ok_X12_lay (mi 104 rfl) rfl rfl (fk f.1 0 rfl) (by decide) ?_
      refine ex_iconst ok_X12_lay (mi 105 rfl) ?_
      refine ex_zret ok_X12_lay (mi 106 rfl) rfl (by decide) ?_
      exact ⟨inlI (by decide), rfl⟩
    refine ex_istore ok_X12_layAll (mi 19 rfl) ?_
    refine ex_iincx (w := (nI 1)) ok_X12_layAll (mi 20 rfl) rfl (by decide) ?_
    refine ex_iincx (w := (nI 1)) ok_X12_layAll (mi 21 rfl) rfl (by decide) ?_
    refine ex_goto (tgt := 6) ok_X12_layAll (mi 22 rfl) rfl ?_
    refine ex_ls (ls' := [(0, .ref x), (1, .int (nI 16)), (2, .int (nI 0)), (3, .int (nI 7)), (4, .int (nI 0)), (5, .int p1), (6, .int (nI 0)), (7, .int (nI 1)), (8, .int (nI 1)), (9, .int (nI 1))]) ⟨rfl, rfl, rfl, rfl, rfl, rfl, rfl, rfl, rfl, rfl, trivial⟩ ?_
    refine ex_iload ok_X12_layAll (mi 4 rfl) rfl ?_
    refine ex_bipush ok_X12_layAll (mi 5 rfl) ?_
    refine ex_icmp_ge (tgt := 47) ok_X12_layAll (mi 6 rfl) rfl (fun hn => absurd hn (by decide)) (fun _ => ?_)
    refine ex_iload_n ok_X12_layAll (mi 7 rfl) rfl ?_
    refine ex_iload ok_X12_layAll (mi 8 rfl) rfl ?_
    refine ex_callSr (As := [_, _]) (v := some (.int (nI 1))) (g1 := (ap x [(0, 0, 1258, 0, (nI 0)), (1, 55, 1, 0, (nI 0)), (1, 55, 0, 0, (nI 0)), (1, 54, 0, 0, (nI 0)), (1, 53, 2, 0, (nI 0)), (1, 53, 1, 0, p1), (1, 53, 0, 0, (nI 0)), (1, 52, 0, 0, (nI 0)), (1, 51, 0, 0, (nI 0)), (1, 50, 0, 0, (nI 16)), (0, 0, 1248, 0, (nI 1)), (1, 48, 0, 0, (nI 0)), (1, 49, 0, 0, (nI 1)), (0, 0, 1258, 0, (-1)), (1, 27, 0, 0, p2), (1, 28, 0, 0, p1), (1, 26, 0, 0, (nI 1)), (2, 31, 0, 300, (nI 0)), (1, 33, 0, 0, (nI 0)), (1, 32, 0, 0, (-1)), (1, 30, 0, 0, (nI 0)), (1, 29, 0, 0, (nI 0)), (0, 0, 1200, 0, (nI 0))] h)) ok_X12_layAll (mi 9 rfl) rfl ?c rfl rfl rfl (by decide) (Nat.le_of_ble_eq_true rfl) (by decide) ?_
    case c =>
      refine ex_M_of ok_X12_has cw_X12_has rfl hst (Nat.le_of_ble_eq_true rfl) ?_
      refine ex_iload_n ok_X12_has (mi 0 rfl) rfl ?_
      refine ex_iload_n ok_X12_has (mi 1 rfl) rfl ?_
      refine ex_ishr ok_X12_has (mi 2 rfl) ?_
      refine ex_top (w := (nI 3)) (by decide) ?_
      refine ex_iconst ok_X12_has (mi 3 rfl) ?_
      refine ex_iand ok_X12_has (mi 4 rfl) ?_
      refine ex_top (w := (nI 1)) (by decide) ?_
      refine ex_iconst ok_X12_has (mi 5 rfl) ?_
      refine ex_icmp_ne (tgt := 13) ok_X12_has (mi 6 rfl) rfl (fun hn => absurd (by decide) hn) (fun _ => ?_)
      refine ex_iconst ok_X12_has (mi 7 rfl) ?_
      refine ex_goto (tgt := 14) ok_X12_has (mi 8 rfl) rfl ?_
      refine ex_zret ok_X12_has (mi 10 rfl) rfl (by decide) ?_
      exact ⟨inlI (by decide), rfl⟩
    refine ex_if_eq (tgt := 41) ok_X12_layAll (mi 10 rfl) rfl (fun hn => absurd hn (by decide)) (fun _ => ?_)
    refine ex_aload_n ok_X12_layAll (mi 11 rfl) rfl ?_
    refine ex_iload_n ok_X12_layAll (mi 12 rfl) rfl ?_
    refine ex_iload_n ok_X12_layAll (mi 13 rfl) rfl ?_
    refine ex_iload ok_X12_layAll (mi 14 rfl) rfl ?_
    refine ex_iload ok_X12_layAll (mi 15 rfl) rfl ?_
    refine ex_iload ok_X12_layAll (mi 16 rfl) rfl ?_
    refine ex_iload ok_X12_layAll (mi 17 rfl) rfl ?_
    refine ex_callVr (As := [_, _, _, _, _, _]) (v := some (.int (nI 1))) (g1 := (ap x [(0, 0, 1258, 0, (nI 1)), (1, 55, 3, 0, (nI 0)), (1, 55, 2, 0, (nI 0)), (1, 54, 1, 0, (nI 0)), (1, 53, 5, 0, (nI 0)), (1, 53, 4, 0, p1), (1, 53, 3, 0, (nI 0)), (1, 52, 1, 0, (nI 1)), (1, 51, 1, 0, (nI 0)), (1, 50, 1, 0, (nI 16)), (0, 0, 1248, 0, (nI 2)), (1, 48, 1, 0, (nI 1)), (1, 49, 1, 0, (nI 1)), (0, 0, 1258, 0, (-1)), (0, 0, 1258, 0, (nI 0)), (1, 55, 1, 0, (nI 0)), (1, 55, 0, 0, (nI 0)), (1, 54, 0, 0, (nI 0)), (1, 53, 2, 0, (nI 0)), (1, 53, 1, 0, p1), (1, 53, 0, 0, (nI 0)), (1, 52, 0, 0, (nI 0)), (1, 51, 0, 0, (nI 0)), (1, 50, 0, 0, (nI 16)), (0, 0, 1248, 0, (nI 1)), (1, 48, 0, 0, (nI 0)), (1, 49, 0, 0, (nI 1)), (0, 0, 1258, 0, (-1)), (1, 27, 0, 0, p2), (1, 28, 0, 0, p1), (1, 26, 0, 0, (nI 1)), (2, 31, 0, 300, (nI 0)), (1, 33, 0, 0, (nI 0)), (1, 32, 0, 0, (-1)), (1, 30, 0, 0, (nI 0)), (1, 29, 0, 0, (nI 0)), (0, 0, 1200, 0, (nI 0))] h)) ok_X12_layAll (mi 18 rfl) rfl ?c rfl (kq apq (fk f.1 0 rfl)) rfl rfl (by decide) (by decide) (Nat.le_of_ble_eq_true rfl) (by decide) ?_
    case c =>
      refine ex_M_of ok_X12_lay cw_X12_lay rfl hst (Nat.le_of_ble_eq_true rfl) ?_
      refine ex_aload_n ok_X12_lay (mi 0 rfl) rfl ?_
      refine ex_iconst ok_X12_lay (mi 1 rfl) ?_
      refine ex_putIa (a := 0) (v := (-1)) ok_X12_lay (mi 2 rfl) rfl rfl (fk f.1 0 rfl) (by decide) ?_
      refine ex_aload_n ok_X12_lay (mi 3 rfl) rfl ?_
      refine ex_getIx ok_X12_lay (mi 4 rfl) rfl rfl (kq apq (fk f.1 0 rfl)) (apI (a := 0) rfl) ?_
      refine ex_sipush ok_X12_lay (mi 5 rfl) ?_
      refine ex_icmp_ne (tgt := 27) ok_X12_lay (mi 6 rfl) rfl (fun _ => ?_) (fun hn => absurd hn (by decide))
      refine ex_iconst ok_X12_lay (mi 15 rfl) ?_
      refine ex_istore ok_X12_lay (mi 16 rfl) ?_
      refine ex_aload_n ok_X12_lay (mi 17 rfl) rfl ?_
      refine ex_getRx ok_X12_lay (mi 18 rfl) rfl rfl (kq apq (fk f.1 0 rfl)) (rq apq (fr f.1 48 rfl)) (kq apq (fk f.1 49 rfl)) (by decide) ?_
      refine ex_iload ok_X12_lay (mi 19 rfl) rfl ?_
      refine ex_baldx ok_X12_lay (mi 20 rfl) (kq apq (fk f.1 49 rfl)) (nq apq (fn f.1 49 rfl)) (pk_in 0 402 (by decide)) (apA (j := 0) rfl) ?_
      refine ex_if_eq (tgt := 46) ok_X12_lay (mi 21 rfl) rfl (fun hn => absurd hn (by decide)) (fun _ => ?_)
      refine ex_iincx (w := (nI 1)) ok_X12_lay (mi 22 rfl) rfl (by decide) ?_
      refine ex_goto (tgt := 30) ok_X12_lay (mi 23 rfl) rfl ?_
      refine ex_ls (ls' := [(0, .ref x), (1, .int (nI 16)), (2, .int (nI 0)), (3, .int (nI 1)), (4, .int (nI 0)), (5, .int p1), (6, .int (nI 0)), (7, .int (nI 1))]) ⟨rfl, rfl, rfl, rfl, rfl, rfl, rfl, rfl, trivial⟩ ?_
      refine ex_aload_n ok_X12_lay (mi 17 rfl) rfl ?_
      refine ex_getRx ok_X12_lay (mi 18 rfl) rfl rfl (kq apq (fk f.1 0 rfl)) (rq apq (fr f.1 48 rfl)) (kq apq (fk f.1 49 rfl)) (by decide) ?_
      refine ex_iload ok_X12_lay (mi 19 rfl) rfl ?_
      refine ex_baldx ok_X12_lay (mi 20 rfl) (kq apq (fk f.1 49 rfl)) (nq apq (fn f.1 49 rfl)) (pk_in 1 402 (by decide)) (apA0 (j := 1) rfl (fg (j := 1) f.2.2.2 3 rfl (by decide) (by decide))) ?_
      refine ex_if_eq (tgt := 46) ok_X12_lay (mi 21 rfl) rfl (fun _ => ?_) (fun hn => absurd (by decide) hn)
      refine ex_aload_n ok_X12_lay (mi 24 rfl) rfl ?_
      refine ex_getRx ok_X12_lay (mi 25 rfl) rfl rfl (kq apq (fk f.1 0 rfl)) (rq apq (fr f.1 48 rfl)) (kq apq (fk f.1 49 rfl)) (by decide) ?_
      refine ex_iload ok_X12_lay (mi 26 rfl) rfl ?_
      refine ex_iconst ok_X12_lay (mi 27 rfl) ?_
      refine ex_basta (a := 49) (j := 1) (v := (nI 1)) ok_X12_lay (mi 28 rfl) (fk f.1 49 rfl) (fn f.1 49 rfl) (pk_in 1 402 (by decide)) (by decide) (by decide) (by decide) ?_
      refine ex_aload_n ok_X12_lay (mi 29 rfl) rfl ?_
      refine ex_getRx ok_X12_lay (mi 30 rfl) rfl rfl (kq apq (fk f.1 0 rfl)) (rq apq (fr f.1 47 rfl)) (kq apq (fk f.1 48 rfl)) (by decide) ?_
      refine ex_aload_n ok_X12_lay (mi 31 rfl) rfl ?_
      refine ex_getIx ok_X12_lay (mi 32 rfl) rfl rfl (kq apq (fk f.1 0 rfl)) (apI (a := 0) rfl) ?_
      refine ex_iload ok_X12_lay (mi 33 rfl) rfl ?_
      refine ex_iasta (a := 48) (j := 1) (v := (nI 1)) ok_X12_lay (mi 34 rfl) (fk f.1 48 rfl) (fn f.1 48 rfl) (pk_in 1 400 (by decide)) (by decide) (by decide) ?_
      refine ex_aload_n ok_X12_lay (mi 35 rfl) rfl ?_
      refine ex_dup ok_X12_lay (mi 36 rfl) rfl ?_
      refine ex_getIx ok_X12_lay (mi 37 rfl) rfl rfl (kq apq (fk f.1 0 rfl)) (apI (a := 0) rfl) ?_
      refine ex_iconst ok_X12_lay (mi 38 rfl) ?_
      refine ex_iadd ok_X12_lay (mi 39 rfl) ?_
      refine ex_top (w := (nI 2)) (by decide) ?_
      refine ex_putIa (a := 0) (v := (nI 2)) ok_X12_lay (mi 40 rfl) rfl rfl (fk f.1 0 rfl) (by decide) ?_
      refine ex_aload_n ok_X12_lay (mi 41 rfl) rfl ?_
      refine ex_getRx ok_X12_lay (mi 42 rfl) rfl rfl (kq apq (fk f.1 0 rfl)) (rq apq (fr f.1 49 rfl)) (kq apq (fk f.1 50 rfl)) (by decide) ?_
      refine ex_iload ok_X12_lay (mi 43 rfl) rfl ?_
      refine ex_iload_n ok_X12_lay (mi 44 rfl) rfl ?_
      refine ex_iasta (a := 50) (j := 1) (v := (nI 16)) ok_X12_lay (mi 45 rfl) (fk f.1 50 rfl) (fn f.1 50 rfl) (pk_in 1 402 (by decide)) (by decide) (by decide) ?_
      refine ex_aload_n ok_X12_lay (mi 46 rfl) rfl ?_
      refine ex_getRx ok_X12_lay (mi 47 rfl) rfl rfl (kq apq (fk f.1 0 rfl)) (rq apq (fr f.1 50 rfl)) (kq apq (fk f.1 51 rfl)) (by decide) ?_
      refine ex_iload ok_X12_lay (mi 48 rfl) rfl ?_
      refine ex_iload_n ok_X12_lay (mi 49 rfl) rfl ?_
      refine ex_iasta (a := 51) (j := 1) (v := (nI 0)) ok_X12_lay (mi 50 rfl) (fk f.1 51 rfl) (fn f.1 51 rfl) (pk_in 1 402 (by decide)) (by decide) (by decide) ?_
      refine ex_aload_n ok_X12_lay (mi 51 rfl) rfl ?_
      refine ex_getRx ok_X12_lay (mi 52 rfl) rfl rfl (kq apq (fk f.1 0 rfl)) (rq apq (fr f.1 51 rfl)) (kq apq (fk f.1 52 rfl)) (by decide) ?_
      refine ex_iload ok_X12_lay (mi 53 rfl) rfl ?_
      refine ex_iload_n ok_X12_lay (mi 54 rfl) rfl ?_
      refine ex_iasta (a := 52) (j := 1) (v := (nI 1)) ok_X12_lay (mi 55 rfl) (fk f.1 52 rfl) (fn f.1 52 rfl) (pk_in 1 402 (by decide)) (by decide) (by decide) ?_
      refine ex_aload_n ok_X12_lay (mi 56 rfl) rfl ?_
      refine ex_getRx ok_X12_lay (mi 57 rfl) rfl rfl (kq apq (fk f.1 0 rfl)) (rq apq (fr f.1 52 rfl)) (kq apq (fk f.1 53 rfl)) (by decide) ?_
      refine ex_iconst ok_X12_lay (mi 58 rfl) ?_
      refine ex_iload ok_X12_lay (mi 59 rfl) rfl ?_
      refine ex_imul ok_X12_lay (mi 60 rfl) ?_
      refine ex_top (w := (nI 3)) (by decide) ?_
      refine ex_iload ok_X12_lay (mi 61 rfl) rfl ?_
      refine ex_iasta (a := 53) (j := 3) (v := (nI 0)) ok_X12_lay (mi 62 rfl) (fk f.1 53 rfl) (fn f.1 53 rfl) (pk_in 3 1206 (by decide)) (by decide) (by decide) ?_
      refine ex_aload_n ok_X12_lay (mi 63 rfl) rfl ?_
      refine ex_getRx ok_X12_lay (mi 64 rfl) rfl rfl (kq apq (fk f.1 0 rfl)) (rq apq (fr f.1 52 rfl)) (kq apq (fk f.1 53 rfl)) (by decide) ?_
      refine ex_iconst ok_X12_lay (mi 65 rfl) ?_
      refine ex_iload ok_X12_lay (mi 66 rfl) rfl ?_
      refine ex_imul ok_X12_lay (mi 67 rfl) ?_
      refine ex_top (w := (nI 3)) (by decide) ?_
      refine ex_iconst ok_X12_lay (mi 68 rfl) ?_
      refine ex_iadd ok_X12_lay (mi 69 rfl) ?_
      refine ex_top (w := (nI 4)) (by decide) ?_
      refine ex_iload ok_X12_lay (mi 70 rfl) rfl ?_
      refine ex_iasta (a := 53) (j := 4) (v := p1) ok_X12_lay (mi 71 rfl) (fk f.1 53 rfl) (fn f.1 53 rfl) (pk_in 4 1206 (by decide)) (by decide) rfl ?_
      refine ex_aload_n ok_X12_lay (mi 72 rfl) rfl ?_
      refine ex_getRx ok_X12_lay (mi 73 rfl) rfl rfl (kq apq (fk f.1 0 rfl)) (rq apq (fr f.1 52 rfl)) (kq apq (fk f.1 53 rfl)) (by decide) ?_
      refine ex_iconst ok_X12_lay (mi 74 rfl) ?_
      refine ex_iload ok_X12_lay (mi 75 rfl) rfl ?_
      refine ex_imul ok_X12_lay (mi 76 rfl) ?_
      refine ex_top (w := (nI 3)) (by decide) ?_
      refine ex_iconst ok_X12_lay (mi 77 rfl) ?_
      refine ex_iadd ok_X12_lay (mi 78 rfl) ?_
      refine ex_top (w := (nI 5)) (by decide) ?_
      refine ex_iload ok_X12_lay (mi 79 rfl) rfl ?_
      refine ex_iasta (a := 53) (j := 5) (v := (nI 0)) ok_X12_lay (mi 80 rfl) (fk f.1 53 rfl) (fn f.1 53 rfl) (pk_in 5 1206 (by decide)) (by decide) (by decide) ?_
      refine ex_aload_n ok_X12_lay (mi 81 rfl) rfl ?_
      refine ex_getRx ok_X12_lay (mi 82 rfl) rfl rfl (kq apq (fk f.1 0 rfl)) (rq apq (fr f.1 53 rfl)) (kq apq (fk f.1 54 rfl)) (by decide) ?_
      refine ex_iload ok_X12_lay (mi 83 rfl) rfl ?_
      refine ex_iconst ok_X12_lay (mi 84 rfl) ?_
      refine ex_iasta (a := 54) (j := 1) (v := (nI 0)) ok_X12_lay (mi 85 rfl) (fk f.1 54 rfl) (fn f.1 54 rfl) (pk_in 1 402 (by decide)) (by decide) (by decide) ?_
      refine ex_aload_n ok_X12_lay (mi 86 rfl) rfl ?_
      refine ex_getRx ok_X12_lay (mi 87 rfl) rfl rfl (kq apq (fk f.1 0 rfl)) (rq apq (fr f.1 54 rfl)) (kq apq (fk f.1 55 rfl)) (by decide) ?_
      refine ex_iconst ok_X12_lay (mi 88 rfl) ?_
      refine ex_iload ok_X12_lay (mi 89 rfl) rfl ?_
      refine ex_imul ok_X12_lay (mi 90 rfl) ?_
      refine ex_top (w := (nI 2)) (by decide) ?_
      refine ex_iconst ok_X12_lay (mi 91 rfl) ?_
      refine ex_iasta (a := 55) (j := 2) (v := (nI 0)) ok_X12_lay (mi 92 rfl) (fk f.1 55 rfl) (fn f.1 55 rfl) (pk_in 2 804 (by decide)) (by decide) (by decide) ?_
      refine ex_aload_n ok_X12_lay (mi 93 rfl) rfl ?_
      refine ex_getRx ok_X12_lay (mi 94 rfl) rfl rfl (kq apq (fk f.1 0 rfl)) (rq apq (fr f.1 54 rfl)) (kq apq (fk f.1 55 rfl)) (by decide) ?_
      refine ex_iconst ok_X12_lay (mi 95 rfl) ?_
      refine ex_iload ok_X12_lay (mi 96 rfl) rfl ?_
      refine ex_imul ok_X12_lay (mi 97 rfl) ?_
      refine ex_top (w := (nI 2)) (by decide) ?_
      refine ex_iconst ok_X12_lay (mi 98 rfl) ?_
      refine ex_iadd ok_X12_lay (mi 99 rfl) ?_
      refine ex_top (w := (nI 3)) (by decide) ?_
      refine ex_iconst ok_X12_lay (mi 100 rfl) ?_
      refine ex_iasta (a := 55) (j := 3) (v := (nI 0)) ok_X12_lay (mi 101 rfl) (fk f.1 55 rfl) (fn f.1 55 rfl) (pk_in 3 804 (by decide)) (by decide) (by decide) ?_
      refine ex_aload_n ok_X12_lay (mi 102 rfl) rfl ?_
      refine ex_iload ok_X12_lay (mi 103 rfl) rfl ?_
      refine ex_putIa (a := 0) (v := (nI 1)) ok_X12_lay (mi 104 rfl) rfl rfl (fk f.1 0 rfl) (by decide) ?_
      refine ex_iconst ok_X12_lay (mi 105 rfl) ?_
      refine ex_zret ok_X12_lay (mi 106 rfl) rfl (by decide) ?_
      exact ⟨inlI (by decide), rfl⟩
    refine ex_istore ok_X12_layAll (mi 19 rfl) ?_
    refine ex_iincx (w := (nI 2)) ok_X12_layAll (mi 20 rfl) rfl (by decide) ?_
    refine ex_iincx (w := (nI 2)) ok_X12_layAll (mi 21 rfl) rfl (by decide) ?_
    refine ex_goto (tgt := 6) ok_X12_layAll (mi 22 rfl) rfl ?_
    refine ex_ls (ls' := [(0, .ref x), (1, .int (nI 16)), (2, .int (nI 0)), (3, .int (nI 7)), (4, .int (nI 0)), (5, .int p1), (6, .int (nI 0)), (7, .int (nI 2)), (8, .int (nI 2)), (9, .int (nI 1))]) ⟨rfl, rfl, rfl, rfl, rfl, rfl, rfl, rfl, rfl, rfl, trivial⟩ ?_
    refine ex_iload ok_X12_layAll (mi 4 rfl) rfl ?_
    refine ex_bipush ok_X12_layAll (mi 5 rfl) ?_
    refine ex_icmp_ge (tgt := 47) ok_X12_layAll (mi 6 rfl) rfl (fun hn => absurd hn (by decide)) (fun _ => ?_)
    refine ex_iload_n ok_X12_layAll (mi 7 rfl) rfl ?_
    refine ex_iload ok_X12_layAll (mi 8 rfl) rfl ?_
    refine ex_callSr (As := [_, _]) (v := some (.int (nI 1))) (g1 := (ap x [(0, 0, 1258, 0, (nI 1)), (1, 55, 3, 0, (nI 0)), (1, 55, 2, 0, (nI 0)), (1, 54, 1, 0, (nI 0)), (1, 53, 5, 0, (nI 0)), (1, 53, 4, 0, p1), (1, 53, 3, 0, (nI 0)), (1, 52, 1, 0, (nI 1)), (1, 51, 1, 0, (nI 0)), (1, 50, 1, 0, (nI 16)), (0, 0, 1248, 0, (nI 2)), (1, 48, 1, 0, (nI 1)), (1, 49, 1, 0, (nI 1)), (0, 0, 1258, 0, (-1)), (0, 0, 1258, 0, (nI 0)), (1, 55, 1, 0, (nI 0)), (1, 55, 0, 0, (nI 0)), (1, 54, 0, 0, (nI 0)), (1, 53, 2, 0, (nI 0)), (1, 53, 1, 0, p1), (1, 53, 0, 0, (nI 0)), (1, 52, 0, 0, (nI 0)), (1, 51, 0, 0, (nI 0)), (1, 50, 0, 0, (nI 16)), (0, 0, 1248, 0, (nI 1)), (1, 48, 0, 0, (nI 0)), (1, 49, 0, 0, (nI 1)), (0, 0, 1258, 0, (-1)), (1, 27, 0, 0, p2), (1, 28, 0, 0, p1), (1, 26, 0, 0, (nI 1)), (2, 31, 0, 300, (nI 0)), (1, 33, 0, 0, (nI 0)), (1, 32, 0, 0, (-1)), (1, 30, 0, 0, (nI 0)), (1, 29, 0, 0, (nI 0)), (0, 0, 1200, 0, (nI 0))] h)) ok_X12_layAll (mi 9 rfl) rfl ?c rfl rfl rfl (by decide) (Nat.le_of_ble_eq_true rfl) (by decide) ?_
    case c =>
      refine ex_M_of ok_X12_has cw_X12_has rfl hst (Nat.le_of_ble_eq_true rfl) ?_
      refine ex_iload_n ok_X12_has (mi 0 rfl) rfl ?_
      refine ex_iload_n ok_X12_has (mi 1 rfl) rfl ?_
      refine ex_ishr ok_X12_has (mi 2 rfl) ?_
      refine ex_top (w := (nI 1)) (by decide) ?_
      refine ex_iconst ok_X12_has (mi 3 rfl) ?_
      refine ex_iand ok_X12_has (mi 4 rfl) ?_
      refine ex_top (w := (nI 1)) (by decide) ?_
      refine ex_iconst ok_X12_has (mi 5 rfl) ?_
      refine ex_icmp_ne (tgt := 13) ok_X12_has (mi 6 rfl) rfl (fun hn => absurd (by decide) hn) (fun _ => ?_)
      refine ex_iconst ok_X12_has (mi 7 rfl) ?_
      refine ex_goto (tgt := 14) ok_X12_has (mi 8 rfl) rfl ?_
      refine ex_zret ok_X12_has (mi 10 rfl) rfl (by decide) ?_
      exact ⟨inlI (by decide), rfl⟩
    refine ex_if_eq (tgt := 41) ok_X12_layAll (mi 10 rfl) rfl (fun hn => absurd hn (by decide)) (fun _ => ?_)
    refine ex_aload_n ok_X12_layAll (mi 11 rfl) rfl ?_
    refine ex_iload_n ok_X12_layAll (mi 12 rfl) rfl ?_
    refine ex_iload_n ok_X12_layAll (mi 13 rfl) rfl ?_
    refine ex_iload ok_X12_layAll (mi 14 rfl) rfl ?_
    refine ex_iload ok_X12_layAll (mi 15 rfl) rfl ?_
    refine ex_iload ok_X12_layAll (mi 16 rfl) rfl ?_
    refine ex_iload ok_X12_layAll (mi 17 rfl) rfl ?_
    refine ex_callVr (As := [_, _, _, _, _, _]) (v := some (.int (nI 1))) (g1 := (ap x [(0, 0, 1258, 0, (nI 2)), (1, 55, 5, 0, (nI 0)), (1, 55, 4, 0, (nI 0)), (1, 54, 2, 0, (nI 0)), (1, 53, 8, 0, (nI 0)), (1, 53, 7, 0, p1), (1, 53, 6, 0, (nI 0)), (1, 52, 2, 0, (nI 2)), (1, 51, 2, 0, (nI 0)), (1, 50, 2, 0, (nI 16)), (0, 0, 1248, 0, (nI 3)), (1, 48, 2, 0, (nI 2)), (1, 49, 2, 0, (nI 1)), (0, 0, 1258, 0, (-1)), (0, 0, 1258, 0, (nI 1)), (1, 55, 3, 0, (nI 0)), (1, 55, 2, 0, (nI 0)), (1, 54, 1, 0, (nI 0)), (1, 53, 5, 0, (nI 0)), (1, 53, 4, 0, p1), (1, 53, 3, 0, (nI 0)), (1, 52, 1, 0, (nI 1)), (1, 51, 1, 0, (nI 0)), (1, 50, 1, 0, (nI 16)), (0, 0, 1248, 0, (nI 2)), (1, 48, 1, 0, (nI 1)), (1, 49, 1, 0, (nI 1)), (0, 0, 1258, 0, (-1)), (0, 0, 1258, 0, (nI 0)), (1, 55, 1, 0, (nI 0)), (1, 55, 0, 0, (nI 0)), (1, 54, 0, 0, (nI 0)), (1, 53, 2, 0, (nI 0)), (1, 53, 1, 0, p1), (1, 53, 0, 0, (nI 0)), (1, 52, 0, 0, (nI 0)), (1, 51, 0, 0, (nI 0)), (1, 50, 0, 0, (nI 16)), (0, 0, 1248, 0, (nI 1)), (1, 48, 0, 0, (nI 0)), (1, 49, 0, 0, (nI 1)), (0, 0, 1258, 0, (-1)), (1, 27, 0, 0, p2), (1, 28, 0, 0, p1), (1, 26, 0, 0, (nI 1)), (2, 31, 0, 300, (nI 0)), (1, 33, 0, 0, (nI 0)), (1, 32, 0, 0, (-1)), (1, 30, 0, 0, (nI 0)), (1, 29, 0, 0, (nI 0)), (0, 0, 1200, 0, (nI 0))] h)) ok_X12_layAll (mi 18 rfl) rfl ?c rfl (kq apq (fk f.1 0 rfl)) rfl rfl (by decide) (by decide) (Nat.le_of_ble_eq_true rfl) (by decide) ?_
    case c =>
      refine ex_M_of ok_X12_lay cw_X12_lay rfl hst (Nat.le_of_ble_eq_true rfl) ?_
      refine ex_aload_n ok_X12_lay (mi 0 rfl) rfl ?_
      refine ex_iconst ok_X12_lay (mi 1 rfl) ?_
      refine ex_putIa (a := 0) (v := (-1)) ok_X12_lay (mi 2 rfl) rfl rfl (fk f.1 0 rfl) (by decide) ?_
      refine ex_aload_n ok_X12_lay (mi 3 rfl) rfl ?_
      refine ex_getIx ok_X12_lay (mi 4 rfl) rfl rfl (kq apq (fk f.1 0 rfl)) (apI (a := 0) rfl) ?_
      refine ex_sipush ok_X12_lay (mi 5 rfl) ?_
      refine ex_icmp_ne (tgt := 27) ok_X12_lay (mi 6 rfl) rfl (fun _ => ?_) (fun hn => absurd hn (by decide))
      refine ex_iconst ok_X12_lay (mi 15 rfl) ?_
      refine ex_istore ok_X12_lay (mi 16 rfl) ?_
      refine ex_aload_n ok_X12_lay (mi 17 rfl) rfl ?_
      refine ex_getRx ok_X12_lay (mi 18 rfl) rfl rfl (kq apq (fk f.1 0 rfl)) (rq apq (fr f.1 48 rfl)) (kq apq (fk f.1 49 rfl)) (by decide) ?_
      refine ex_iload ok_X12_lay (mi 19 rfl) rfl ?_
      refine ex_baldx ok_X12_lay (mi 20 rfl) (kq apq (fk f.1 49 rfl)) (nq apq (fn f.1 49 rfl)) (pk_in 0 402 (by decide)) (apA (j := 0) rfl) ?_
      refine ex_if_eq (tgt := 46) ok_X12_lay (mi 21 rfl) rfl (fun hn => absurd hn (by decide)) (fun _ => ?_)
      refine ex_iincx (w := (nI 1)) ok_X12_lay (mi 22 rfl) rfl (by decide) ?_
      refine ex_goto (tgt := 30) ok_X12_lay (mi 23 rfl) rfl ?_
      refine ex_ls (ls' := [(0, .ref x), (1, .int (nI 16)), (2, .int (nI 0)), (3, .int (nI 2)), (4, .int (nI 0)), (5, .int p1), (6, .int (nI 0)), (7, .int (nI 1))]) ⟨rfl, rfl, rfl, rfl, rfl, rfl, rfl, rfl, trivial⟩ ?_
      refine ex_aload_n ok_X12_lay (mi 17 rfl) rfl ?_
      refine ex_getRx ok_X12_lay (mi 18 rfl) rfl rfl (kq apq (fk f.1 0 rfl)) (rq apq (fr f.1 48 rfl)) (kq apq (fk f.1 49 rfl)) (by decide) ?_
      refine ex_iload ok_X12_lay (mi 19 rfl) rfl ?_
      refine ex_baldx ok_X12_lay (mi 20 rfl) (kq apq (fk f.1 49 rfl)) (nq apq (fn f.1 49 rfl)) (pk_in 1 402 (by decide)) (apA (j := 1) rfl) ?_
      refine ex_if_eq (tgt := 46) ok_X12_lay (mi 21 rfl) rfl (fun hn => absurd hn (by decide)) (fun _ => ?_)
      refine ex_iincx (w := (nI 2)) ok_X12_lay (mi 22 rfl) rfl (by decide) ?_
      refine ex_goto (tgt := 30) ok_X12_lay (mi 23 rfl) rfl ?_
      refine ex_ls (ls' := [(0, .ref x), (1, .int (nI 16)), (2, .int (nI 0)), (3, .int (nI 2)), (4, .int (nI 0)), (5, .int p1), (6, .int (nI 0)), (7, .int (nI 2))]) ⟨rfl, rfl, rfl, rfl, rfl, rfl, rfl, rfl, trivial⟩ ?_
      refine ex_aload_n ok_X12_lay (mi 17 rfl) rfl ?_
      refine ex_getRx ok_X12_lay (mi 18 rfl) rfl rfl (kq apq (fk f.1 0 rfl)) (rq apq (fr f.1 48 rfl)) (kq apq (fk f.1 49 rfl)) (by decide) ?_
      refine ex_iload ok_X12_lay (mi 19 rfl) rfl ?_
      refine ex_baldx ok_X12_lay (mi 20 rfl) (kq apq (fk f.1 49 rfl)) (nq apq (fn f.1 49 rfl)) (pk_in 2 402 (by decide)) (apA0 (j := 2) rfl (fg (j := 2) f.2.2.2 3 rfl (by decide) (by decide))) ?_
      refine ex_if_eq (tgt := 46) ok_X12_lay (mi 21 rfl) rfl (fun _ => ?_) (fun hn => absurd (by decide) hn)
      refine ex_aload_n ok_X12_lay (mi 24 rfl) rfl ?_
      refine ex_getRx ok_X12_lay (mi 25 rfl) rfl rfl (kq apq (fk f.1 0 rfl)) (rq apq (fr f.1 48 rfl)) (kq apq (fk f.1 49 rfl)) (by decide) ?_
      refine ex_iload ok_X12_lay (mi 26 rfl) rfl ?_
      refine ex_iconst ok_X12_lay (mi 27 rfl) ?_
      refine ex_basta (a := 49) (j := 2) (v := (nI 1)) ok_X12_lay (mi 28 rfl) (fk f.1 49 rfl) (fn f.1 49 rfl) (pk_in 2 402 (by decide)) (by decide) (by decide) (by decide) ?_
      refine ex_aload_n ok_X12_lay (mi 29 rfl) rfl ?_
      refine ex_getRx ok_X12_lay (mi 30 rfl) rfl rfl (kq apq (fk f.1 0 rfl)) (rq apq (fr f.1 47 rfl)) (kq apq (fk f.1 48 rfl)) (by decide) ?_
      refine ex_aload_n ok_X12_lay (mi 31 rfl) rfl ?_
      refine ex_getIx ok_X12_lay (mi 32 rfl) rfl rfl (kq apq (fk f.1 0 rfl)) (apI (a := 0) rfl) ?_
      refine ex_iload ok_X12_lay (mi 33 rfl) rfl ?_
      refine ex_iasta (a := 48) (j := 2) (v := (nI 2)) ok_X12_lay (mi 34 rfl) (fk f.1 48 rfl) (fn f.1 48 rfl) (pk_in 2 400 (by decide)) (by decide) (by decide) ?_
      refine ex_aload_n ok_X12_lay (mi 35 rfl) rfl ?_
      refine ex_dup ok_X12_lay (mi 36 rfl) rfl ?_
      refine ex_getIx ok_X12_lay (mi 37 rfl) rfl rfl (kq apq (fk f.1 0 rfl)) (apI (a := 0) rfl) ?_
      refine ex_iconst ok_X12_lay (mi 38 rfl) ?_
      refine ex_iadd ok_X12_lay (mi 39 rfl) ?_
      refine ex_top (w := (nI 3)) (by decide) ?_
      refine ex_putIa (a := 0) (v := (nI 3)) ok_X12_lay (mi 40 rfl) rfl rfl (fk f.1 0 rfl) (by decide) ?_
      refine ex_aload_n ok_X12_lay (mi 41 rfl) rfl ?_
      refine ex_getRx ok_X12_lay (mi 42 rfl) rfl rfl (kq apq (fk f.1 0 rfl)) (rq apq (fr f.1 49 rfl)) (kq apq (fk f.1 50 rfl)) (by decide) ?_
      refine ex_iload ok_X12_lay (mi 43 rfl) rfl ?_
      refine ex_iload_n ok_X12_lay (mi 44 rfl) rfl ?_
      refine ex_iasta (a := 50) (j := 2) (v := (nI 16)) ok_X12_lay (mi 45 rfl) (fk f.1 50 rfl) (fn f.1 50 rfl) (pk_in 2 402 (by decide)) (by decide) (by decide) ?_
      refine ex_aload_n ok_X12_lay (mi 46 rfl) rfl ?_
      refine ex_getRx ok_X12_lay (mi 47 rfl) rfl rfl (kq apq (fk f.1 0 rfl)) (rq apq (fr f.1 50 rfl)) (kq apq (fk f.1 51 rfl)) (by decide) ?_
      refine ex_iload ok_X12_lay (mi 48 rfl) rfl ?_
      refine ex_iload_n ok_X12_lay (mi 49 rfl) rfl ?_
      refine ex_iasta (a := 51) (j := 2) (v := (nI 0)) ok_X12_lay (mi 50 rfl) (fk f.1 51 rfl) (fn f.1 51 rfl) (pk_in 2 402 (by decide)) (by decide) (by decide) ?_
      refine ex_aload_n ok_X12_lay (mi 51 rfl) rfl ?_
      refine ex_getRx ok_X12_lay (mi 52 rfl) rfl rfl (kq apq (fk f.1 0 rfl)) (rq apq (fr f.1 51 rfl)) (kq apq (fk f.1 52 rfl)) (by decide) ?_
      refine ex_iload ok_X12_lay (mi 53 rfl) rfl ?_
      refine ex_iload_n ok_X12_lay (mi 54 rfl) rfl ?_
      refine ex_iasta (a := 52) (j := 2) (v := (nI 2)) ok_X12_lay (mi 55 rfl) (fk f.1 52 rfl) (fn f.1 52 rfl) (pk_in 2 402 (by decide)) (by decide) (by decide) ?_
      refine ex_aload_n ok_X12_lay (mi 56 rfl) rfl ?_
      refine ex_getRx ok_X12_lay (mi 57 rfl) rfl rfl (kq apq (fk f.1 0 rfl)) (rq apq (fr f.1 52 rfl)) (kq apq (fk f.1 53 rfl)) (by decide) ?_
      refine ex_iconst ok_X12_lay (mi 58 rfl) ?_
      refine ex_iload ok_X12_lay (mi 59 rfl) rfl ?_
      refine ex_imul ok_X12_lay (mi 60 rfl) ?_
      refine ex_top (w := (nI 6)) (by decide) ?_
      refine ex_iload ok_X12_lay (mi 61 rfl) rfl ?_
      refine ex_iasta (a := 53) (j := 6) (v := (nI 0)) ok_X12_lay (mi 62 rfl) (fk f.1 53 rfl) (fn f.1 53 rfl) (pk_in 6 1206 (by decide)) (by decide) (by decide) ?_
      refine ex_aload_n ok_X12_lay (mi 63 rfl) rfl ?_
      refine ex_getRx ok_X12_lay (mi 64 rfl) rfl rfl (kq apq (fk f.1 0 rfl)) (rq apq (fr f.1 52 rfl)) (kq apq (fk f.1 53 rfl)) (by decide) ?_
      refine ex_iconst ok_X12_lay (mi 65 rfl) ?_
      refine ex_iload ok_X12_lay (mi 66 rfl) rfl ?_
      refine ex_imul ok_X12_lay (mi 67 rfl) ?_
      refine ex_top (w := (nI 6)) (by decide) ?_
      refine ex_iconst ok_X12_lay (mi 68 rfl) ?_
      refine ex_iadd ok_X12_lay (mi 69 rfl) ?_
      refine ex_top (w := (nI 7)) (by decide) ?_
      refine ex_iload ok_X12_lay (mi 70 rfl) rfl ?_
      refine ex_iasta (a := 53) (j := 7) (v := p1) ok_X12_lay (mi 71 rfl) (fk f.1 53 rfl) (fn f.1 53 rfl) (pk_in 7 1206 (by decide)) (by decide) rfl ?_
      refine ex_aload_n ok_X12_lay (mi 72 rfl) rfl ?_
      refine ex_getRx ok_X12_lay (mi 73 rfl) rfl rfl (kq apq (fk f.1 0 rfl)) (rq apq (fr f.1 52 rfl)) (kq apq (fk f.1 53 rfl)) (by decide) ?_
      refine ex_iconst ok_X12_lay (mi 74 rfl) ?_
      refine ex_iload ok_X12_lay (mi 75 rfl) rfl ?_
      refine ex_imul ok_X12_lay (mi 76 rfl) ?_
      refine ex_top (w := (nI 6)) (by decide) ?_
      refine ex_iconst ok_X12_lay (mi 77 rfl) ?_
      refine ex_iadd ok_X12_lay (mi 78 rfl) ?_
      refine ex_top (w := (nI 8)) (by decide) ?_
      refine ex_iload ok_X12_lay (mi 79 rfl) rfl ?_
      refine ex_iasta (a := 53) (j := 8) (v := (nI 0)) ok_X12_lay (mi 80 rfl) (fk f.1 53 rfl) (fn f.1 53 rfl) (pk_in 8 1206 (by decide)) (by decide) (by decide) ?_
      refine ex_aload_n ok_X12_lay (mi 81 rfl) rfl ?_
      refine ex_getRx ok_X12_lay (mi 82 rfl) rfl rfl (kq apq (fk f.1 0 rfl)) (rq apq (fr f.1 53 rfl)) (kq apq (fk f.1 54 rfl)) (by decide) ?_
      refine ex_iload ok_X12_lay (mi 83 rfl) rfl ?_
      refine ex_iconst ok_X12_lay (mi 84 rfl) ?_
      refine ex_iasta (a := 54) (j := 2) (v := (nI 0)) ok_X12_lay (mi 85 rfl) (fk f.1 54 rfl) (fn f.1 54 rfl) (pk_in 2 402 (by decide)) (by decide) (by decide) ?_
      refine ex_aload_n ok_X12_lay (mi 86 rfl) rfl ?_
      refine ex_getRx ok_X12_lay (mi 87 rfl) rfl rfl (kq apq (fk f.1 0 rfl)) (rq apq (fr f.1 54 rfl)) (kq apq (fk f.1 55 rfl)) (by decide) ?_
      refine ex_iconst ok_X12_lay (mi 88 rfl) ?_
      refine ex_iload ok_X12_lay (mi 89 rfl) rfl ?_
      refine ex_imul ok_X12_lay (mi 90 rfl) ?_
      refine ex_top (w := (nI 4)) (by decide) ?_
      refine ex_iconst ok_X12_lay (mi 91 rfl) ?_
      refine ex_iasta (a := 55) (j := 4) (v := (nI 0)) ok_X12_lay (mi 92 rfl) (fk f.1 55 rfl) (fn f.1 55 rfl) (pk_in 4 804 (by decide)) (by decide) (by decide) ?_
      refine ex_aload_n ok_X12_lay (mi 93 rfl) rfl ?_
      refine ex_getRx ok_X12_lay (mi 94 rfl) rfl rfl (kq apq (fk f.1 0 rfl)) (rq apq (fr f.1 54 rfl)) (kq apq (fk f.1 55 rfl)) (by decide) ?_
      refine ex_iconst ok_X12_lay (mi 95 rfl) ?_
      refine ex_iload ok_X12_lay (mi 96 rfl) rfl ?_
      refine ex_imul ok_X12_lay (mi 97 rfl) ?_
      refine ex_top (w := (nI 4)) (by decide) ?_
      refine ex_iconst ok_X12_lay (mi 98 rfl) ?_
      refine ex_iadd ok_X12_lay (mi 99 rfl) ?_
      refine ex_top (w := (nI 5)) (by decide) ?_
      refine ex_iconst ok_X12_lay (mi 100 rfl) ?_
      refine ex_iasta (a := 55) (j := 5) (v := (nI 0)) ok_X12_lay (mi 101 rfl) (fk f.1 55 rfl) (fn f.1 55 rfl) (pk_in 5 804 (by decide)) (by decide) (by decide) ?_
      refine ex_aload_n ok_X12_lay (mi 102 rfl) rfl ?_
      refine ex_iload ok_X12_lay (mi 103 rfl) rfl ?_
      refine ex_putIa (a := 0) (v := (nI 2)) ok_X12_lay (mi 104 rfl) rfl rfl (fk f.1 0 rfl) (by decide) ?_
      refine ex_iconst ok_X12_lay (mi 105 rfl) ?_
      refine ex_zret ok_X12_lay (mi 106 rfl) rfl (by decide) ?_
      exact ⟨inlI (by decide), rfl⟩
    refine ex_istore ok_X12_layAll (mi 19 rfl) ?_
    refine ex_iincx (w := (nI 3)) ok_X12_layAll (mi 20 rfl) rfl (by decide) ?_
    refine ex_iincx (w := (nI 3)) ok_X12_layAll (mi 21 rfl) rfl (by decide) ?_
    refine ex_goto (tgt := 6) ok_X12_layAll (mi 22 rfl) rfl ?_
    refine ex_ls (ls' := [(0, .ref x), (1, .int (nI 16)), (2, .int (nI 0)), (3, .int (nI 7)), (4, .int (nI 0)), (5, .int p1), (6, .int (nI 0)), (7, .int (nI 3)), (8, .int (nI 3)), (9, .int (nI 1))]) ⟨rfl, rfl, rfl, rfl, rfl, rfl, rfl, rfl, rfl, rfl, trivial⟩ ?_
    refine ex_iload ok_X12_layAll (mi 4 rfl) rfl ?_
    refine ex_bipush ok_X12_layAll (mi 5 rfl) ?_
    refine ex_icmp_ge (tgt := 47) ok_X12_layAll (mi 6 rfl) rfl (fun hn => absurd hn (by decide)) (fun _ => ?_)
    refine ex_iload_n ok_X12_layAll (mi 7 rfl) rfl ?_
    refine ex_iload ok_X12_layAll (mi 8 rfl) rfl ?_
    refine ex_callSr (As := [_, _]) (v := some (.int (nI 0))) (g1 := (ap x [(0, 0, 1258, 0, (nI 2)), (1, 55, 5, 0, (nI 0)), (1, 55, 4, 0, (nI 0)), (1, 54, 2, 0, (nI 0)), (1, 53, 8, 0, (nI 0)), (1, 53, 7, 0, p1), (1, 53, 6, 0, (nI 0)), (1, 52, 2, 0, (nI 2)), (1, 51, 2, 0, (nI 0)), (1, 50, 2, 0, (nI 16)), (0, 0, 1248, 0, (nI 3)), (1, 48, 2, 0, (nI 2)), (1, 49, 2, 0, (nI 1)), (0, 0, 1258, 0, (-1)), (0, 0, 1258, 0, (nI 1)), (1, 55, 3, 0, (nI 0)), (1, 55, 2, 0, (nI 0)), (1, 54, 1, 0, (nI 0)), (1, 53, 5, 0, (nI 0)), (1, 53, 4, 0, p1), (1, 53, 3, 0, (nI 0)), (1, 52, 1, 0, (nI 1)), (1, 51, 1, 0, (nI 0)), (1, 50, 1, 0, (nI 16)), (0, 0, 1248, 0, (nI 2)), (1, 48, 1, 0, (nI 1)), (1, 49, 1, 0, (nI 1)), (0, 0, 1258, 0, (-1)), (0, 0, 1258, 0, (nI 0)), (1, 55, 1, 0, (nI 0)), (1, 55, 0, 0, (nI 0)), (1, 54, 0, 0, (nI 0)), (1, 53, 2, 0, (nI 0)), (1, 53, 1, 0, p1), (1, 53, 0, 0, (nI 0)), (1, 52, 0, 0, (nI 0)), (1, 51, 0, 0, (nI 0)), (1, 50, 0, 0, (nI 16)), (0, 0, 1248, 0, (nI 1)), (1, 48, 0, 0, (nI 0)), (1, 49, 0, 0, (nI 1)), (0, 0, 1258, 0, (-1)), (1, 27, 0, 0, p2), (1, 28, 0, 0, p1), (1, 26, 0, 0, (nI 1)), (2, 31, 0, 300, (nI 0)), (1, 33, 0, 0, (nI 0)), (1, 32, 0, 0, (-1)), (1, 30, 0, 0, (nI 0)), (1, 29, 0, 0, (nI 0)), (0, 0, 1200, 0, (nI 0))] h)) ok_X12_layAll (mi 9 rfl) rfl ?c rfl rfl rfl (by decide) (Nat.le_of_ble_eq_true rfl) (by decide) ?_
    case c =>
      refine ex_M_of ok_X12_has cw_X12_has rfl hst (Nat.le_of_ble_eq_true rfl) ?_
      refine ex_iload_n ok_X12_has (mi 0 rfl) rfl ?_
      refine ex_iload_n ok_X12_has (mi 1 rfl) rfl ?_
      refine ex_ishr ok_X12_has (mi 2 rfl) ?_
      refine ex_top (w := (nI 0)) (by decide) ?_
      refine ex_iconst ok_X12_has (mi 3 rfl) ?_
      refine ex_iand ok_X12_has (mi 4 rfl) ?_
      refine ex_top (w := (nI 0)) (by decide) ?_
      refine ex_iconst ok_X12_has (mi 5 rfl) ?_
      refine ex_icmp_ne (tgt := 13) ok_X12_has (mi 6 rfl) rfl (fun _ => ?_) (fun hn => absurd hn (by decide))
      refine ex_iconst ok_X12_has (mi 9 rfl) ?_
      refine ex_zret ok_X12_has (mi 10 rfl) rfl (by decide) ?_
      exact ⟨inlI (by decide), rfl⟩
    refine ex_if_eq (tgt := 41) ok_X12_layAll (mi 10 rfl) rfl (fun _ => ?_) (fun hn => absurd (by decide) hn)
    refine ex_iincx (w := (nI 4)) ok_X12_layAll (mi 21 rfl) rfl (by decide) ?_
    refine ex_goto (tgt := 6) ok_X12_layAll (mi 22 rfl) rfl ?_
    refine ex_ls (ls' := [(0, .ref x), (1, .int (nI 16)), (2, .int (nI 0)), (3, .int (nI 7)), (4, .int (nI 0)), (5, .int p1), (6, .int (nI 0)), (7, .int (nI 3)), (8, .int (nI 4)), (9, .int (nI 1))]) ⟨rfl, rfl, rfl, rfl, rfl, rfl, rfl, rfl, rfl, rfl, trivial⟩ ?_
    refine ex_iload ok_X12_layAll (mi 4 rfl) rfl ?_
    refine ex_bipush ok_X12_layAll (mi 5 rfl) ?_
    refine ex_icmp_ge (tgt := 47) ok_X12_layAll (mi 6 rfl) rfl (fun hn => absurd hn (by decide)) (fun _ => ?_)
    refine ex_iload_n ok_X12_layAll (mi 7 rfl) rfl ?_
    refine ex_iload ok_X12_layAll (mi 8 rfl) rfl ?_
    refine ex_callSr (As := [_, _]) (v := some (.int (nI 0))) (g1 := (ap x [(0, 0, 1258, 0, (nI 2)), (1, 55, 5, 0, (nI 0)), (1, 55, 4, 0, (nI 0)), (1, 54, 2, 0, (nI 0)), (1, 53, 8, 0, (nI 0)), (1, 53, 7, 0, p1), (1, 53, 6, 0, (nI 0)), (1, 52, 2, 0, (nI 2)), (1, 51, 2, 0, (nI 0)), (1, 50, 2, 0, (nI 16)), (0, 0, 1248, 0, (nI 3)), (1, 48, 2, 0, (nI 2)), (1, 49, 2, 0, (nI 1)), (0, 0, 1258, 0, (-1)), (0, 0, 1258, 0, (nI 1)), (1, 55, 3, 0, (nI 0)), (1, 55, 2, 0, (nI 0)), (1, 54, 1, 0, (nI 0)), (1, 53, 5, 0, (nI 0)), (1, 53, 4, 0, p1), (1, 53, 3, 0, (nI 0)), (1, 52, 1, 0, (nI 1)), (1, 51, 1, 0, (nI 0)), (1, 50, 1, 0, (nI 16)), (0, 0, 1248, 0, (nI 2)), (1, 48, 1, 0, (nI 1)), (1, 49, 1, 0, (nI 1)), (0, 0, 1258, 0, (-1)), (0, 0, 1258, 0, (nI 0)), (1, 55, 1, 0, (nI 0)), (1, 55, 0, 0, (nI 0)), (1, 54, 0, 0, (nI 0)), (1, 53, 2, 0, (nI 0)), (1, 53, 1, 0, p1), (1, 53, 0, 0, (nI 0)), (1, 52, 0, 0, (nI 0)), (1, 51, 0, 0, (nI 0)), (1, 50, 0, 0, (nI 16)), (0, 0, 1248, 0, (nI 1)), (1, 48, 0, 0, (nI 0)), (1, 49, 0, 0, (nI 1)), (0, 0, 1258, 0, (-1)), (1, 27, 0, 0, p2), (1, 28, 0, 0, p1), (1, 26, 0, 0, (nI 1)), (2, 31, 0, 300, (nI 0)), (1, 33, 0, 0, (nI 0)), (1, 32, 0, 0, (-1)), (1, 30, 0, 0, (nI 0)), (1, 29, 0, 0, (nI 0)), (0, 0, 1200, 0, (nI 0))] h)) ok_X12_layAll (mi 9 rfl) rfl ?c rfl rfl rfl (by decide) (Nat.le_of_ble_eq_true rfl) (by decide) ?_
    case c =>
      refine ex_M_of ok_X12_has cw_X12_has rfl hst (Nat.le_of_ble_eq_true rfl) ?_
      refine ex_iload_n ok_X12_has (mi 0 rfl) rfl ?_
      refine ex_iload_n ok_X12_has (mi 1 rfl) rfl ?_
      refine ex_ishr ok_X12_has (mi 2 rfl) ?_
      refine ex_top (w := (nI 0)) (by decide) ?_
      refine ex_iconst ok_X12_has (mi 3 rfl) ?_
      refine ex_iand ok_X12_has (mi 4 rfl) ?_
      refine ex_top (w := (nI 0)) (by decide) ?_
      refine ex_iconst ok_X12_has (mi 5 rfl) ?_
      refine ex_icmp_ne (tgt := 13) ok_X12_has (mi 6 rfl) rfl (fun _ => ?_) (fun hn => absurd hn (by decide))
      refine ex_iconst ok_X12_has (mi 9 rfl) ?_
      refine ex_zret ok_X12_has (mi 10 rfl) rfl (by decide) ?_
      exact ⟨inlI (by decide), rfl⟩
    refine ex_if_eq (tgt := 41) ok_X12_layAll (mi 10 rfl) rfl (fun _ => ?_) (fun hn => absurd (by decide) hn)
    refine ex_iincx (w := (nI 5)) ok_X12_layAll (mi 21 rfl) rfl (by decide) ?_
    refine ex_goto (tgt := 6) ok_X12_layAll (mi 22 rfl) rfl ?_
    refine ex_ls (ls' := [(0, .ref x), (1, .int (nI 16)), (2, .int (nI 0)), (3, .int (nI 7)), (4, .int (nI 0)), (5, .int p1), (6, .int (nI 0)), (7, .int (nI 3)), (8, .int (nI 5)), (9, .int (nI 1))]) ⟨rfl, rfl, rfl, rfl, rfl, rfl, rfl, rfl, rfl, rfl, trivial⟩ ?_
    refine ex_iload ok_X12_layAll (mi 4 rfl) rfl ?_
    refine ex_bipush ok_X12_layAll (mi 5 rfl) ?_
    refine ex_icmp_ge (tgt := 47) ok_X12_layAll (mi 6 rfl) rfl (fun hn => absurd hn (by decide)) (fun _ => ?_)
    refine ex_iload_n ok_X12_layAll (mi 7 rfl) rfl ?_
    refine ex_iload ok_X12_layAll (mi 8 rfl) rfl ?_
    refine ex_callSr (As := [_, _]) (v := some (.int (nI 0))) (g1 := (ap x [(0, 0, 1258, 0, (nI 2)), (1, 55, 5, 0, (nI 0)), (1, 55, 4, 0, (nI 0)), (1, 54, 2, 0, (nI 0)), (1, 53, 8, 0, (nI 0)), (1, 53, 7, 0, p1), (1, 53, 6, 0, (nI 0)), (1, 52, 2, 0, (nI 2)), (1, 51, 2, 0, (nI 0)), (1, 50, 2, 0, (nI 16)), (0, 0, 1248, 0, (nI 3)), (1, 48, 2, 0, (nI 2)), (1, 49, 2, 0, (nI 1)), (0, 0, 1258, 0, (-1)), (0, 0, 1258, 0, (nI 1)), (1, 55, 3, 0, (nI 0)), (1, 55, 2, 0, (nI 0)), (1, 54, 1, 0, (nI 0)), (1, 53, 5, 0, (nI 0)), (1, 53, 4, 0, p1), (1, 53, 3, 0, (nI 0)), (1, 52, 1, 0, (nI 1)), (1, 51, 1, 0, (nI 0)), (1, 50, 1, 0, (nI 16)), (0, 0, 1248, 0, (nI 2)), (1, 48, 1, 0, (nI 1)), (1, 49, 1, 0, (nI 1)), (0, 0, 1258, 0, (-1)), (0, 0, 1258, 0, (nI 0)), (1, 55, 1, 0, (nI 0)), (1, 55, 0, 0, (nI 0)), (1, 54, 0, 0, (nI 0)), (1, 53, 2, 0, (nI 0)), (1, 53, 1, 0, p1), (1, 53, 0, 0, (nI 0)), (1, 52, 0, 0, (nI 0)), (1, 51, 0, 0, (nI 0)), (1, 50, 0, 0, (nI 16)), (0, 0, 1248, 0, (nI 1)), (1, 48, 0, 0, (nI 0)), (1, 49, 0, 0, (nI 1)), (0, 0, 1258, 0, (-1)), (1, 27, 0, 0, p2), (1, 28, 0, 0, p1), (1, 26, 0, 0, (nI 1)), (2, 31, 0, 300, (nI 0)), (1, 33, 0, 0, (nI 0)), (1, 32, 0, 0, (-1)), (1, 30, 0, 0, (nI 0)), (1, 29, 0, 0, (nI 0)), (0, 0, 1200, 0, (nI 0))] h)) ok_X12_layAll (mi 9 rfl) rfl ?c rfl rfl rfl (by decide) (Nat.le_of_ble_eq_true rfl) (by decide) ?_
    case c =>
      refine ex_M_of ok_X12_has cw_X12_has rfl hst (Nat.le_of_ble_eq_true rfl) ?_
      refine ex_iload_n ok_X12_has (mi 0 rfl) rfl ?_
      refine ex_iload_n ok_X12_has (mi 1 rfl) rfl ?_
      refine ex_ishr ok_X12_has (mi 2 rfl) ?_
      refine ex_top (w := (nI 0)) (by decide) ?_
      refine ex_iconst ok_X12_has (mi 3 rfl) ?_
      refine ex_iand ok_X12_has (mi 4 rfl) ?_
      refine ex_top (w := (nI 0)) (by decide) ?_
      refine ex_iconst ok_X12_has (mi 5 rfl) ?_
      refine ex_icmp_ne (tgt := 13) ok_X12_has (mi 6 rfl) rfl (fun _ => ?_) (fun hn => absurd hn (by decide))
      refine ex_iconst ok_X12_has (mi 9 rfl) ?_
      refine ex_zret ok_X12_has (mi 10 rfl) rfl (by decide) ?_
      exact ⟨inlI (by decide), rfl⟩
    refine ex_if_eq (tgt := 41) ok_X12_layAll (mi 10 rfl) rfl (fun _ => ?_) (fun hn => absurd (by decide) hn)
    refine ex_iincx (w := (nI 6)) ok_X12_layAll (mi 21 rfl) rfl (by decide) ?_
    refine ex_goto (tgt := 6) ok_X12_layAll (mi 22 rfl) rfl ?_
    refine ex_ls (ls' := [(0, .ref x), (1, .int (nI 16)), (2, .int (nI 0)), (3, .int (nI 7)), (4, .int (nI 0)), (5, .int p1), (6, .int (nI 0)), (7, .int (nI 3)), (8, .int (nI 6)), (9, .int (nI 1))]) ⟨rfl, rfl, rfl, rfl, rfl, rfl, rfl, rfl, rfl, rfl, trivial⟩ ?_
    refine ex_iload ok_X12_layAll (mi 4 rfl) rfl ?_
    refine ex_bipush ok_X12_layAll (mi 5 rfl) ?_
    refine ex_icmp_ge (tgt := 47) ok_X12_layAll (mi 6 rfl) rfl (fun hn => absurd hn (by decide)) (fun _ => ?_)
    refine ex_iload_n ok_X12_layAll (mi 7 rfl) rfl ?_
    refine ex_iload ok_X12_layAll (mi 8 rfl) rfl ?_
    refine ex_callSr (As := [_, _]) (v := some (.int (nI 0))) (g1 := (ap x [(0, 0, 1258, 0, (nI 2)), (1, 55, 5, 0, (nI 0)), (1, 55, 4, 0, (nI 0)), (1, 54, 2, 0, (nI 0)), (1, 53, 8, 0, (nI 0)), (1, 53, 7, 0, p1), (1, 53, 6, 0, (nI 0)), (1, 52, 2, 0, (nI 2)), (1, 51, 2, 0, (nI 0)), (1, 50, 2, 0, (nI 16)), (0, 0, 1248, 0, (nI 3)), (1, 48, 2, 0, (nI 2)), (1, 49, 2, 0, (nI 1)), (0, 0, 1258, 0, (-1)), (0, 0, 1258, 0, (nI 1)), (1, 55, 3, 0, (nI 0)), (1, 55, 2, 0, (nI 0)), (1, 54, 1, 0, (nI 0)), (1, 53, 5, 0, (nI 0)), (1, 53, 4, 0, p1), (1, 53, 3, 0, (nI 0)), (1, 52, 1, 0, (nI 1)), (1, 51, 1, 0, (nI 0)), (1, 50, 1, 0, (nI 16)), (0, 0, 1248, 0, (nI 2)), (1, 48, 1, 0, (nI 1)), (1, 49, 1, 0, (nI 1)), (0, 0, 1258, 0, (-1)), (0, 0, 1258, 0, (nI 0)), (1, 55, 1, 0, (nI 0)), (1, 55, 0, 0, (nI 0)), (1, 54, 0, 0, (nI 0)), (1, 53, 2, 0, (nI 0)), (1, 53, 1, 0, p1), (1, 53, 0, 0, (nI 0)), (1, 52, 0, 0, (nI 0)), (1, 51, 0, 0, (nI 0)), (1, 50, 0, 0, (nI 16)), (0, 0, 1248, 0, (nI 1)), (1, 48, 0, 0, (nI 0)), (1, 49, 0, 0, (nI 1)), (0, 0, 1258, 0, (-1)), (1, 27, 0, 0, p2), (1, 28, 0, 0, p1), (1, 26, 0, 0, (nI 1)), (2, 31, 0, 300, (nI 0)), (1, 33, 0, 0, (nI 0)), (1, 32, 0, 0, (-1)), (1, 30, 0, 0, (nI 0)), (1, 29, 0, 0, (nI 0)), (0, 0, 1200, 0, (nI 0))] h)) ok_X12_layAll (mi 9 rfl) rfl ?c rfl rfl rfl (by decide) (Nat.le_of_ble_eq_true rfl) (by decide) ?_
    case c =>
      refine ex_M_of ok_X12_has cw_X12_has rfl hst (Nat.le_of_ble_eq_true rfl) ?_
      refine ex_iload_n ok_X12_has (mi 0 rfl) rfl ?_
      refine ex_iload_n ok_X12_has (mi 1 rfl) rfl ?_
      refine ex_ishr ok_X12_has (mi 2 rfl) ?_
      refine ex_top (w := (nI 0)) (by decide) ?_
      refine ex_iconst ok_X12_has (mi 3 rfl) ?_
      refine ex_iand ok_X12_has (mi 4 rfl) ?_
      refine ex_top (w := (nI 0)) (by decide) ?_
      refine ex_iconst ok_X12_has (mi 5 rfl) ?_
      refine ex_icmp_ne (tgt := 13) ok_X12_has (mi 6 rfl) rfl (fun _ => ?_) (fun hn => absurd hn (by decide))
      refine ex_iconst ok_X12_has (mi 9 rfl) ?_
      refine ex_zret ok_X12_has (mi 10 rfl) rfl (by decide) ?_
      exact ⟨inlI (by decide), rfl⟩
    refine ex_if_eq (tgt := 41) ok_X12_layAll (mi 10 rfl) rfl (fun _ => ?_) (fun hn => absurd (by decide) hn)
    refine ex_iincx (w := (nI 7)) ok_X12_layAll (mi 21 rfl) rfl (by decide) ?_
    refine ex_goto (tgt := 6) ok_X12_layAll (mi 22 rfl) rfl ?_
    refine ex_ls (ls' := [(0, .ref x), (1, .int (nI 16)), (2, .int (nI 0)), (3, .int (nI 7)), (4, .int (nI 0)), (5, .int p1), (6, .int (nI 0)), (7, .int (nI 3)), (8, .int (nI 7)), (9, .int (nI 1))]) ⟨rfl, rfl, rfl, rfl, rfl, rfl, rfl, rfl, rfl, rfl, trivial⟩ ?_
    refine ex_iload ok_X12_layAll (mi 4 rfl) rfl ?_
    refine ex_bipush ok_X12_layAll (mi 5 rfl) ?_
    refine ex_icmp_ge (tgt := 47) ok_X12_layAll (mi 6 rfl) rfl (fun hn => absurd hn (by decide)) (fun _ => ?_)
    refine ex_iload_n ok_X12_layAll (mi 7 rfl) rfl ?_
    refine ex_iload ok_X12_layAll (mi 8 rfl) rfl ?_
    refine ex_callSr (As := [_, _]) (v := some (.int (nI 0))) (g1 := (ap x [(0, 0, 1258, 0, (nI 2)), (1, 55, 5, 0, (nI 0)), (1, 55, 4, 0, (nI 0)), (1, 54, 2, 0, (nI 0)), (1, 53, 8, 0, (nI 0)), (1, 53, 7, 0, p1), (1, 53, 6, 0, (nI 0)), (1, 52, 2, 0, (nI 2)), (1, 51, 2, 0, (nI 0)), (1, 50, 2, 0, (nI 16)), (0, 0, 1248, 0, (nI 3)), (1, 48, 2, 0, (nI 2)), (1, 49, 2, 0, (nI 1)), (0, 0, 1258, 0, (-1)), (0, 0, 1258, 0, (nI 1)), (1, 55, 3, 0, (nI 0)), (1, 55, 2, 0, (nI 0)), (1, 54, 1, 0, (nI 0)), (1, 53, 5, 0, (nI 0)), (1, 53, 4, 0, p1), (1, 53, 3, 0, (nI 0)), (1, 52, 1, 0, (nI 1)), (1, 51, 1, 0, (nI 0)), (1, 50, 1, 0, (nI 16)), (0, 0, 1248, 0, (nI 2)), (1, 48, 1, 0, (nI 1)), (1, 49, 1, 0, (nI 1)), (0, 0, 1258, 0, (-1)), (0, 0, 1258, 0, (nI 0)), (1, 55, 1, 0, (nI 0)), (1, 55, 0, 0, (nI 0)), (1, 54, 0, 0, (nI 0)), (1, 53, 2, 0, (nI 0)), (1, 53, 1, 0, p1), (1, 53, 0, 0, (nI 0)), (1, 52, 0, 0, (nI 0)), (1, 51, 0, 0, (nI 0)), (1, 50, 0, 0, (nI 16)), (0, 0, 1248, 0, (nI 1)), (1, 48, 0, 0, (nI 0)), (1, 49, 0, 0, (nI 1)), (0, 0, 1258, 0, (-1)), (1, 27, 0, 0, p2), (1, 28, 0, 0, p1), (1, 26, 0, 0, (nI 1)), (2, 31, 0, 300, (nI 0)), (1, 33, 0, 0, (nI 0)), (1, 32, 0, 0, (-1)), (1, 30, 0, 0, (nI 0)), (1, 29, 0, 0, (nI 0)), (0, 0, 1200, 0, (nI 0))] h)) ok_X12_layAll (mi 9 rfl) rfl ?c rfl rfl rfl (by decide) (Nat.le_of_ble_eq_true rfl) (by decide) ?_
    case c =>
      refine ex_M_of ok_X12_has cw_X12_has rfl hst (Nat.le_of_ble_eq_true rfl) ?_
      refine ex_iload_n ok_X12_has (mi 0 rfl) rfl ?_
      refine ex_iload_n ok_X12_has (mi 1 rfl) rfl ?_
      refine ex_ishr ok_X12_has (mi 2 rfl) ?_
      refine ex_top (w := (nI 0)) (by decide) ?_
      refine ex_iconst ok_X12_has (mi 3 rfl) ?_
      refine ex_iand ok_X12_has (mi 4 rfl) ?_
      refine ex_top (w := (nI 0)) (by decide) ?_
      refine ex_iconst ok_X12_has (mi 5 rfl) ?_
      refine ex_icmp_ne (tgt := 13) ok_X12_has (mi 6 rfl) rfl (fun _ => ?_) (fun hn => absurd hn (by decide))
      refine ex_iconst ok_X12_has (mi 9 rfl) ?_
      refine ex_zret ok_X12_has (mi 10 rfl) rfl (by decide) ?_
      exact ⟨inlI (by decide), rfl⟩
    refine ex_if_eq (tgt := 41) ok_X12_layAll (mi 10 rfl) rfl (fun _ => ?_) (fun hn => absurd (by decide) hn)
    refine ex_iincx (w := (nI 8)) ok_X12_layAll (mi 21 rfl) rfl (by decide) ?_
    refine ex_goto (tgt := 6) ok_X12_layAll (mi 22 rfl) rfl ?_
    refine ex_ls (ls' := [(0, .ref x), (1, .int (nI 16)), (2, .int (nI 0)), (3, .int (nI 7)), (4, .int (nI 0)), (5, .int p1), (6, .int (nI 0)), (7, .int (nI 3)), (8, .int (nI 8)), (9, .int (nI 1))]) ⟨rfl, rfl, rfl, rfl, rfl, rfl, rfl, rfl, rfl, rfl, trivial⟩ ?_
    refine ex_iload ok_X12_layAll (mi 4 rfl) rfl ?_
    refine ex_bipush ok_X12_layAll (mi 5 rfl) ?_
    refine ex_icmp_ge (tgt := 47) ok_X12_layAll (mi 6 rfl) rfl (fun hn => absurd hn (by decide)) (fun _ => ?_)
    refine ex_iload_n ok_X12_layAll (mi 7 rfl) rfl ?_
    refine ex_iload ok_X12_layAll (mi 8 rfl) rfl ?_
    refine ex_callSr (As := [_, _]) (v := some (.int (nI 0))) (g1 := (ap x [(0, 0, 1258, 0, (nI 2)), (1, 55, 5, 0, (nI 0)), (1, 55, 4, 0, (nI 0)), (1, 54, 2, 0, (nI 0)), (1, 53, 8, 0, (nI 0)), (1, 53, 7, 0, p1), (1, 53, 6, 0, (nI 0)), (1, 52, 2, 0, (nI 2)), (1, 51, 2, 0, (nI 0)), (1, 50, 2, 0, (nI 16)), (0, 0, 1248, 0, (nI 3)), (1, 48, 2, 0, (nI 2)), (1, 49, 2, 0, (nI 1)), (0, 0, 1258, 0, (-1)), (0, 0, 1258, 0, (nI 1)), (1, 55, 3, 0, (nI 0)), (1, 55, 2, 0, (nI 0)), (1, 54, 1, 0, (nI 0)), (1, 53, 5, 0, (nI 0)), (1, 53, 4, 0, p1), (1, 53, 3, 0, (nI 0)), (1, 52, 1, 0, (nI 1)), (1, 51, 1, 0, (nI 0)), (1, 50, 1, 0, (nI 16)), (0, 0, 1248, 0, (nI 2)), (1, 48, 1, 0, (nI 1)), (1, 49, 1, 0, (nI 1)), (0, 0, 1258, 0, (-1)), (0, 0, 1258, 0, (nI 0)), (1, 55, 1, 0, (nI 0)), (1, 55, 0, 0, (nI 0)), (1, 54, 0, 0, (nI 0)), (1, 53, 2, 0, (nI 0)), (1, 53, 1, 0, p1), (1, 53, 0, 0, (nI 0)), (1, 52, 0, 0, (nI 0)), (1, 51, 0, 0, (nI 0)), (1, 50, 0, 0, (nI 16)), (0, 0, 1248, 0, (nI 1)), (1, 48, 0, 0, (nI 0)), (1, 49, 0, 0, (nI 1)), (0, 0, 1258, 0, (-1)), (1, 27, 0, 0, p2), (1, 28, 0, 0, p1), (1, 26, 0, 0, (nI 1)), (2, 31, 0, 300, (nI 0)), (1, 33, 0, 0, (nI 0)), (1, 32, 0, 0, (-1)), (1, 30, 0, 0, (nI 0)), (1, 29, 0, 0, (nI 0)), (0, 0, 1200, 0, (nI 0))] h)) ok_X12_layAll (mi 9 rfl) rfl ?c rfl rfl rfl (by decide) (Nat.le_of_ble_eq_true rfl) (by decide) ?_
    case c =>
      refine ex_M_of ok_X12_has cw_X12_has rfl hst (Nat.le_of_ble_eq_true rfl) ?_
      refine ex_iload_n ok_X12_has (mi 0 rfl) rfl ?_
      refine ex_iload_n ok_X12_has (mi 1 rfl) rfl ?_
      refine ex_ishr ok_X12_has (mi 2 rfl) ?_
      refine ex_top (w := (nI 0)) (by decide) ?_
      refine ex_iconst ok_X12_has (mi 3 rfl) ?_
      refine ex_iand ok_X12_has (mi 4 rfl) ?_
      refine ex_top (w := (nI 0)) (by decide) ?_
      refine ex_iconst ok_X12_has (mi 5 rfl) ?_
      refine ex_icmp_ne (tgt := 13) ok_X12_has (mi 6 rfl) rfl (fun _ => ?_) (fun hn => absurd hn (by decide))
      refine ex_iconst ok_X12_has (mi 9 rfl) ?_
      refine ex_zret ok_X12_has (mi 10 rfl) rfl (by decide) ?_
      exact ⟨inlI (by decide), rfl⟩
    refine ex_if_eq (tgt := 41) ok_X12_layAll (mi 10 rfl) rfl (fun _ => ?_) (fun hn => absurd (by decide) hn)
    refine ex_iincx (w := (nI 9)) ok_X12_layAll (mi 21 rfl) rfl (by decide) ?_
    refine ex_goto (tgt := 6) ok_X12_layAll (mi 22 rfl) rfl ?_
    refine ex_ls (ls' := [(0, .ref x), (1, .int (nI 16)), (2, .int (nI 0)), (3, .int (nI 7)), (4, .int (nI 0)), (5, .int p1), (6, .int (nI 0)), (7, .int (nI 3)), (8, .int (nI 9)), (9, .int (nI 1))]) ⟨rfl, rfl, rfl, rfl, rfl, rfl, rfl, rfl, rfl, rfl, trivial⟩ ?_
    refine ex_iload ok_X12_layAll (mi 4 rfl) rfl ?_
    refine ex_bipush ok_X12_layAll (mi 5 rfl) ?_
    refine ex_icmp_ge (tgt := 47) ok_X12_layAll (mi 6 rfl) rfl (fun hn => absurd hn (by decide)) (fun _ => ?_)
    refine ex_iload_n ok_X12_layAll (mi 7 rfl) rfl ?_
    refine ex_iload ok_X12_layAll (mi 8 rfl) rfl ?_
    refine ex_callSr (As := [_, _]) (v := some (.int (nI 0))) (g1 := (ap x [(0, 0, 1258, 0, (nI 2)), (1, 55, 5, 0, (nI 0)), (1, 55, 4, 0, (nI 0)), (1, 54, 2, 0, (nI 0)), (1, 53, 8, 0, (nI 0)), (1, 53, 7, 0, p1), (1, 53, 6, 0, (nI 0)), (1, 52, 2, 0, (nI 2)), (1, 51, 2, 0, (nI 0)), (1, 50, 2, 0, (nI 16)), (0, 0, 1248, 0, (nI 3)), (1, 48, 2, 0, (nI 2)), (1, 49, 2, 0, (nI 1)), (0, 0, 1258, 0, (-1)), (0, 0, 1258, 0, (nI 1)), (1, 55, 3, 0, (nI 0)), (1, 55, 2, 0, (nI 0)), (1, 54, 1, 0, (nI 0)), (1, 53, 5, 0, (nI 0)), (1, 53, 4, 0, p1), (1, 53, 3, 0, (nI 0)), (1, 52, 1, 0, (nI 1)), (1, 51, 1, 0, (nI 0)), (1, 50, 1, 0, (nI 16)), (0, 0, 1248, 0, (nI 2)), (1, 48, 1, 0, (nI 1)), (1, 49, 1, 0, (nI 1)), (0, 0, 1258, 0, (-1)), (0, 0, 1258, 0, (nI 0)), (1, 55, 1, 0, (nI 0)), (1, 55, 0, 0, (nI 0)), (1, 54, 0, 0, (nI 0)), (1, 53, 2, 0, (nI 0)), (1, 53, 1, 0, p1), (1, 53, 0, 0, (nI 0)), (1, 52, 0, 0, (nI 0)), (1, 51, 0, 0, (nI 0)), (1, 50, 0, 0, (nI 16)), (0, 0, 1248, 0, (nI 1)), (1, 48, 0, 0, (nI 0)), (1, 49, 0, 0, (nI 1)), (0, 0, 1258, 0, (-1)), (1, 27, 0, 0, p2), (1, 28, 0, 0, p1), (1, 26, 0, 0, (nI 1)), (2, 31, 0, 300, (nI 0)), (1, 33, 0, 0, (nI 0)), (1, 32, 0, 0, (-1)), (1, 30, 0, 0, (nI 0)), (1, 29, 0, 0, (nI 0)), (0, 0, 1200, 0, (nI 0))] h)) ok_X12_layAll (mi 9 rfl) rfl ?c rfl rfl rfl (by decide) (Nat.le_of_ble_eq_true rfl) (by decide) ?_
    case c =>
      refine ex_M_of ok_X12_has cw_X12_has rfl hst (Nat.le_of_ble_eq_true rfl) ?_
      refine ex_iload_n ok_X12_has (mi 0 rfl) rfl ?_
      refine ex_iload_n ok_X12_has (mi 1 rfl) rfl ?_
      refine ex_ishr ok_X12_has (mi 2 rfl) ?_
      refine ex_top (w := (nI 0)) (by decide) ?_
      refine ex_iconst ok_X12_has (mi 3 rfl) ?_
      refine ex_iand ok_X12_has (mi 4 rfl) ?_
      refine ex_top (w := (nI 0)) (by decide) ?_
      refine ex_iconst ok_X12_has (mi 5 rfl) ?_
      refine ex_icmp_ne (tgt := 13) ok_X12_has (mi 6 rfl) rfl (fun _ => ?_) (fun hn => absurd hn (by decide))
      refine ex_iconst ok_X12_has (mi 9 rfl) ?_
      refine ex_zret ok_X12_has (mi 10 rfl) rfl (by decide) ?_
      exact ⟨inlI (by decide), rfl⟩
    refine ex_if_eq (tgt := 41) ok_X12_layAll (mi 10 rfl) rfl (fun _ => ?_) (fun hn => absurd (by decide) hn)
    refine ex_iincx (w := (nI 10)) ok_X12_layAll (mi 21 rfl) rfl (by decide) ?_
    refine ex_goto (tgt := 6) ok_X12_layAll (mi 22 rfl) rfl ?_
    refine ex_ls (ls' := [(0, .ref x), (1, .int (nI 16)), (2, .int (nI 0)), (3, .int (nI 7)), (4, .int (nI 0)), (5, .int p1), (6, .int (nI 0)), (7, .int (nI 3)), (8, .int (nI 10)), (9, .int (nI 1))]) ⟨rfl, rfl, rfl, rfl, rfl, rfl, rfl, rfl, rfl, rfl, trivial⟩ ?_
    refine ex_iload ok_X12_layAll (mi 4 rfl) rfl ?_
    refine ex_bipush ok_X12_layAll (mi 5 rfl) ?_
    refine ex_icmp_ge (tgt := 47) ok_X12_layAll (mi 6 rfl) rfl (fun hn => absurd hn (by decide)) (fun _ => ?_)
    refine ex_iload_n ok_X12_layAll (mi 7 rfl) rfl ?_
    refine ex_iload ok_X12_layAll (mi 8 rfl) rfl ?_
    refine ex_callSr (As := [_, _]) (v := some (.int (nI 0))) (g1 := (ap x [(0, 0, 1258, 0, (nI 2)), (1, 55, 5, 0, (nI 0)), (1, 55, 4, 0, (nI 0)), (1, 54, 2, 0, (nI 0)), (1, 53, 8, 0, (nI 0)), (1, 53, 7, 0, p1), (1, 53, 6, 0, (nI 0)), (1, 52, 2, 0, (nI 2)), (1, 51, 2, 0, (nI 0)), (1, 50, 2, 0, (nI 16)), (0, 0, 1248, 0, (nI 3)), (1, 48, 2, 0, (nI 2)), (1, 49, 2, 0, (nI 1)), (0, 0, 1258, 0, (-1)), (0, 0, 1258, 0, (nI 1)), (1, 55, 3, 0, (nI 0)), (1, 55, 2, 0, (nI 0)), (1, 54, 1, 0, (nI 0)), (1, 53, 5, 0, (nI 0)), (1, 53, 4, 0, p1), (1, 53, 3, 0, (nI 0)), (1, 52, 1, 0, (nI 1)), (1, 51, 1, 0, (nI 0)), (1, 50, 1, 0, (nI 16)), (0, 0, 1248, 0, (nI 2)), (1, 48, 1, 0, (nI 1)), (1, 49, 1, 0, (nI 1)), (0, 0, 1258, 0, (-1)), (0, 0, 1258, 0, (nI 0)), (1, 55, 1, 0, (nI 0)), (1, 55, 0, 0, (nI 0)), (1, 54, 0, 0, (nI 0)), (1, 53, 2, 0, (nI 0)), (1, 53, 1, 0, p1), (1, 53, 0, 0, (nI 0)), (1, 52, 0, 0, (nI 0)), (1, 51, 0, 0, (nI 0)), (1, 50, 0, 0, (nI 16)), (0, 0, 1248, 0, (nI 1)), (1, 48, 0, 0, (nI 0)), (1, 49, 0, 0, (nI 1)), (0, 0, 1258, 0, (-1)), (1, 27, 0, 0, p2), (1, 28, 0, 0, p1), (1, 26, 0, 0, (nI 1)), (2, 31, 0, 300, (nI 0)), (1, 33, 0, 0, (nI 0)), (1, 32, 0, 0, (-1)), (1, 30, 0, 0, (nI 0)), (1, 29, 0, 0, (nI 0)), (0, 0, 1200, 0, (nI 0))] h)) ok_X12_layAll (mi 9 rfl) rfl ?c rfl rfl rfl (by decide) (Nat.le_of_ble_eq_true rfl) (by decide) ?_
    case c =>
      refine ex_M_of ok_X12_has cw_X12_has rfl hst (Nat.le_of_ble_eq_true rfl) ?_
      refine ex_iload_n ok_X12_has (mi 0 rfl) rfl ?_
      refine ex_iload_n ok_X12_has (mi 1 rfl) rfl ?_
      refine ex_ishr ok_X12_has (mi 2 rfl) ?_
      refine ex_top (w := (nI 0)) (by decide) ?_
      refine ex_iconst ok_X12_has (mi 3 rfl) ?_
      refine ex_iand ok_X12_has (mi 4 rfl) ?_
      refine ex_top (w := (nI 0)) (by decide) ?_
      refine ex_iconst ok_X12_has (mi 5 rfl) ?_
      refine ex_icmp_ne (tgt := 13) ok_X12_has (mi 6 rfl) rfl (fun _ => ?_) (fun hn => absurd hn (by decide))
      refine ex_iconst ok_X12_has (mi 9 rfl) ?_
      refine ex_zret ok_X12_has (mi 10 rfl) rfl (by decide) ?_
      exact ⟨inlI (by decide), rfl⟩
    refine ex_if_eq (tgt := 41) ok_X12_layAll (mi 10 rfl) rfl (fun _ => ?_) (fun hn => absurd (by decide) hn)
    refine ex_iincx (w := (nI 11)) ok_X12_layAll (mi 21 rfl) rfl (by decide) ?_
    refine ex_goto (tgt := 6) ok_X12_layAll (mi 22 rfl) rfl ?_
    refine ex_ls (ls' := [(0, .ref x), (1, .int (nI 16)), (2, .int (nI 0)), (3, .int (nI 7)), (4, .int (nI 0)), (5, .int p1), (6, .int (nI 0)), (7, .int (nI 3)), (8, .int (nI 11)), (9, .int (nI 1))]) ⟨rfl, rfl, rfl, rfl, rfl, rfl, rfl, rfl, rfl, rfl, trivial⟩ ?_
    refine ex_iload ok_X12_layAll (mi 4 rfl) rfl ?_
    refine ex_bipush ok_X12_layAll (mi 5 rfl) ?_
    refine ex_icmp_ge (tgt := 47) ok_X12_layAll (mi 6 rfl) rfl (fun hn => absurd hn (by decide)) (fun _ => ?_)
    refine ex_iload_n ok_X12_layAll (mi 7 rfl) rfl ?_
    refine ex_iload ok_X12_layAll (mi 8 rfl) rfl ?_
    refine ex_callSr (As := [_, _]) (v := some (.int (nI 0))) (g1 := (ap x [(0, 0, 1258, 0, (nI 2)), (1, 55, 5, 0, (nI 0)), (1, 55, 4, 0, (nI 0)), (1, 54, 2, 0, (nI 0)), (1, 53, 8, 0, (nI 0)), (1, 53, 7, 0, p1), (1, 53, 6, 0, (nI 0)), (1, 52, 2, 0, (nI 2)), (1, 51, 2, 0, (nI 0)), (1, 50, 2, 0, (nI 16)), (0, 0, 1248, 0, (nI 3)), (1, 48, 2, 0, (nI 2)), (1, 49, 2, 0, (nI 1)), (0, 0, 1258, 0, (-1)), (0, 0, 1258, 0, (nI 1)), (1, 55, 3, 0, (nI 0)), (1, 55, 2, 0, (nI 0)), (1, 54, 1, 0, (nI 0)), (1, 53, 5, 0, (nI 0)), (1, 53, 4, 0, p1), (1, 53, 3, 0, (nI 0)), (1, 52, 1, 0, (nI 1)), (1, 51, 1, 0, (nI 0)), (1, 50, 1, 0, (nI 16)), (0, 0, 1248, 0, (nI 2)), (1, 48, 1, 0, (nI 1)), (1, 49, 1, 0, (nI 1)), (0, 0, 1258, 0, (-1)), (0, 0, 1258, 0, (nI 0)), (1, 55, 1, 0, (nI 0)), (1, 55, 0, 0, (nI 0)), (1, 54, 0, 0, (nI 0)), (1, 53, 2, 0, (nI 0)), (1, 53, 1, 0, p1), (1, 53, 0, 0, (nI 0)), (1, 52, 0, 0, (nI 0)), (1, 51, 0, 0, (nI 0)), (1, 50, 0, 0, (nI 16)), (0, 0, 1248, 0, (nI 1)), (1, 48, 0, 0, (nI 0)), (1, 49, 0, 0, (nI 1)), (0, 0, 1258, 0, (-1)), (1, 27, 0, 0, p2), (1, 28, 0, 0, p1), (1, 26, 0, 0, (nI 1)), (2, 31, 0, 300, (nI 0)), (1, 33, 0, 0, (nI 0)), (1, 32, 0, 0, (-1)), (1, 30, 0, 0, (nI 0)), (1, 29, 0, 0, (nI 0)), (0, 0, 1200, 0, (nI 0))] h)) ok_X12_layAll (mi 9 rfl) rfl ?c rfl rfl rfl (by decide) (Nat.le_of_ble_eq_true rfl) (by decide) ?_
    case c =>
      refine ex_M_of ok_X12_has cw_X12_has rfl hst (Nat.le_of_ble_eq_true rfl) ?_
      refine ex_iload_n ok_X12_has (mi 0 rfl) rfl ?_
      refine ex_iload_n ok_X12_has (mi 1 rfl) rfl ?_
      refine ex_ishr ok_X12_has (mi 2 rfl) ?_
      refine ex_top (w := (nI 0)) (by decide) ?_
      refine ex_iconst ok_X12_has (mi 3 rfl) ?_
      refine ex_iand ok_X12_has (mi 4 rfl) ?_
      refine ex_top (w := (nI 0)) (by decide) ?_
      refine ex_iconst ok_X12_has (mi 5 rfl) ?_
      refine ex_icmp_ne (tgt := 13) ok_X12_has (mi 6 rfl) rfl (fun _ => ?_) (fun hn => absurd hn (by decide))
      refine ex_iconst ok_X12_has (mi 9 rfl) ?_
      refine ex_zret ok_X12_has (mi 10 rfl) rfl (by decide) ?_
      exact ⟨inlI (by decide), rfl⟩
    refine ex_if_eq (tgt := 41) ok_X12_layAll (mi 10 rfl) rfl (fun _ => ?_) (fun hn => absurd (by decide) hn)
    refine ex_iincx (w := (nI 12)) ok_X12_layAll (mi 21 rfl) rfl (by decide) ?_
    refine ex_goto (tgt := 6) ok_X12_layAll (mi 22 rfl) rfl ?_
    refine ex_ls (ls' := [(0, .ref x), (1, .int (nI 16)), (2, .int (nI 0)), (3, .int (nI 7)), (4, .int (nI 0)), (5, .int p1), (6, .int (nI 0)), (7, .int (nI 3)), (8, .int (nI 12)), (9, .int (nI 1))]) ⟨rfl, rfl, rfl, rfl, rfl, rfl, rfl, rfl, rfl, rfl, trivial⟩ ?_
    refine ex_iload ok_X12_layAll (mi 4 rfl) rfl ?_
    refine ex_bipush ok_X12_layAll (mi 5 rfl) ?_
    refine ex_icmp_ge (tgt := 47) ok_X12_layAll (mi 6 rfl) rfl (fun _ => ?_) (fun hn => absurd (by decide) hn)
    refine ex_iload ok_X12_layAll (mi 23 rfl) rfl ?_
    refine ex_iret ok_X12_layAll (mi 24 rfl) rfl ?_
    exact ⟨inlI (by decide), rfl⟩
  refine ex_istore ok_X12_reform (mi 85 rfl) ?_
  refine ex_aload_n ok_X12_reform (mi 86 rfl) rfl ?_
  refine ex_getIx ok_X12_reform (mi 87 rfl) rfl rfl (kq apq (fk f.1 0 rfl)) (apI (a := 0) rfl) ?_
  refine ex_iret ok_X12_reform (mi 88 rfl) rfl ?_
  exact ⟨_, rfl, fun _ => by decide, apI (a := 0) rfl, kq apq (fk f.1 0 rfl), kp_ap rfl⟩
