theorem c_deliver {G : GE} (hst : (ge_l G).stackTraces = false) {x : Nat} {p0 : Int32} : CC G 8 4 24 my_X11_deliver x [.int p0] E3 1 (nI 0) := by
  intro h f
  refine ex_M_of ok_X11_deliver cw_X11_deliver rfl hst (Nat.le_of_ble_eq_true rfl) ?_
  refine ex_iload_n ok_X11_deliver (mi 0 rfl) rfl ?_
  refine ex_aload_n ok_X11_deliver (mi 1 rfl) rfl ?_
  refine ex_getRx ok_X11_deliver (mi 2 rfl) rfl rfl (fk f.1 0 rfl) (fr f.1 3 rfl) (fk f.1 1 rfl) (by decide) ?_
  refine ex_getIx ok_X11_deliver (mi 3 rfl) rfl rfl (fk f.1 1 rfl) (fi f.2.2.1 31 rfl) ?_
  refine ex_callSt (e := 100) (As := [_, _]) ok_X11_deliver (mi 4 rfl) rfl (m_reqBad hst (vin0 _) (by decide) (by decide)) rfl rfl rfl (by decide) (Nat.le_of_ble_eq_true rfl) (by decide) (fun n hn => ?_)
  exact ⟨Or.inr ⟨by decide, rfl⟩, kpZ kp0 hn⟩
theorem c_lose {G : GE} (hst : (ge_l G).stackTraces = false) {x : Nat} {p0 : Int32} : CC G 3 4 24 my_X11_lose x [.int p0] E3 1 (nI 0) := by
  intro h f
  refine ex_M_of ok_X11_lose cw_X11_lose rfl hst (Nat.le_of_ble_eq_true rfl) ?_
  refine ex_iload_n ok_X11_lose (mi 0 rfl) rfl ?_
  refine ex_aload_n ok_X11_lose (mi 1 rfl) rfl ?_
  refine ex_getRx ok_X11_lose (mi 2 rfl) rfl rfl (fk f.1 0 rfl) (fr f.1 3 rfl) (fk f.1 1 rfl) (by decide) ?_
  refine ex_getIx ok_X11_lose (mi 3 rfl) rfl rfl (fk f.1 1 rfl) (fi f.2.2.1 31 rfl) ?_
  refine ex_callSt (e := 100) (As := [_, _]) ok_X11_lose (mi 4 rfl) rfl (m_reqBad hst (vin0 _) (by decide) (by decide)) rfl rfl rfl (by decide) (Nat.le_of_ble_eq_true rfl) (by decide) (fun n hn => ?_)
  exact ⟨Or.inr ⟨by decide, rfl⟩, kpZ kp0 hn⟩
theorem c_twice {G : GE} (hst : (ge_l G).stackTraces = false) {x : Nat} {p0 : Int32} : CC G 2 4 24 my_X11_twice x [.int p0] E3 1 (nI 0) := by
  intro h f
  refine ex_M_of ok_X11_twice cw_X11_twice rfl hst (Nat.le_of_ble_eq_true rfl) ?_
  refine ex_iload_n ok_X11_twice (mi 0 rfl) rfl ?_
  refine ex_aload_n ok_X11_twice (mi 1 rfl) rfl ?_
  refine ex_getRx ok_X11_twice (mi 2 rfl) rfl rfl (fk f.1 0 rfl) (fr f.1 3 rfl) (fk f.1 1 rfl) (by decide) ?_
  refine ex_getIx ok_X11_twice (mi 3 rfl) rfl rfl (fk f.1 1 rfl) (fi f.2.2.1 31 rfl) ?_
  refine ex_callSt (e := 100) (As := [_, _]) ok_X11_twice (mi 4 rfl) rfl (m_reqBad hst (vin0 _) (by decide) (by decide)) rfl rfl rfl (by decide) (Nat.le_of_ble_eq_true rfl) (by decide) (fun n hn => ?_)
  exact ⟨Or.inr ⟨by decide, rfl⟩, kpZ kp0 hn⟩
theorem c_message {G : GE} (hst : (ge_l G).stackTraces = false) {x : Nat} {p0 p1 : Int32} : CC G 5 4 24 my_X11_message x [.int p0, .int p1] E3 1 (nI 0) := by
  intro h f
  refine ex_M_of ok_X11_message cw_X11_message rfl hst (Nat.le_of_ble_eq_true rfl) ?_
  refine ex_iload_n ok_X11_message (mi 0 rfl) rfl ?_
  refine ex_aload_n ok_X11_message (mi 1 rfl) rfl ?_
  refine ex_getRx ok_X11_message (mi 2 rfl) rfl rfl (fk f.1 0 rfl) (fr f.1 3 rfl) (fk f.1 1 rfl) (by decide) ?_
  refine ex_getIx ok_X11_message (mi 3 rfl) rfl rfl (fk f.1 1 rfl) (fi f.2.2.1 31 rfl) ?_
  refine ex_callSt (e := 100) (As := [_, _]) ok_X11_message (mi 4 rfl) rfl (m_reqBad hst (vin0 _) (by decide) (by decide)) rfl rfl rfl (by decide) (Nat.le_of_ble_eq_true rfl) (by decide) (fun n hn => ?_)
  exact ⟨Or.inr ⟨by decide, rfl⟩, kpZ kp0 hn⟩
theorem c_run_b {G : GE} (hst : (ge_l G).stackTraces = false) {x : Nat} {p0 : Int32} (c0 : ¬ (0 ≤ p0 ∧ p0 ≤ nI 2000)) : CC G 8 4 24 my_X11_run x [.int p0] E1 1 (nI 0) := by
  intro h f
  refine ex_M_of ok_X11_run cw_X11_run rfl hst (Nat.le_of_ble_eq_true rfl) ?_
  refine ex_iload_n ok_X11_run (mi 0 rfl) rfl ?_
  refine ex_if_lt (tgt := 11) ok_X11_run (mi 1 rfl) rfl (fun h1 => ?_) (fun h1 => ?_)
  · skip
    refine ex_throw (e := 101) ok_X11_run (mi 5 rfl) (mi 6 rfl) (mi 7 rfl) (mi 8 rfl) (mi 9 rfl) (by decide) tx_85_89 (List.mem_of_getElem? (i := 5) rfl) rfl (by decide) (by decide) (Nat.le_of_ble_eq_true rfl) (fun n hn => ?_)
    exact ⟨Or.inr ⟨by decide, rfl⟩, kpZ kp0 hn⟩
  · skip
    refine ex_iload_n ok_X11_run (mi 2 rfl) rfl ?_
    refine ex_sipush ok_X11_run (mi 3 rfl) ?_
    refine ex_icmp_le (tgt := 21) ok_X11_run (mi 4 rfl) rfl (fun h8 => False.elim (c0 ⟨by rw [← Int32.not_lt]; exact h1, h8⟩)) (fun h8 => ?_)
    refine ex_throw (e := 101) ok_X11_run (mi 5 rfl) (mi 6 rfl) (mi 7 rfl) (mi 8 rfl) (mi 9 rfl) (by decide) tx_85_89 (List.mem_of_getElem? (i := 5) rfl) rfl (by decide) (by decide) (Nat.le_of_ble_eq_true rfl) (fun n hn => ?_)
    exact ⟨Or.inr ⟨by decide, rfl⟩, kpZ kp0 hn⟩
theorem c_run_k {G : GE} (hst : (ge_l G).stackTraces = false) {x : Nat} {p0 : Int32} (c0 : 0 ≤ p0 ∧ p0 ≤ nI 2000) : CC G 8 4 24 my_X11_run x [.int p0] E1 0 (nI 0) := by
  intro h f
  refine ex_M_of ok_X11_run cw_X11_run rfl hst (Nat.le_of_ble_eq_true rfl) ?_
  refine ex_iload_n ok_X11_run (mi 0 rfl) rfl ?_
  refine ex_if_lt (tgt := 11) ok_X11_run (mi 1 rfl) rfl (fun h1 => False.elim (absurd c0.1 (by rw [Int32.not_le]; exact h1))) (fun h1 => ?_)
  refine ex_iload_n ok_X11_run (mi 2 rfl) rfl ?_
  refine ex_sipush ok_X11_run (mi 3 rfl) ?_
  refine ex_icmp_le (tgt := 21) ok_X11_run (mi 4 rfl) rfl (fun h8 => ?_) (fun h8 => False.elim (h8 c0.2))
  refine ex_iconst ok_X11_run (mi 10 rfl) ?_
  refine ex_istore_n ok_X11_run (mi 11 rfl) ?_
  refine ex_iload_n ok_X11_run (mi 12 rfl) rfl ?_
  refine ex_iload_n ok_X11_run (mi 13 rfl) rfl ?_
  refine ex_icmp_ge (tgt := 56) ok_X11_run (mi 14 rfl) rfl (fun h25 => ?_) (fun h25 => ?_)
  · skip
    refine ex_iload_n ok_X11_run (mi 27 rfl) rfl ?_
    refine ex_iret ok_X11_run (mi 28 rfl) rfl ?_
    exact ⟨Or.inl ⟨rfl, inlI (by decide)⟩, kp0⟩
  · skip
    refine ex_aload_n ok_X11_run (mi 15 rfl) rfl ?_
    refine ex_getRx ok_X11_run (mi 16 rfl) rfl rfl (fk f.1 0 rfl) (fr f.1 3 rfl) (fk f.1 1 rfl) (by decide) ?_
    refine ex_getIx ok_X11_run (mi 17 rfl) rfl rfl (fk f.1 1 rfl) (fi f.2.2.1 31 rfl) ?_
    refine ex_if_le (tgt := 56) ok_X11_run (mi 18 rfl) rfl (fun _ => ?_) (fun hn => absurd (by decide) hn)
    refine ex_iload_n ok_X11_run (mi 27 rfl) rfl ?_
    refine ex_iret ok_X11_run (mi 28 rfl) rfl ?_
    exact ⟨Or.inl ⟨rfl, inlI (by decide)⟩, kp0⟩
theorem c_begin_b0 {G : GE} (hst : (ge_l G).stackTraces = false) {x : Nat} {p0 p1 p2 : Int32} (c0 : ¬ vp_in p0 3) : CC G 7 4 24 my_X11_begin x [.int p0, .int p1, .int p2] E3 1 (nI 0) := by
  intro h f
  refine ex_M_of ok_X11_begin cw_X11_begin rfl hst (Nat.le_of_ble_eq_true rfl) ?_
  refine ex_aload_n ok_X11_begin (mi 0 rfl) rfl ?_
  refine ex_iload_n ok_X11_begin (mi 1 rfl) rfl ?_
  refine ex_callVt (e := 100) (As := [_]) ok_X11_begin (mi 2 rfl) rfl ?c rfl (fk f.1 0 rfl) rfl rfl (by decide) (by decide) (Nat.le_of_ble_eq_true rfl) (by decide) (fun n hn => ?_)
  case c =>
    refine ex_M_of ok_X11_leaderAt cw_X11_leaderAt rfl hst (Nat.le_of_ble_eq_true rfl) ?_
    refine ex_iload_n ok_X11_leaderAt (mi 0 rfl) rfl ?_
    refine ex_iconst ok_X11_leaderAt (mi 1 rfl) ?_
    refine ex_callSt (e := 100) (As := [_, _]) ok_X11_leaderAt (mi 2 rfl) rfl (m_reqBad hst c0 (by decide) (by decide)) rfl rfl rfl (by decide) (Nat.le_of_ble_eq_true rfl) (by decide) (fun n hn => ?_)
    exact ⟨rfl, n, hn, rfl⟩
  exact ⟨Or.inr ⟨by decide, rfl⟩, kpZ kp0 hn⟩
theorem c_propose_b0 {G : GE} (hst : (ge_l G).stackTraces = false) {x : Nat} {p0 p1 p2 : Int32} (c0 : ¬ vp_in p0 3) : CC G 4 4 24 my_X11_propose x [.int p0, .int p1] E3 1 (nI 0) := by
  intro h f
  refine ex_M_of ok_X11_propose cw_X11_propose rfl hst (Nat.le_of_ble_eq_true rfl) ?_
  refine ex_aload_n ok_X11_propose (mi 0 rfl) rfl ?_
  refine ex_iload_n ok_X11_propose (mi 1 rfl) rfl ?_
  refine ex_callVt (e := 100) (As := [_]) ok_X11_propose (mi 2 rfl) rfl ?c rfl (fk f.1 0 rfl) rfl rfl (by decide) (by decide) (Nat.le_of_ble_eq_true rfl) (by decide) (fun n hn => ?_)
  case c =>
    refine ex_M_of ok_X11_leaderAt cw_X11_leaderAt rfl hst (Nat.le_of_ble_eq_true rfl) ?_
    refine ex_iload_n ok_X11_leaderAt (mi 0 rfl) rfl ?_
    refine ex_iconst ok_X11_leaderAt (mi 1 rfl) ?_
    refine ex_callSt (e := 100) (As := [_, _]) ok_X11_leaderAt (mi 2 rfl) rfl (m_reqBad hst c0 (by decide) (by decide)) rfl rfl rfl (by decide) (Nat.le_of_ble_eq_true rfl) (by decide) (fun n hn => ?_)
    exact ⟨rfl, n, hn, rfl⟩
  exact ⟨Or.inr ⟨by decide, rfl⟩, kpZ kp0 hn⟩
theorem c_collect_b0 {G : GE} (hst : (ge_l G).stackTraces = false) {x : Nat} {p0 p1 p2 : Int32} (c0 : ¬ vp_in p0 3) : CC G 4 4 24 my_X11_collect x [.int p0] E2 1 (nI 0) := by
  intro h f
  refine ex_M_of ok_X11_collect cw_X11_collect rfl hst (Nat.le_of_ble_eq_true rfl) ?_
  refine ex_aload_n ok_X11_collect (mi 0 rfl) rfl ?_
  refine ex_iload_n ok_X11_collect (mi 1 rfl) rfl ?_
  refine ex_callVt (e := 100) (As := [_]) ok_X11_collect (mi 2 rfl) rfl ?c rfl (fk f.1 0 rfl) rfl rfl (by decide) (by decide) (Nat.le_of_ble_eq_true rfl) (by decide) (fun n hn => ?_)
  case c =>
    refine ex_M_of ok_X11_leaderAt cw_X11_leaderAt rfl hst (Nat.le_of_ble_eq_true rfl) ?_
    refine ex_iload_n ok_X11_leaderAt (mi 0 rfl) rfl ?_
    refine ex_iconst ok_X11_leaderAt (mi 1 rfl) ?_
    refine ex_callSt (e := 100) (As := [_, _]) ok_X11_leaderAt (mi 2 rfl) rfl (m_reqBad hst c0 (by decide) (by decide)) rfl rfl rfl (by decide) (Nat.le_of_ble_eq_true rfl) (by decide) (fun n hn => ?_)
    exact ⟨rfl, n, hn, rfl⟩
  exact ⟨Or.inr ⟨by decide, rfl⟩, kpZ kp0 hn⟩
theorem c_reform_b0 {G : GE} (hst : (ge_l G).stackTraces = false) {x : Nat} {p0 p1 p2 : Int32} (c0 : ¬ vp_in p0 3) : CC G 6 4 24 my_X11_reform x [.int p0, .int p1, .int p2] E3 1 (nI 0) := by
  intro h f
  refine ex_M_of ok_X11_reform cw_X11_reform rfl hst (Nat.le_of_ble_eq_true rfl) ?_
  refine ex_aload_n ok_X11_reform (mi 0 rfl) rfl ?_
  refine ex_iload_n ok_X11_reform (mi 1 rfl) rfl ?_
  refine ex_callVt (e := 100) (As := [_]) ok_X11_reform (mi 2 rfl) rfl ?c rfl (fk f.1 0 rfl) rfl rfl (by decide) (by decide) (Nat.le_of_ble_eq_true rfl) (by decide) (fun n hn => ?_)
  case c =>
    refine ex_M_of ok_X11_leaderAt cw_X11_leaderAt rfl hst (Nat.le_of_ble_eq_true rfl) ?_
    refine ex_iload_n ok_X11_leaderAt (mi 0 rfl) rfl ?_
    refine ex_iconst ok_X11_leaderAt (mi 1 rfl) ?_
    refine ex_callSt (e := 100) (As := [_, _]) ok_X11_leaderAt (mi 2 rfl) rfl (m_reqBad hst c0 (by decide) (by decide)) rfl rfl rfl (by decide) (Nat.le_of_ble_eq_true rfl) (by decide) (fun n hn => ?_)
    exact ⟨rfl, n, hn, rfl⟩
  exact ⟨Or.inr ⟨by decide, rfl⟩, kpZ kp0 hn⟩
theorem c_again_b0 {G : GE} (hst : (ge_l G).stackTraces = false) {x : Nat} {p0 p1 p2 : Int32} (c0 : ¬ vp_in p0 3) : CC G 5 4 24 my_X11_again x [.int p0] E2 1 (nI 0) := by
  intro h f
  refine ex_M_of ok_X11_again cw_X11_again rfl hst (Nat.le_of_ble_eq_true rfl) ?_
  refine ex_aload_n ok_X11_again (mi 0 rfl) rfl ?_
  refine ex_iload_n ok_X11_again (mi 1 rfl) rfl ?_
  refine ex_callVt (e := 100) (As := [_]) ok_X11_again (mi 2 rfl) rfl ?c rfl (fk f.1 0 rfl) rfl rfl (by decide) (by decide) (Nat.le_of_ble_eq_true rfl) (by decide) (fun n hn => ?_)
  case c =>
    refine ex_M_of ok_X11_leaderAt cw_X11_leaderAt rfl hst (Nat.le_of_ble_eq_true rfl) ?_
    refine ex_iload_n ok_X11_leaderAt (mi 0 rfl) rfl ?_
    refine ex_iconst ok_X11_leaderAt (mi 1 rfl) ?_
    refine ex_callSt (e := 100) (As := [_, _]) ok_X11_leaderAt (mi 2 rfl) rfl (m_reqBad hst c0 (by decide) (by decide)) rfl rfl rfl (by decide) (Nat.le_of_ble_eq_true rfl) (by decide) (fun n hn => ?_)
    exact ⟨rfl, n, hn, rfl⟩
  exact ⟨Or.inr ⟨by decide, rfl⟩, kpZ kp0 hn⟩
theorem c_leader_b0 {G : GE} (hst : (ge_l G).stackTraces = false) {x : Nat} {p0 p1 p2 : Int32} (c0 : ¬ vp_in p0 3) : CC G 4 4 24 my_X11_leader x [.int p0, .int p1] E3 1 (nI 0) := by
  intro h f
  refine ex_M_of ok_X11_leader cw_X11_leader rfl hst (Nat.le_of_ble_eq_true rfl) ?_
  refine ex_aload_n ok_X11_leader (mi 0 rfl) rfl ?_
  refine ex_iload_n ok_X11_leader (mi 1 rfl) rfl ?_
  refine ex_callVt (e := 100) (As := [_]) ok_X11_leader (mi 2 rfl) rfl ?c rfl (fk f.1 0 rfl) rfl rfl (by decide) (by decide) (Nat.le_of_ble_eq_true rfl) (by decide) (fun n hn => ?_)
  case c =>
    refine ex_M_of ok_X11_leaderAt cw_X11_leaderAt rfl hst (Nat.le_of_ble_eq_true rfl) ?_
    refine ex_iload_n ok_X11_leaderAt (mi 0 rfl) rfl ?_
    refine ex_iconst ok_X11_leaderAt (mi 1 rfl) ?_
    refine ex_callSt (e := 100) (As := [_, _]) ok_X11_leaderAt (mi 2 rfl) rfl (m_reqBad hst c0 (by decide) (by decide)) rfl rfl rfl (by decide) (Nat.le_of_ble_eq_true rfl) (by decide) (fun n hn => ?_)
    exact ⟨rfl, n, hn, rfl⟩
  exact ⟨Or.inr ⟨by decide, rfl⟩, kpZ kp0 hn⟩
theorem c_slot_b0 {G : GE} (hst : (ge_l G).stackTraces = false) {x : Nat} {p0 p1 p2 : Int32} (c0 : ¬ vp_in p0 3) : CC G 3 4 24 my_X11_slot x [.int p0, .int p1, .int p2] E3 1 (nI 0) := by
  intro h f
  refine ex_M_of ok_X11_slot cw_X11_slot rfl hst (Nat.le_of_ble_eq_true rfl) ?_
  refine ex_aload_n ok_X11_slot (mi 0 rfl) rfl ?_
  refine ex_iload_n ok_X11_slot (mi 1 rfl) rfl ?_
  refine ex_callVt (e := 100) (As := [_]) ok_X11_slot (mi 2 rfl) rfl ?c rfl (fk f.1 0 rfl) rfl rfl (by decide) (by decide) (Nat.le_of_ble_eq_true rfl) (by decide) (fun n hn => ?_)
  case c =>
    refine ex_M_of ok_X11_leaderAt cw_X11_leaderAt rfl hst (Nat.le_of_ble_eq_true rfl) ?_
    refine ex_iload_n ok_X11_leaderAt (mi 0 rfl) rfl ?_
    refine ex_iconst ok_X11_leaderAt (mi 1 rfl) ?_
    refine ex_callSt (e := 100) (As := [_, _]) ok_X11_leaderAt (mi 2 rfl) rfl (m_reqBad hst c0 (by decide) (by decide)) rfl rfl rfl (by decide) (Nat.le_of_ble_eq_true rfl) (by decide) (fun n hn => ?_)
    exact ⟨rfl, n, hn, rfl⟩
  exact ⟨Or.inr ⟨by decide, rfl⟩, kpZ kp0 hn⟩
theorem c_propose_0_b {G : GE} (hst : (ge_l G).stackTraces = false) {x : Nat} {p1 : Int32} (c1 : ¬ (nI 1 ≤ p1 ∧ p1 ≤ nI 1000000)) : CC G 4 4 24 my_X11_propose x [.int (nI 0), .int p1] E3 2 (nI 0) := by
  intro h f
  refine ex_M_of ok_X11_propose cw_X11_propose rfl hst (Nat.le_of_ble_eq_true rfl) ?_
  refine ex_aload_n ok_X11_propose (mi 0 rfl) rfl ?_
  refine ex_iload_n ok_X11_propose (mi 1 rfl) rfl ?_
  refine ex_callVr (As := [_]) (v := some (.ref (x + 815))) (g1 := h) ok_X11_propose (mi 2 rfl) rfl ?c rfl (fk f.1 0 rfl) rfl rfl (by decide) (by decide) (Nat.le_of_ble_eq_true rfl) (by decide) ?_
  case c =>
    refine ex_M_of ok_X11_leaderAt cw_X11_leaderAt rfl hst (Nat.le_of_ble_eq_true rfl) ?_
    refine ex_iload_n ok_X11_leaderAt (mi 0 rfl) rfl ?_
    refine ex_iconst ok_X11_leaderAt (mi 1 rfl) ?_
    refine ex_callSr (As := [_, _]) ok_X11_leaderAt (mi 2 rfl) rfl (m_reqOk hst (pk_in 0 3 (by decide)) (by decide) (by decide)) rfl rfl rfl (by decide) (Nat.le_of_ble_eq_true rfl) (by decide) ?_
    refine ex_aload_n ok_X11_leaderAt (mi 3 rfl) rfl ?_
    refine ex_getRx ok_X11_leaderAt (mi 4 rfl) rfl rfl (fk f.1 0 rfl) (fr f.1 13 rfl) (fk f.1 10 rfl) (by decide) ?_
    refine ex_iload_n ok_X11_leaderAt (mi 5 rfl) rfl ?_
    refine ex_aaldx (n := 1) ok_X11_leaderAt (mi 6 rfl) (by decide) (fk f.1 10 rfl) (fn f.1 10 rfl) (pk_in 0 3 (by decide)) (fo f.2.1 0 rfl) (fk f.1 11 rfl) (by decide) ?_
    refine ex_aret ok_X11_leaderAt (mi 7 rfl) rfl ?_
    exact ⟨rfl, rfl⟩
  refine ex_astore_n ok_X11_propose (mi 3 rfl) ?_
  refine ex_iload_n ok_X11_propose (mi 4 rfl) rfl ?_
  refine ex_iconst ok_X11_propose (mi 5 rfl) ?_
  refine ex_icmp_lt (tgt := 17) ok_X11_propose (mi 6 rfl) rfl (fun h8 => ?_) (fun h8 => ?_)
  · skip
    refine ex_throw (e := 101) ok_X11_propose (mi 10 rfl) (mi 11 rfl) (mi 12 rfl) (mi 13 rfl) (mi 14 rfl) (by decide) tx_85_89 (List.mem_of_getElem? (i := 3) rfl) rfl (by decide) (by decide) (Nat.le_of_ble_eq_true rfl) (fun n hn => ?_)
    exact ⟨Or.inr ⟨by decide, rfl⟩, kpZ kp0 hn⟩
  · skip
    refine ex_iload_n ok_X11_propose (mi 7 rfl) rfl ?_
    refine ex_ldc ok_X11_propose (mi 8 rfl) rfl ?_
    refine ex_icmp_le (tgt := 27) ok_X11_propose (mi 9 rfl) rfl (fun h14 => False.elim (c1 ⟨by rw [← Int32.not_lt]; exact h8, h14⟩)) (fun h14 => ?_)
    refine ex_throw (e := 101) ok_X11_propose (mi 10 rfl) (mi 11 rfl) (mi 12 rfl) (mi 13 rfl) (mi 14 rfl) (by decide) tx_85_89 (List.mem_of_getElem? (i := 3) rfl) rfl (by decide) (by decide) (Nat.le_of_ble_eq_true rfl) (fun n hn => ?_)
    exact ⟨Or.inr ⟨by decide, rfl⟩, kpZ kp0 hn⟩
theorem c_propose_0_k {G : GE} (hst : (ge_l G).stackTraces = false) {x : Nat} {p1 : Int32} (c1 : nI 1 ≤ p1 ∧ p1 ≤ nI 1000000) : CC G 4 4 24 my_X11_propose x [.int (nI 0), .int p1] E3 0 ((-1)) := by
  intro h f
  refine ex_M_of ok_X11_propose cw_X11_propose rfl hst (Nat.le_of_ble_eq_true rfl) ?_
  refine ex_aload_n ok_X11_propose (mi 0 rfl) rfl ?_
  refine ex_iload_n ok_X11_propose (mi 1 rfl) rfl ?_
  refine ex_callVr (As := [_]) (v := some (.ref (x + 815))) (g1 := h) ok_X11_propose (mi 2 rfl) rfl ?c rfl (fk f.1 0 rfl) rfl rfl (by decide) (by decide) (Nat.le_of_ble_eq_true rfl) (by decide) ?_
  case c =>
    refine ex_M_of ok_X11_leaderAt cw_X11_leaderAt rfl hst (Nat.le_of_ble_eq_true rfl) ?_
    refine ex_iload_n ok_X11_leaderAt (mi 0 rfl) rfl ?_
    refine ex_iconst ok_X11_leaderAt (mi 1 rfl) ?_
    refine ex_callSr (As := [_, _]) ok_X11_leaderAt (mi 2 rfl) rfl (m_reqOk hst (pk_in 0 3 (by decide)) (by decide) (by decide)) rfl rfl rfl (by decide) (Nat.le_of_ble_eq_true rfl) (by decide) ?_
    refine ex_aload_n ok_X11_leaderAt (mi 3 rfl) rfl ?_
    refine ex_getRx ok_X11_leaderAt (mi 4 rfl) rfl rfl (fk f.1 0 rfl) (fr f.1 13 rfl) (fk f.1 10 rfl) (by decide) ?_
    refine ex_iload_n ok_X11_leaderAt (mi 5 rfl) rfl ?_
    refine ex_aaldx (n := 1) ok_X11_leaderAt (mi 6 rfl) (by decide) (fk f.1 10 rfl) (fn f.1 10 rfl) (pk_in 0 3 (by decide)) (fo f.2.1 0 rfl) (fk f.1 11 rfl) (by decide) ?_
    refine ex_aret ok_X11_leaderAt (mi 7 rfl) rfl ?_
    exact ⟨rfl, rfl⟩
  refine ex_astore_n ok_X11_propose (mi 3 rfl) ?_
  refine ex_iload_n ok_X11_propose (mi 4 rfl) rfl ?_
  refine ex_iconst ok_X11_propose (mi 5 rfl) ?_
  refine ex_icmp_lt (tgt := 17) ok_X11_propose (mi 6 rfl) rfl (fun h8 => False.elim (absurd c1.1 (by rw [Int32.not_le]; exact h8))) (fun h8 => ?_)
  refine ex_iload_n ok_X11_propose (mi 7 rfl) rfl ?_
  refine ex_ldc ok_X11_propose (mi 8 rfl) rfl ?_
  refine ex_icmp_le (tgt := 27) ok_X11_propose (mi 9 rfl) rfl (fun h14 => ?_) (fun h14 => False.elim (h14 c1.2))
  refine ex_aload_n ok_X11_propose (mi 15 rfl) rfl ?_
  refine ex_iload_n ok_X11_propose (mi 16 rfl) rfl ?_
  refine ex_callVr (As := [_]) (v := none) (g1 := h) ok_X11_propose (mi 17 rfl) rfl ?c rfl (fk f.1 0 rfl) rfl rfl (by decide) (by decide) (Nat.le_of_ble_eq_true rfl) (by decide) ?_
  case c =>
    refine ex_M_of ok_X11_requireUp cw_X11_requireUp rfl hst (Nat.le_of_ble_eq_true rfl) ?_
    refine ex_aload_n ok_X11_requireUp (mi 0 rfl) rfl ?_
    refine ex_iconst ok_X11_requireUp (mi 1 rfl) ?_
    refine ex_iload_n ok_X11_requireUp (mi 2 rfl) rfl ?_
    refine ex_callVr (As := [_, _]) (v := some (.int (nI 1))) (g1 := h) ok_X11_requireUp (mi 3 rfl) rfl ?c rfl (fk f.1 0 rfl) rfl rfl (by decide) (by decide) (Nat.le_of_ble_eq_true rfl) (by decide) ?_
    case c =>
      refine ex_M_of ok_X11_isUp cw_X11_isUp rfl hst (Nat.le_of_ble_eq_true rfl) ?_
      refine ex_iload_n ok_X11_isUp (mi 0 rfl) rfl ?_
      refine ex_if_lt (tgt := 38) ok_X11_isUp (mi 1 rfl) rfl (fun hn => absurd hn (by decide)) (fun _ => ?_)
      refine ex_iload_n ok_X11_isUp (mi 2 rfl) rfl ?_
      refine ex_iconst ok_X11_isUp (mi 3 rfl) ?_
      refine ex_icmp_ge (tgt := 38) ok_X11_isUp (mi 4 rfl) rfl (fun hn => absurd hn (by decide)) (fun _ => ?_)
      refine ex_iload_n ok_X11_isUp (mi 5 rfl) rfl ?_
      refine ex_if_lt (tgt := 38) ok_X11_isUp (mi 6 rfl) rfl (fun hn => absurd hn (by decide)) (fun _ => ?_)
      refine ex_iload_n ok_X11_isUp (mi 7 rfl) rfl ?_
      refine ex_iload_n ok_X11_isUp (mi 8 rfl) rfl ?_
      refine ex_callSr (As := [_]) (v := some (.int (nI 3))) (g1 := h) ok_X11_isUp (mi 9 rfl) rfl ?c rfl rfl rfl (by decide) (Nat.le_of_ble_eq_true rfl) (by decide) ?_
      case c =>
        refine ex_M_of ok_X11_nodesOf cw_X11_nodesOf rfl hst (Nat.le_of_ble_eq_true rfl) ?_
        refine ex_iload_n ok_X11_nodesOf (mi 0 rfl) rfl ?_
        refine ex_tblk (tgt := 32) ok_X11_nodesOf (mi 1 rfl) (by decide) (by decide) (by decide) (by decide) ?_
        refine ex_iconst ok_X11_nodesOf (mi 2 rfl) ?_
        refine ex_iret ok_X11_nodesOf (mi 3 rfl) rfl ?_
        exact ⟨inlI (by decide), rfl⟩
      refine ex_icmp_ge (tgt := 38) ok_X11_isUp (mi 10 rfl) rfl (fun hn => absurd hn (by decide)) (fun _ => ?_)
      refine ex_aload_n ok_X11_isUp (mi 11 rfl) rfl ?_
      refine ex_getRx ok_X11_isUp (mi 12 rfl) rfl rfl (fk f.1 0 rfl) (fr f.1 12 rfl) (fk f.1 9 rfl) (by decide) ?_
      refine ex_iload_n ok_X11_isUp (mi 13 rfl) rfl ?_
      refine ex_ialdx ok_X11_isUp (mi 14 rfl) (Or.inl (fk f.1 9 rfl)) (fn f.1 9 rfl) (pk_in 0 4 (by decide)) (fe f.2.2.2.2 0 rfl) ?_
      refine ex_iload_n ok_X11_isUp (mi 15 rfl) rfl ?_
      refine ex_ishr ok_X11_isUp (mi 16 rfl) ?_
      refine ex_top (w := (nI 7)) (by decide) ?_
      refine ex_iconst ok_X11_isUp (mi 17 rfl) ?_
      refine ex_iand ok_X11_isUp (mi 18 rfl) ?_
      refine ex_top (w := (nI 1)) (by decide) ?_
      refine ex_if_eq (tgt := 38) ok_X11_isUp (mi 19 rfl) rfl (fun hn => absurd hn (by decide)) (fun _ => ?_)
      refine ex_iconst ok_X11_isUp (mi 20 rfl) ?_
      refine ex_goto (tgt := 39) ok_X11_isUp (mi 21 rfl) rfl ?_
      refine ex_zret ok_X11_isUp (mi 23 rfl) rfl (by decide) ?_
      exact ⟨inlI (by decide), rfl⟩
    refine ex_if_ne (tgt := 20) ok_X11_requireUp (mi 4 rfl) rfl (fun _ => ?_) (fun hn => absurd hn (by decide))
    refine ex_vret ok_X11_requireUp (mi 10 rfl) rfl ?_
    exact ⟨rfl, rfl⟩
  refine ex_aload_n ok_X11_propose (mi 18 rfl) rfl ?_
  refine ex_iload_n ok_X11_propose (mi 19 rfl) rfl ?_
  refine ex_callVr (As := [_]) (v := some (.int (-1))) (g1 := h) ok_X11_propose (mi 20 rfl) rfl ?c rfl (fk f.1 11 rfl) rfl rfl (by decide) (by decide) (Nat.le_of_ble_eq_true rfl) (by decide) ?_
  case c =>
    refine ex_M_of ok_X5_proposeNext cw_X5_proposeNext rfl hst (Nat.le_of_ble_eq_true rfl) ?_
    refine ex_aload_n ok_X5_proposeNext (mi 0 rfl) rfl ?_
    refine ex_getIx ok_X5_proposeNext (mi 1 rfl) rfl rfl (fk f.1 11 rfl) (fi f.2.2.1 37 rfl) ?_
    refine ex_iconst ok_X5_proposeNext (mi 2 rfl) ?_
    refine ex_icmp_ne (tgt := 17) ok_X5_proposeNext (mi 3 rfl) rfl (fun _ => ?_) (fun hn => absurd hn (by decide))
    refine ex_iconst ok_X5_proposeNext (mi 8 rfl) ?_
    refine ex_iret ok_X5_proposeNext (mi 9 rfl) rfl ?_
    exact ⟨inlI (by decide), rfl⟩
  refine ex_iret ok_X11_propose (mi 21 rfl) rfl ?_
  exact ⟨Or.inl ⟨rfl, inlI (by decide)⟩, kp0⟩
theorem c_collect_0 {G : GE} (hst : (ge_l G).stackTraces = false) {x : Nat}  : CC G 4 4 24 my_X11_collect x [.int (nI 0)] E2 0 (nI 0) := by
  intro h f
  refine ex_M_of ok_X11_collect cw_X11_collect rfl hst (Nat.le_of_ble_eq_true rfl) ?_
  refine ex_aload_n ok_X11_collect (mi 0 rfl) rfl ?_
  refine ex_iload_n ok_X11_collect (mi 1 rfl) rfl ?_
  refine ex_callVr (As := [_]) (v := some (.ref (x + 815))) (g1 := h) ok_X11_collect (mi 2 rfl) rfl ?c rfl (fk f.1 0 rfl) rfl rfl (by decide) (by decide) (Nat.le_of_ble_eq_true rfl) (by decide) ?_
  case c =>
    refine ex_M_of ok_X11_leaderAt cw_X11_leaderAt rfl hst (Nat.le_of_ble_eq_true rfl) ?_
    refine ex_iload_n ok_X11_leaderAt (mi 0 rfl) rfl ?_
    refine ex_iconst ok_X11_leaderAt (mi 1 rfl) ?_
    refine ex_callSr (As := [_, _]) ok_X11_leaderAt (mi 2 rfl) rfl (m_reqOk hst (pk_in 0 3 (by decide)) (by decide) (by decide)) rfl rfl rfl (by decide) (Nat.le_of_ble_eq_true rfl) (by decide) ?_
    refine ex_aload_n ok_X11_leaderAt (mi 3 rfl) rfl ?_
    refine ex_getRx ok_X11_leaderAt (mi 4 rfl) rfl rfl (fk f.1 0 rfl) (fr f.1 13 rfl) (fk f.1 10 rfl) (by decide) ?_
    refine ex_iload_n ok_X11_leaderAt (mi 5 rfl) rfl ?_
    refine ex_aaldx (n := 1) ok_X11_leaderAt (mi 6 rfl) (by decide) (fk f.1 10 rfl) (fn f.1 10 rfl) (pk_in 0 3 (by decide)) (fo f.2.1 0 rfl) (fk f.1 11 rfl) (by decide) ?_
    refine ex_aret ok_X11_leaderAt (mi 7 rfl) rfl ?_
    exact ⟨rfl, rfl⟩
  refine ex_astore_n ok_X11_collect (mi 3 rfl) ?_
  refine ex_aload_n ok_X11_collect (mi 4 rfl) rfl ?_
  refine ex_iload_n ok_X11_collect (mi 5 rfl) rfl ?_
  refine ex_callVr (As := [_]) (v := none) (g1 := h) ok_X11_collect (mi 6 rfl) rfl ?c rfl (fk f.1 0 rfl) rfl rfl (by decide) (by decide) (Nat.le_of_ble_eq_true rfl) (by decide) ?_
  case c =>
    refine ex_M_of ok_X11_requireUp cw_X11_requireUp rfl hst (Nat.le_of_ble_eq_true rfl) ?_
    refine ex_aload_n ok_X11_requireUp (mi 0 rfl) rfl ?_
    refine ex_iconst ok_X11_requireUp (mi 1 rfl) ?_
    refine ex_iload_n ok_X11_requireUp (mi 2 rfl) rfl ?_
    refine ex_callVr (As := [_, _]) (v := some (.int (nI 1))) (g1 := h) ok_X11_requireUp (mi 3 rfl) rfl ?c rfl (fk f.1 0 rfl) rfl rfl (by decide) (by decide) (Nat.le_of_ble_eq_true rfl) (by decide) ?_
    case c =>
      refine ex_M_of ok_X11_isUp cw_X11_isUp rfl hst (Nat.le_of_ble_eq_true rfl) ?_
      refine ex_iload_n ok_X11_isUp (mi 0 rfl) rfl ?_
      refine ex_if_lt (tgt := 38) ok_X11_isUp (mi 1 rfl) rfl (fun hn => absurd hn (by decide)) (fun _ => ?_)
      refine ex_iload_n ok_X11_isUp (mi 2 rfl) rfl ?_
      refine ex_iconst ok_X11_isUp (mi 3 rfl) ?_
      refine ex_icmp_ge (tgt := 38) ok_X11_isUp (mi 4 rfl) rfl (fun hn => absurd hn (by decide)) (fun _ => ?_)
      refine ex_iload_n ok_X11_isUp (mi 5 rfl) rfl ?_
      refine ex_if_lt (tgt := 38) ok_X11_isUp (mi 6 rfl) rfl (fun hn => absurd hn (by decide)) (fun _ => ?_)
      refine ex_iload_n ok_X11_isUp (mi 7 rfl) rfl ?_
      refine ex_iload_n ok_X11_isUp (mi 8 rfl) rfl ?_
      refine ex_callSr (As := [_]) (v := some (.int (nI 3))) (g1 := h) ok_X11_isUp (mi 9 rfl) rfl ?c rfl rfl rfl (by decide) (Nat.le_of_ble_eq_true rfl) (by decide) ?_
      case c =>
        refine ex_M_of ok_X11_nodesOf cw_X11_nodesOf rfl hst (Nat.le_of_ble_eq_true rfl) ?_
        refine ex_iload_n ok_X11_nodesOf (mi 0 rfl) rfl ?_
        refine ex_tblk (tgt := 32) ok_X11_nodesOf (mi 1 rfl) (by decide) (by decide) (by decide) (by decide) ?_
        refine ex_iconst ok_X11_nodesOf (mi 2 rfl) ?_
        refine ex_iret ok_X11_nodesOf (mi 3 rfl) rfl ?_
        exact ⟨inlI (by decide), rfl⟩
      refine ex_icmp_ge (tgt := 38) ok_X11_isUp (mi 10 rfl) rfl (fun hn => absurd hn (by decide)) (fun _ => ?_)
      refine ex_aload_n ok_X11_isUp (mi 11 rfl) rfl ?_
      refine ex_getRx ok_X11_isUp (mi 12 rfl) rfl rfl (fk f.1 0 rfl) (fr f.1 12 rfl) (fk f.1 9 rfl) (by decide) ?_
      refine ex_iload_n ok_X11_isUp (mi 13 rfl) rfl ?_
      refine ex_ialdx ok_X11_isUp (mi 14 rfl) (Or.inl (fk f.1 9 rfl)) (fn f.1 9 rfl) (pk_in 0 4 (by decide)) (fe f.2.2.2.2 0 rfl) ?_
      refine ex_iload_n ok_X11_isUp (mi 15 rfl) rfl ?_
      refine ex_ishr ok_X11_isUp (mi 16 rfl) ?_
      refine ex_top (w := (nI 7)) (by decide) ?_
      refine ex_iconst ok_X11_isUp (mi 17 rfl) ?_
      refine ex_iand ok_X11_isUp (mi 18 rfl) ?_
      refine ex_top (w := (nI 1)) (by decide) ?_
      refine ex_if_eq (tgt := 38) ok_X11_isUp (mi 19 rfl) rfl (fun hn => absurd hn (by decide)) (fun _ => ?_)
      refine ex_iconst ok_X11_isUp (mi 20 rfl) ?_
      refine ex_goto (tgt := 39) ok_X11_isUp (mi 21 rfl) rfl ?_
      refine ex_zret ok_X11_isUp (mi 23 rfl) rfl (by decide) ?_
      exact ⟨inlI (by decide), rfl⟩
    refine ex_if_ne (tgt := 20) ok_X11_requireUp (mi 4 rfl) rfl (fun _ => ?_) (fun hn => absurd hn (by decide))
    refine ex_vret ok_X11_requireUp (mi 10 rfl) rfl ?_
    exact ⟨rfl, rfl⟩
  refine ex_aload_n ok_X11_collect (mi 7 rfl) rfl ?_
  refine ex_callVr (As := []) (v := some (.int (nI 0))) (g1 := h) ok_X11_collect (mi 8 rfl) rfl ?c rfl (fk f.1 11 rfl) rfl rfl (by decide) (by decide) (Nat.le_of_ble_eq_true rfl) (by decide) ?_
  case c =>
    refine ex_M_of ok_X5_startCollecting cw_X5_startCollecting rfl hst (Nat.le_of_ble_eq_true rfl) ?_
    refine ex_aload_n ok_X5_startCollecting (mi 0 rfl) rfl ?_
    refine ex_getIx ok_X5_startCollecting (mi 1 rfl) rfl rfl (fk f.1 11 rfl) (fi f.2.2.1 37 rfl) ?_
    refine ex_iconst ok_X5_startCollecting (mi 2 rfl) ?_
    refine ex_icmp_ne (tgt := 29) ok_X5_startCollecting (mi 3 rfl) rfl (fun _ => ?_) (fun hn => absurd hn (by decide))
    refine ex_iconst ok_X5_startCollecting (mi 13 rfl) ?_
    refine ex_zret ok_X5_startCollecting (mi 14 rfl) rfl (by decide) ?_
    exact ⟨inlI (by decide), rfl⟩
  refine ex_zret ok_X11_collect (mi 9 rfl) rfl (by decide) ?_
  exact ⟨Or.inl ⟨rfl, inlI (by decide)⟩, kp0⟩
theorem c_again_0 {G : GE} (hst : (ge_l G).stackTraces = false) {x : Nat}  : CC G 5 4 24 my_X11_again x [.int (nI 0)] E2 0 (nI 0) := by
  intro h f
  refine ex_M_of ok_X11_again cw_X11_again rfl hst (Nat.le_of_ble_eq_true rfl) ?_
  refine ex_aload_n ok_X11_again (mi 0 rfl) rfl ?_
  refine ex_iload_n ok_X11_again (mi 1 rfl) rfl ?_
  refine ex_callVr (As := [_]) (v := some (.ref (x + 815))) (g1 := h) ok_X11_again (mi 2 rfl) rfl ?c rfl (fk f.1 0 rfl) rfl rfl (by decide) (by decide) (Nat.le_of_ble_eq_true rfl) (by decide) ?_
  case c =>
    refine ex_M_of ok_X11_leaderAt cw_X11_leaderAt rfl hst (Nat.le_of_ble_eq_true rfl) ?_
    refine ex_iload_n ok_X11_leaderAt (mi 0 rfl) rfl ?_
    refine ex_iconst ok_X11_leaderAt (mi 1 rfl) ?_
    refine ex_callSr (As := [_, _]) ok_X11_leaderAt (mi 2 rfl) rfl (m_reqOk hst (pk_in 0 3 (by decide)) (by decide) (by decide)) rfl rfl rfl (by decide) (Nat.le_of_ble_eq_true rfl) (by decide) ?_
    refine ex_aload_n ok_X11_leaderAt (mi 3 rfl) rfl ?_
    refine ex_getRx ok_X11_leaderAt (mi 4 rfl) rfl rfl (fk f.1 0 rfl) (fr f.1 13 rfl) (fk f.1 10 rfl) (by decide) ?_
    refine ex_iload_n ok_X11_leaderAt (mi 5 rfl) rfl ?_
    refine ex_aaldx (n := 1) ok_X11_leaderAt (mi 6 rfl) (by decide) (fk f.1 10 rfl) (fn f.1 10 rfl) (pk_in 0 3 (by decide)) (fo f.2.1 0 rfl) (fk f.1 11 rfl) (by decide) ?_
    refine ex_aret ok_X11_leaderAt (mi 7 rfl) rfl ?_
    exact ⟨rfl, rfl⟩
  refine ex_astore_n ok_X11_again (mi 3 rfl) ?_
  refine ex_aload_n ok_X11_again (mi 4 rfl) rfl ?_
  refine ex_iload_n ok_X11_again (mi 5 rfl) rfl ?_
  refine ex_callVr (As := [_]) (v := none) (g1 := h) ok_X11_again (mi 6 rfl) rfl ?c rfl (fk f.1 0 rfl) rfl rfl (by decide) (by decide) (Nat.le_of_ble_eq_true rfl) (by decide) ?_
  case c =>
    refine ex_M_of ok_X11_requireUp cw_X11_requireUp rfl hst (Nat.le_of_ble_eq_true rfl) ?_
    refine ex_aload_n ok_X11_requireUp (mi 0 rfl) rfl ?_
    refine ex_iconst ok_X11_requireUp (mi 1 rfl) ?_
    refine ex_iload_n ok_X11_requireUp (mi 2 rfl) rfl ?_
    refine ex_callVr (As := [_, _]) (v := some (.int (nI 1))) (g1 := h) ok_X11_requireUp (mi 3 rfl) rfl ?c rfl (fk f.1 0 rfl) rfl rfl (by decide) (by decide) (Nat.le_of_ble_eq_true rfl) (by decide) ?_
    case c =>
      refine ex_M_of ok_X11_isUp cw_X11_isUp rfl hst (Nat.le_of_ble_eq_true rfl) ?_
      refine ex_iload_n ok_X11_isUp (mi 0 rfl) rfl ?_
      refine ex_if_lt (tgt := 38) ok_X11_isUp (mi 1 rfl) rfl (fun hn => absurd hn (by decide)) (fun _ => ?_)
      refine ex_iload_n ok_X11_isUp (mi 2 rfl) rfl ?_
      refine ex_iconst ok_X11_isUp (mi 3 rfl) ?_
      refine ex_icmp_ge (tgt := 38) ok_X11_isUp (mi 4 rfl) rfl (fun hn => absurd hn (by decide)) (fun _ => ?_)
      refine ex_iload_n ok_X11_isUp (mi 5 rfl) rfl ?_
      refine ex_if_lt (tgt := 38) ok_X11_isUp (mi 6 rfl) rfl (fun hn => absurd hn (by decide)) (fun _ => ?_)
      refine ex_iload_n ok_X11_isUp (mi 7 rfl) rfl ?_
      refine ex_iload_n ok_X11_isUp (mi 8 rfl) rfl ?_
      refine ex_callSr (As := [_]) (v := some (.int (nI 3))) (g1 := h) ok_X11_isUp (mi 9 rfl) rfl ?c rfl rfl rfl (by decide) (Nat.le_of_ble_eq_true rfl) (by decide) ?_
      case c =>
        refine ex_M_of ok_X11_nodesOf cw_X11_nodesOf rfl hst (Nat.le_of_ble_eq_true rfl) ?_
        refine ex_iload_n ok_X11_nodesOf (mi 0 rfl) rfl ?_
        refine ex_tblk (tgt := 32) ok_X11_nodesOf (mi 1 rfl) (by decide) (by decide) (by decide) (by decide) ?_
        refine ex_iconst ok_X11_nodesOf (mi 2 rfl) ?_
        refine ex_iret ok_X11_nodesOf (mi 3 rfl) rfl ?_
        exact ⟨inlI (by decide), rfl⟩
      refine ex_icmp_ge (tgt := 38) ok_X11_isUp (mi 10 rfl) rfl (fun hn => absurd hn (by decide)) (fun _ => ?_)
      refine ex_aload_n ok_X11_isUp (mi 11 rfl) rfl ?_
      refine ex_getRx ok_X11_isUp (mi 12 rfl) rfl rfl (fk f.1 0 rfl) (fr f.1 12 rfl) (fk f.1 9 rfl) (by decide) ?_
      refine ex_iload_n ok_X11_isUp (mi 13 rfl) rfl ?_
      refine ex_ialdx ok_X11_isUp (mi 14 rfl) (Or.inl (fk f.1 9 rfl)) (fn f.1 9 rfl) (pk_in 0 4 (by decide)) (fe f.2.2.2.2 0 rfl) ?_
      refine ex_iload_n ok_X11_isUp (mi 15 rfl) rfl ?_
      refine ex_ishr ok_X11_isUp (mi 16 rfl) ?_
      refine ex_top (w := (nI 7)) (by decide) ?_
      refine ex_iconst ok_X11_isUp (mi 17 rfl) ?_
      refine ex_iand ok_X11_isUp (mi 18 rfl) ?_
      refine ex_top (w := (nI 1)) (by decide) ?_
      refine ex_if_eq (tgt := 38) ok_X11_isUp (mi 19 rfl) rfl (fun hn => absurd hn (by decide)) (fun _ => ?_)
      refine ex_iconst ok_X11_isUp (mi 20 rfl) ?_
      refine ex_goto (tgt := 39) ok_X11_isUp (mi 21 rfl) rfl ?_
      refine ex_zret ok_X11_isUp (mi 23 rfl) rfl (by decide) ?_
      exact ⟨inlI (by decide), rfl⟩
    refine ex_if_ne (tgt := 20) ok_X11_requireUp (mi 4 rfl) rfl (fun _ => ?_) (fun hn => absurd hn (by decide))
    refine ex_vret ok_X11_requireUp (mi 10 rfl) rfl ?_
    exact ⟨rfl, rfl⟩
  refine ex_aload_n ok_X11_again (mi 7 rfl) rfl ?_
  refine ex_getRx ok_X11_again (mi 8 rfl) rfl rfl (fk f.1 0 rfl) (fr f.1 3 rfl) (fk f.1 1 rfl) (by decide) ?_
  refine ex_getIx ok_X11_again (mi 9 rfl) rfl rfl (fk f.1 1 rfl) (fi f.2.2.1 33 rfl) ?_
  refine ex_istore_n ok_X11_again (mi 10 rfl) ?_
  refine ex_aload_n ok_X11_again (mi 11 rfl) rfl ?_
  refine ex_callVr (As := []) (v := none) (g1 := h) ok_X11_again (mi 12 rfl) rfl ?c rfl (fk f.1 11 rfl) rfl rfl (by decide) (by decide) (Nat.le_of_ble_eq_true rfl) (by decide) ?_
  case c =>
    refine ex_M_of ok_X5_sendAgain cw_X5_sendAgain rfl hst (Nat.le_of_ble_eq_true rfl) ?_
    refine ex_aload_n ok_X5_sendAgain (mi 0 rfl) rfl ?_
    refine ex_getIx ok_X5_sendAgain (mi 1 rfl) rfl rfl (fk f.1 11 rfl) (fi f.2.2.1 37 rfl) ?_
    refine ex_iconst ok_X5_sendAgain (mi 2 rfl) ?_
    refine ex_icmp_ne (tgt := 52) ok_X5_sendAgain (mi 3 rfl) rfl (fun _ => ?_) (fun hn => absurd hn (by decide))
    refine ex_aload_n ok_X5_sendAgain (mi 26 rfl) rfl ?_
    refine ex_getIx ok_X5_sendAgain (mi 27 rfl) rfl rfl (fk f.1 11 rfl) (fi f.2.2.1 37 rfl) ?_
    refine ex_iconst ok_X5_sendAgain (mi 28 rfl) ?_
    refine ex_icmp_ne (tgt := 92) ok_X5_sendAgain (mi 29 rfl) rfl (fun _ => ?_) (fun hn => absurd hn (by decide))
    refine ex_aload_n ok_X5_sendAgain (mi 48 rfl) rfl ?_
    refine ex_getIx ok_X5_sendAgain (mi 49 rfl) rfl rfl (fk f.1 11 rfl) (fi f.2.2.1 37 rfl) ?_
    refine ex_iconst ok_X5_sendAgain (mi 50 rfl) ?_
    refine ex_icmp_ne (tgt := 119) ok_X5_sendAgain (mi 51 rfl) rfl (fun _ => ?_) (fun hn => absurd hn (by decide))
    refine ex_aload_n ok_X5_sendAgain (mi 61 rfl) rfl ?_
    refine ex_getRx ok_X5_sendAgain (mi 62 rfl) rfl rfl (fk f.1 11 rfl) (fr f.1 14 rfl) (fk f.1 14 rfl) (by decide) ?_
    refine ex_callVr (As := []) (v := none) (g1 := h) ok_X5_sendAgain (mi 63 rfl) rfl ?c rfl (fk f.1 14 rfl) rfl rfl (by decide) (by decide) (Nat.le_of_ble_eq_true rfl) (by decide) ?_
    case c =>
      refine ex_M_of ok_X4_sendStep cw_X4_sendStep rfl hst (Nat.le_of_ble_eq_true rfl) ?_
      refine ex_aload_n ok_X4_sendStep (mi 0 rfl) rfl ?_
      refine ex_getIx ok_X4_sendStep (mi 1 rfl) rfl rfl (fk f.1 14 rfl) (fi f.2.2.1 42 rfl) ?_
      refine ex_iconst ok_X4_sendStep (mi 2 rfl) ?_
      refine ex_icmp_ne (tgt := 44) ok_X4_sendStep (mi 3 rfl) rfl (fun _ => ?_) (fun hn => absurd hn (by decide))
      refine ex_aload_n ok_X4_sendStep (mi 23 rfl) rfl ?_
      refine ex_getIx ok_X4_sendStep (mi 24 rfl) rfl rfl (fk f.1 14 rfl) (fi f.2.2.1 42 rfl) ?_
      refine ex_iconst ok_X4_sendStep (mi 25 rfl) ?_
      refine ex_icmp_ne (tgt := 70) ok_X4_sendStep (mi 26 rfl) rfl (fun _ => ?_) (fun hn => absurd hn (by decide))
      refine ex_aload_n ok_X4_sendStep (mi 37 rfl) rfl ?_
      refine ex_getIx ok_X4_sendStep (mi 38 rfl) rfl rfl (fk f.1 14 rfl) (fi f.2.2.1 42 rfl) ?_
      refine ex_iconst ok_X4_sendStep (mi 39 rfl) ?_
      refine ex_icmp_ne (tgt := 114) ok_X4_sendStep (mi 40 rfl) rfl (fun _ => ?_) (fun hn => absurd hn (by decide))
      refine ex_vret ok_X4_sendStep (mi 60 rfl) rfl ?_
      exact ⟨rfl, rfl⟩
    refine ex_vret ok_X5_sendAgain (mi 64 rfl) rfl ?_
    exact ⟨rfl, rfl⟩
  refine ex_aload_n ok_X11_again (mi 13 rfl) rfl ?_
  refine ex_getRx ok_X11_again (mi 14 rfl) rfl rfl (fk f.1 0 rfl) (fr f.1 3 rfl) (fk f.1 1 rfl) (by decide) ?_
  refine ex_getIx ok_X11_again (mi 15 rfl) rfl rfl (fk f.1 1 rfl) (fi f.2.2.1 33 rfl) ?_
  refine ex_iload_n ok_X11_again (mi 16 rfl) rfl ?_
  refine ex_isub ok_X11_again (mi 17 rfl) ?_
  refine ex_top (w := (nI 0)) (by decide) ?_
  refine ex_iret ok_X11_again (mi 18 rfl) rfl ?_
  exact ⟨Or.inl ⟨rfl, inlI (by decide)⟩, kp0⟩
theorem c_begin_0_r {G : GE} (hst : (ge_l G).stackTraces = false) {x : Nat} {p1 p2 : Int32} (c1 : ¬ okR (nI 0) p1) : CC G 7 4 24 my_X11_begin x [.int (nI 0), .int p1, .int p2] E3 2 (nI 0) := by
  intro h f
  refine ex_M_of ok_X11_begin cw_X11_begin rfl hst (Nat.le_of_ble_eq_true rfl) ?_
  refine ex_aload_n ok_X11_begin (mi 0 rfl) rfl ?_
  refine ex_iload_n ok_X11_begin (mi 1 rfl) rfl ?_
  refine ex_callVr (As := [_]) (v := some (.ref (x + 815))) (g1 := h) ok_X11_begin (mi 2 rfl) rfl ?c rfl (fk f.1 0 rfl) rfl rfl (by decide) (by decide) (Nat.le_of_ble_eq_true rfl) (by decide) ?_
  case c =>
    refine ex_M_of ok_X11_leaderAt cw_X11_leaderAt rfl hst (Nat.le_of_ble_eq_true rfl) ?_
    refine ex_iload_n ok_X11_leaderAt (mi 0 rfl) rfl ?_
    refine ex_iconst ok_X11_leaderAt (mi 1 rfl) ?_
    refine ex_callSr (As := [_, _]) ok_X11_leaderAt (mi 2 rfl) rfl (m_reqOk hst (pk_in 0 3 (by decide)) (by decide) (by decide)) rfl rfl rfl (by decide) (Nat.le_of_ble_eq_true rfl) (by decide) ?_
    refine ex_aload_n ok_X11_leaderAt (mi 3 rfl) rfl ?_
    refine ex_getRx ok_X11_leaderAt (mi 4 rfl) rfl rfl (fk f.1 0 rfl) (fr f.1 13 rfl) (fk f.1 10 rfl) (by decide) ?_
    refine ex_iload_n ok_X11_leaderAt (mi 5 rfl) rfl ?_
    refine ex_aaldx (n := 1) ok_X11_leaderAt (mi 6 rfl) (by decide) (fk f.1 10 rfl) (fn f.1 10 rfl) (pk_in 0 3 (by decide)) (fo f.2.1 0 rfl) (fk f.1 11 rfl) (by decide) ?_
    refine ex_aret ok_X11_leaderAt (mi 7 rfl) rfl ?_
    exact ⟨rfl, rfl⟩
  refine ex_astore ok_X11_begin (mi 3 rfl) ?_
  refine ex_iload_n ok_X11_begin (mi 4 rfl) rfl ?_
  refine ex_iload_n ok_X11_begin (mi 5 rfl) rfl ?_
  refine ex_callSr (As := [_, _]) ok_X11_begin (mi 6 rfl) rfl (m_isRoundOf0 hst c1) rfl rfl rfl (by decide) (Nat.le_of_ble_eq_true rfl) (by decide) ?_
  refine ex_if_eq (tgt := 31) ok_X11_begin (mi 7 rfl) rfl (fun _ => ?_) (fun hn => absurd (by decide) hn)
  refine ex_throw (e := 101) ok_X11_begin (mi 15 rfl) (mi 16 rfl) (mi 17 rfl) (mi 18 rfl) (mi 19 rfl) (by decide) tx_85_89 (List.mem_of_getElem? (i := 1) rfl) rfl (by decide) (by decide) (Nat.le_of_ble_eq_true rfl) (fun n hn => ?_)
  exact ⟨Or.inr ⟨by decide, rfl⟩, kpZ kp0 hn⟩
theorem c_begin_0_g {G : GE} (hst : (ge_l G).stackTraces = false) {x : Nat} {p1 p2 : Int32} (c1 : okR (nI 0) p1) (c2 : ¬ okG p2) : CC G 7 4 24 my_X11_begin x [.int (nI 0), .int p1, .int p2] E3 2 (nI 0) := by
  intro h f
  refine ex_M_of ok_X11_begin cw_X11_begin rfl hst (Nat.le_of_ble_eq_true rfl) ?_
  refine ex_aload_n ok_X11_begin (mi 0 rfl) rfl ?_
  refine ex_iload_n ok_X11_begin (mi 1 rfl) rfl ?_
  refine ex_callVr (As := [_]) (v := some (.ref (x + 815))) (g1 := h) ok_X11_begin (mi 2 rfl) rfl ?c rfl (fk f.1 0 rfl) rfl rfl (by decide) (by decide) (Nat.le_of_ble_eq_true rfl) (by decide) ?_
  case c =>
    refine ex_M_of ok_X11_leaderAt cw_X11_leaderAt rfl hst (Nat.le_of_ble_eq_true rfl) ?_
    refine ex_iload_n ok_X11_leaderAt (mi 0 rfl) rfl ?_
    refine ex_iconst ok_X11_leaderAt (mi 1 rfl) ?_
    refine ex_callSr (As := [_, _]) ok_X11_leaderAt (mi 2 rfl) rfl (m_reqOk hst (pk_in 0 3 (by decide)) (by decide) (by decide)) rfl rfl rfl (by decide) (Nat.le_of_ble_eq_true rfl) (by decide) ?_
    refine ex_aload_n ok_X11_leaderAt (mi 3 rfl) rfl ?_
    refine ex_getRx ok_X11_leaderAt (mi 4 rfl) rfl rfl (fk f.1 0 rfl) (fr f.1 13 rfl) (fk f.1 10 rfl) (by decide) ?_
    refine ex_iload_n ok_X11_leaderAt (mi 5 rfl) rfl ?_
    refine ex_aaldx (n := 1) ok_X11_leaderAt (mi 6 rfl) (by decide) (fk f.1 10 rfl) (fn f.1 10 rfl) (pk_in 0 3 (by decide)) (fo f.2.1 0 rfl) (fk f.1 11 rfl) (by decide) ?_
    refine ex_aret ok_X11_leaderAt (mi 7 rfl) rfl ?_
    exact ⟨rfl, rfl⟩
  refine ex_astore ok_X11_begin (mi 3 rfl) ?_
  refine ex_iload_n ok_X11_begin (mi 4 rfl) rfl ?_
  refine ex_iload_n ok_X11_begin (mi 5 rfl) rfl ?_
  refine ex_callSr (As := [_, _]) ok_X11_begin (mi 6 rfl) rfl (m_isRoundOf1 hst c1) rfl rfl rfl (by decide) (Nat.le_of_ble_eq_true rfl) (by decide) ?_
  refine ex_if_eq (tgt := 31) ok_X11_begin (mi 7 rfl) rfl (fun hn => absurd hn (by decide)) (fun _ => ?_)
  refine ex_iload_n ok_X11_begin (mi 8 rfl) rfl ?_
  refine ex_aload ok_X11_begin (mi 9 rfl) rfl ?_
  refine ex_getIx ok_X11_begin (mi 10 rfl) rfl rfl (fk f.1 11 rfl) (fi f.2.2.1 38 rfl) ?_
  refine ex_icmp_le (tgt := 31) ok_X11_begin (mi 11 rfl) rfl (fun h21 => False.elim (absurd (Int32.le_trans c1.1 h21) (by decide))) (fun h21 => ?_)
  refine ex_iload_n ok_X11_begin (mi 12 rfl) rfl ?_
  refine ex_callSr (As := [_]) ok_X11_begin (mi 13 rfl) rfl (m_isGroup0 hst c2) rfl rfl rfl (by decide) (Nat.le_of_ble_eq_true rfl) (by decide) ?_
  refine ex_if_ne (tgt := 41) ok_X11_begin (mi 14 rfl) rfl (fun hn => absurd (by decide) hn) (fun _ => ?_)
  refine ex_throw (e := 101) ok_X11_begin (mi 15 rfl) (mi 16 rfl) (mi 17 rfl) (mi 18 rfl) (mi 19 rfl) (by decide) tx_85_89 (List.mem_of_getElem? (i := 1) rfl) rfl (by decide) (by decide) (Nat.le_of_ble_eq_true rfl) (fun n hn => ?_)
  exact ⟨Or.inr ⟨by decide, rfl⟩, kpZ kp0 hn⟩
theorem c_begin_0_k {G : GE} (hst : (ge_l G).stackTraces = false) {x : Nat} {p1 p2 : Int32} (c1 : okR (nI 0) p1) (c2 : okG p2) : CC G 7 4 24 my_X11_begin x [.int (nI 0), .int p1, .int p2] E3 0 (nI 3) := by
  intro h f
  refine ex_M_of ok_X11_begin cw_X11_begin rfl hst (Nat.le_of_ble_eq_true rfl) ?_
  refine ex_aload_n ok_X11_begin (mi 0 rfl) rfl ?_
  refine ex_iload_n ok_X11_begin (mi 1 rfl) rfl ?_
  refine ex_callVr (As := [_]) (v := some (.ref (x + 815))) (g1 := h) ok_X11_begin (mi 2 rfl) rfl ?c rfl (fk f.1 0 rfl) rfl rfl (by decide) (by decide) (Nat.le_of_ble_eq_true rfl) (by decide) ?_
  case c =>
    refine ex_M_of ok_X11_leaderAt cw_X11_leaderAt rfl hst (Nat.le_of_ble_eq_true rfl) ?_
    refine ex_iload_n ok_X11_leaderAt (mi 0 rfl) rfl ?_
    refine ex_iconst ok_X11_leaderAt (mi 1 rfl) ?_
    refine ex_callSr (As := [_, _]) ok_X11_leaderAt (mi 2 rfl) rfl (m_reqOk hst (pk_in 0 3 (by decide)) (by decide) (by decide)) rfl rfl rfl (by decide) (Nat.le_of_ble_eq_true rfl) (by decide) ?_
    refine ex_aload_n ok_X11_leaderAt (mi 3 rfl) rfl ?_
    refine ex_getRx ok_X11_leaderAt (mi 4 rfl) rfl rfl (fk f.1 0 rfl) (fr f.1 13 rfl) (fk f.1 10 rfl) (by decide) ?_
    refine ex_iload_n ok_X11_leaderAt (mi 5 rfl) rfl ?_
    refine ex_aaldx (n := 1) ok_X11_leaderAt (mi 6 rfl) (by decide) (fk f.1 10 rfl) (fn f.1 10 rfl) (pk_in 0 3 (by decide)) (fo f.2.1 0 rfl) (fk f.1 11 rfl) (by decide) ?_
    refine ex_aret ok_X11_leaderAt (mi 7 rfl) rfl ?_
    exact ⟨rfl, rfl⟩
  refine ex_astore ok_X11_begin (mi 3 rfl) ?_
  refine ex_iload_n ok_X11_begin (mi 4 rfl) rfl ?_
  refine ex_iload_n ok_X11_begin (mi 5 rfl) rfl ?_
  refine ex_callSr (As := [_, _]) ok_X11_begin (mi 6 rfl) rfl (m_isRoundOf1 hst c1) rfl rfl rfl (by decide) (Nat.le_of_ble_eq_true rfl) (by decide) ?_
  refine ex_if_eq (tgt := 31) ok_X11_begin (mi 7 rfl) rfl (fun hn => absurd hn (by decide)) (fun _ => ?_)
  refine ex_iload_n ok_X11_begin (mi 8 rfl) rfl ?_
  refine ex_aload ok_X11_begin (mi 9 rfl) rfl ?_
  refine ex_getIx ok_X11_begin (mi 10 rfl) rfl rfl (fk f.1 11 rfl) (fi f.2.2.1 38 rfl) ?_
  refine ex_icmp_le (tgt := 31) ok_X11_begin (mi 11 rfl) rfl (fun h21 => False.elim (absurd (Int32.le_trans c1.1 h21) (by decide))) (fun h21 => ?_)
  refine ex_iload_n ok_X11_begin (mi 12 rfl) rfl ?_
  refine ex_callSr (As := [_]) ok_X11_begin (mi 13 rfl) rfl (m_isGroup1 hst c2) rfl rfl rfl (by decide) (Nat.le_of_ble_eq_true rfl) (by decide) ?_
  refine ex_if_ne (tgt := 41) ok_X11_begin (mi 14 rfl) rfl (fun _ => ?_) (fun hn => absurd hn (by decide))
  refine ex_aload_n ok_X11_begin (mi 20 rfl) rfl ?_
  refine ex_iload_n ok_X11_begin (mi 21 rfl) rfl ?_
  refine ex_callVr (As := [_]) (v := none) (g1 := h) ok_X11_begin (mi 22 rfl) rfl ?c rfl (fk f.1 0 rfl) rfl rfl (by decide) (by decide) (Nat.le_of_ble_eq_true rfl) (by decide) ?_
  case c =>
    refine ex_M_of ok_X11_requireUp cw_X11_requireUp rfl hst (Nat.le_of_ble_eq_true rfl) ?_
    refine ex_aload_n ok_X11_requireUp (mi 0 rfl) rfl ?_
    refine ex_iconst ok_X11_requireUp (mi 1 rfl) ?_
    refine ex_iload_n ok_X11_requireUp (mi 2 rfl) rfl ?_
    refine ex_callVr (As := [_, _]) (v := some (.int (nI 1))) (g1 := h) ok_X11_requireUp (mi 3 rfl) rfl ?c rfl (fk f.1 0 rfl) rfl rfl (by decide) (by decide) (Nat.le_of_ble_eq_true rfl) (by decide) ?_
    case c =>
      refine ex_M_of ok_X11_isUp cw_X11_isUp rfl hst (Nat.le_of_ble_eq_true rfl) ?_
      refine ex_iload_n ok_X11_isUp (mi 0 rfl) rfl ?_
      refine ex_if_lt (tgt := 38) ok_X11_isUp (mi 1 rfl) rfl (fun hn => absurd hn (by decide)) (fun _ => ?_)
      refine ex_iload_n ok_X11_isUp (mi 2 rfl) rfl ?_
      refine ex_iconst ok_X11_isUp (mi 3 rfl) ?_
      refine ex_icmp_ge (tgt := 38) ok_X11_isUp (mi 4 rfl) rfl (fun hn => absurd hn (by decide)) (fun _ => ?_)
      refine ex_iload_n ok_X11_isUp (mi 5 rfl) rfl ?_
      refine ex_if_lt (tgt := 38) ok_X11_isUp (mi 6 rfl) rfl (fun hn => absurd hn (by decide)) (fun _ => ?_)
      refine ex_iload_n ok_X11_isUp (mi 7 rfl) rfl ?_
      refine ex_iload_n ok_X11_isUp (mi 8 rfl) rfl ?_
      refine ex_callSr (As := [_]) (v := some (.int (nI 3))) (g1 := h) ok_X11_isUp (mi 9 rfl) rfl ?c rfl rfl rfl (by decide) (Nat.le_of_ble_eq_true rfl) (by decide) ?_
      case c =>
        refine ex_M_of ok_X11_nodesOf cw_X11_nodesOf rfl hst (Nat.le_of_ble_eq_true rfl) ?_
        refine ex_iload_n ok_X11_nodesOf (mi 0 rfl) rfl ?_
        refine ex_tblk (tgt := 32) ok_X11_nodesOf (mi 1 rfl) (by decide) (by decide) (by decide) (by decide) ?_
        refine ex_iconst ok_X11_nodesOf (mi 2 rfl) ?_
        refine ex_iret ok_X11_nodesOf (mi 3 rfl) rfl ?_
        exact ⟨inlI (by decide), rfl⟩
      refine ex_icmp_ge (tgt := 38) ok_X11_isUp (mi 10 rfl) rfl (fun hn => absurd hn (by decide)) (fun _ => ?_)
      refine ex_aload_n ok_X11_isUp (mi 11 rfl) rfl ?_
      refine ex_getRx ok_X11_isUp (mi 12 rfl) rfl rfl (fk f.1 0 rfl) (fr f.1 12 rfl) (fk f.1 9 rfl) (by decide) ?_
      refine ex_iload_n ok_X11_isUp (mi 13 rfl) rfl ?_
      refine ex_ialdx ok_X11_isUp (mi 14 rfl) (Or.inl (fk f.1 9 rfl)) (fn f.1 9 rfl) (pk_in 0 4 (by decide)) (fe f.2.2.2.2 0 rfl) ?_
      refine ex_iload_n ok_X11_isUp (mi 15 rfl) rfl ?_
      refine ex_ishr ok_X11_isUp (mi 16 rfl) ?_
      refine ex_top (w := (nI 7)) (by decide) ?_
      refine ex_iconst ok_X11_isUp (mi 17 rfl) ?_
      refine ex_iand ok_X11_isUp (mi 18 rfl) ?_
      refine ex_top (w := (nI 1)) (by decide) ?_
      refine ex_if_eq (tgt := 38) ok_X11_isUp (mi 19 rfl) rfl (fun hn => absurd hn (by decide)) (fun _ => ?_)
      refine ex_iconst ok_X11_isUp (mi 20 rfl) ?_
      refine ex_goto (tgt := 39) ok_X11_isUp (mi 21 rfl) rfl ?_
      refine ex_zret ok_X11_isUp (mi 23 rfl) rfl (by decide) ?_
      exact ⟨inlI (by decide), rfl⟩
    refine ex_if_ne (tgt := 20) ok_X11_requireUp (mi 4 rfl) rfl (fun _ => ?_) (fun hn => absurd hn (by decide))
    refine ex_vret ok_X11_requireUp (mi 10 rfl) rfl ?_
    exact ⟨rfl, rfl⟩
  refine ex_aload_n ok_X11_begin (mi 23 rfl) rfl ?_
  refine ex_getRx ok_X11_begin (mi 24 rfl) rfl rfl (fk f.1 0 rfl) (fr f.1 4 rfl) (fk f.1 3 rfl) (by decide) ?_
  refine ex_iload_n ok_X11_begin (mi 25 rfl) rfl ?_
  refine ex_iload_n ok_X11_begin (mi 26 rfl) rfl ?_
  refine ex_iasta (ws := []) (a := 807) (j := p1.toNatClampNeg) (v := p2) ok_X11_begin (mi 27 rfl) (fk f.1 3 rfl) (fn f.1 3 rfl) (vin_of (by rw [Int32.not_lt]; exact c1.1) c1.2.1 (by decide)) rfl rfl ?_
  refine ex_aload_n ok_X11_begin (mi 28 rfl) rfl ?_
  refine ex_dup ok_X11_begin (mi 29 rfl) rfl ?_
  refine ex_getIx ok_X11_begin (mi 30 rfl) rfl rfl (kq apq (fk f.1 0 rfl)) (apI0 (a := 0) rfl (fi f.2.2.1 206 rfl)) ?_
  refine ex_iconst ok_X11_begin (mi 31 rfl) ?_
  refine ex_iadd ok_X11_begin (mi 32 rfl) ?_
  refine ex_top (w := (nI 1)) (by decide) ?_
  refine ex_putIa (a := 0) (v := (nI 1)) ok_X11_begin (mi 33 rfl) rfl rfl (fk f.1 0 rfl) (by decide) ?_
  refine ex_aload ok_X11_begin (mi 34 rfl) rfl ?_
  refine ex_iload_n ok_X11_begin (mi 35 rfl) rfl ?_
  refine ex_iload_n ok_X11_begin (mi 36 rfl) rfl ?_
  refine ex_callVr (As := [_, _]) (v := none) (g1 := (ap x [(0, 7, 607, 0, (nI 0)), (0, 7, 606, 0, (nI 0)), (0, 7, 605, 0, p2), (0, 7, 604, 0, p1), (0, 7, 603, 0, (nI 0)), (0, 7, 602, 0, (nI 2)), (0, 7, 601, 0, (nI 0)), (0, 7, 600, 0, (nI 1)), (0, 1, 4, 0, (nI 3)), (0, 1, 6, 0, (nI 3)), (0, 5, 607, 0, (nI 0)), (0, 5, 606, 0, (nI 0)), (0, 5, 605, 0, p2), (0, 5, 604, 0, p1), (0, 5, 603, 0, (nI 0)), (0, 5, 602, 0, (nI 1)), (0, 5, 601, 0, (nI 0)), (0, 5, 600, 0, (nI 1)), (0, 1, 4, 0, (nI 2)), (0, 1, 6, 0, (nI 2)), (0, 3, 607, 0, (nI 0)), (0, 3, 606, 0, (nI 0)), (0, 3, 605, 0, p2), (0, 3, 604, 0, p1), (0, 3, 603, 0, (nI 0)), (0, 3, 602, 0, (nI 0)), (0, 3, 601, 0, (nI 0)), (0, 3, 600, 0, (nI 1)), (0, 1, 4, 0, (nI 1)), (0, 1, 6, 0, (nI 1)), (0, 815, 508, 0, p2), (0, 815, 507, 0, p1), (0, 815, 506, 0, (nI 1)), (0, 825, 105, 0, (nI 0)), (0, 825, 104, 0, (nI 0)), (0, 825, 103, 0, (nI 0)), (0, 825, 102, 0, (nI 0)), (0, 825, 101, 0, (nI 0)), (0, 825, 100, 0, (nI 0)), (2, 824, 0, 16, (nI 0)), (2, 823, 0, 16, (nI 0)), (2, 822, 0, 16, ((-1))), (2, 821, 0, 16, (nI 0)), (0, 815, 516, 0, (nI 0)), (0, 815, 515, 0, (nI 0)), (2, 817, 0, 16, ((-1))), (0, 815, 513, 0, (nI 0)), (0, 815, 512, 0, (nI 0)), (2, 816, 0, 10, (nI 0)), (0, 815, 510, 0, (nI 0)), (0, 815, 509, 0, (nI 0)), (0, 0, 1109, 0, (nI 1)), (1, 807, p1.toNatClampNeg, 0, p2)] h)) ok_X11_begin (mi 37 rfl) rfl ?c rfl (kq apq (fk f.1 11 rfl)) rfl rfl (by decide) (by decide) (Nat.le_of_ble_eq_true rfl) (by decide) ?_
  case c =>
    refine ex_M_of ok_X5_beginRound cw_X5_beginRound rfl hst (Nat.le_of_ble_eq_true rfl) ?_
    refine ex_aload_n ok_X5_beginRound (mi 0 rfl) rfl ?_
    refine ex_callVr (As := []) (v := none) (g1 := (ap x [(0, 825, 105, 0, (nI 0)), (0, 825, 104, 0, (nI 0)), (0, 825, 103, 0, (nI 0)), (0, 825, 102, 0, (nI 0)), (0, 825, 101, 0, (nI 0)), (0, 825, 100, 0, (nI 0)), (2, 824, 0, 16, (nI 0)), (2, 823, 0, 16, (nI 0)), (2, 822, 0, 16, ((-1))), (2, 821, 0, 16, (nI 0)), (0, 815, 516, 0, (nI 0)), (0, 815, 515, 0, (nI 0)), (2, 817, 0, 16, ((-1))), (0, 815, 513, 0, (nI 0)), (0, 815, 512, 0, (nI 0)), (2, 816, 0, 10, (nI 0)), (0, 815, 510, 0, (nI 0)), (0, 815, 509, 0, (nI 0)), (0, 0, 1109, 0, (nI 1)), (1, 807, p1.toNatClampNeg, 0, p2)] h)) ok_X5_beginRound (mi 1 rfl) rfl (mA_X5_forgetRound hst (sh_sub 815 f.1 (by decide +kernel) (by decide +kernel))) rfl (kq apq (fk f.1 11 rfl)) rfl rfl (by decide) (by decide) (Nat.le_of_ble_eq_true rfl) (by decide) ?_
    refine ex_aload_n ok_X5_beginRound (mi 2 rfl) rfl ?_
    refine ex_iconst ok_X5_beginRound (mi 3 rfl) ?_
    refine ex_putIa (a := 815) (v := (nI 1)) ok_X5_beginRound (mi 4 rfl) rfl rfl (fk f.1 11 rfl) (by decide) ?_
    refine ex_aload_n ok_X5_beginRound (mi 5 rfl) rfl ?_
    refine ex_iload_n ok_X5_beginRound (mi 6 rfl) rfl ?_
    refine ex_putIa (a := 815) (v := p1) ok_X5_beginRound (mi 7 rfl) rfl rfl (fk f.1 11 rfl) rfl ?_
    refine ex_aload_n ok_X5_beginRound (mi 8 rfl) rfl ?_
    refine ex_iload_n ok_X5_beginRound (mi 9 rfl) rfl ?_
    refine ex_putIa (a := 815) (v := p2) ok_X5_beginRound (mi 10 rfl) rfl rfl (fk f.1 11 rfl) rfl ?_
    refine ex_aload_n ok_X5_beginRound (mi 11 rfl) rfl ?_
    refine ex_getRx ok_X5_beginRound (mi 12 rfl) rfl rfl (kq apq (fk f.1 11 rfl)) (rq apq (fr f.1 24 rfl)) (kq apq (fk f.1 1 rfl)) (by decide) ?_
    refine ex_iconst ok_X5_beginRound (mi 13 rfl) ?_
    refine ex_aload_n ok_X5_beginRound (mi 14 rfl) rfl ?_
    refine ex_getIx ok_X5_beginRound (mi 15 rfl) rfl rfl (kq apq (fk f.1 11 rfl)) (apI0 (a := 815) rfl (fi f.2.2.1 0 rfl)) ?_
    refine ex_aload_n ok_X5_beginRound (mi 16 rfl) rfl ?_
    refine ex_getRx ok_X5_beginRound (mi 17 rfl) rfl rfl (kq apq (fk f.1 11 rfl)) (rq apq (fr f.1 14 rfl)) (kq apq (fk f.1 14 rfl)) (by decide) ?_
    refine ex_getIx ok_X5_beginRound (mi 18 rfl) rfl rfl (kq apq (fk f.1 14 rfl)) (apI0 (a := 818) rfl (fi f.2.2.1 41 rfl)) ?_
    refine ex_aload_n ok_X5_beginRound (mi 19 rfl) rfl ?_
    refine ex_getRx ok_X5_beginRound (mi 20 rfl) rfl rfl (kq apq (fk f.1 11 rfl)) (rq apq (fr f.1 14 rfl)) (kq apq (fk f.1 14 rfl)) (by decide) ?_
    refine ex_getIx ok_X5_beginRound (mi 21 rfl) rfl rfl (kq apq (fk f.1 14 rfl)) (apI0 (a := 818) rfl (fi f.2.2.1 40 rfl)) ?_
    refine ex_aload_n ok_X5_beginRound (mi 22 rfl) rfl ?_
    refine ex_getIx ok_X5_beginRound (mi 23 rfl) rfl rfl (kq apq (fk f.1 11 rfl)) (apI (a := 815) rfl) ?_
    refine ex_aload_n ok_X5_beginRound (mi 24 rfl) rfl ?_
    refine ex_getIx ok_X5_beginRound (mi 25 rfl) rfl rfl (kq apq (fk f.1 11 rfl)) (apI (a := 815) rfl) ?_
    refine ex_callVr (As := [_, _, _, _, _, _]) (v := none) (g1 := (ap x [(0, 7, 607, 0, (nI 0)), (0, 7, 606, 0, (nI 0)), (0, 7, 605, 0, p2), (0, 7, 604, 0, p1), (0, 7, 603, 0, (nI 0)), (0, 7, 602, 0, (nI 2)), (0, 7, 601, 0, (nI 0)), (0, 7, 600, 0, (nI 1)), (0, 1, 4, 0, (nI 3)), (0, 1, 6, 0, (nI 3)), (0, 5, 607, 0, (nI 0)), (0, 5, 606, 0, (nI 0)), (0, 5, 605, 0, p2), (0, 5, 604, 0, p1), (0, 5, 603, 0, (nI 0)), (0, 5, 602, 0, (nI 1)), (0, 5, 601, 0, (nI 0)), (0, 5, 600, 0, (nI 1)), (0, 1, 4, 0, (nI 2)), (0, 1, 6, 0, (nI 2)), (0, 3, 607, 0, (nI 0)), (0, 3, 606, 0, (nI 0)), (0, 3, 605, 0, p2), (0, 3, 604, 0, p1), (0, 3, 603, 0, (nI 0)), (0, 3, 602, 0, (nI 0)), (0, 3, 601, 0, (nI 0)), (0, 3, 600, 0, (nI 1)), (0, 1, 4, 0, (nI 1)), (0, 1, 6, 0, (nI 1)), (0, 815, 508, 0, p2), (0, 815, 507, 0, p1), (0, 815, 506, 0, (nI 1)), (0, 825, 105, 0, (nI 0)), (0, 825, 104, 0, (nI 0)), (0, 825, 103, 0, (nI 0)), (0, 825, 102, 0, (nI 0)), (0, 825, 101, 0, (nI 0)), (0, 825, 100, 0, (nI 0)), (2, 824, 0, 16, (nI 0)), (2, 823, 0, 16, (nI 0)), (2, 822, 0, 16, ((-1))), (2, 821, 0, 16, (nI 0)), (0, 815, 516, 0, (nI 0)), (0, 815, 515, 0, (nI 0)), (2, 817, 0, 16, ((-1))), (0, 815, 513, 0, (nI 0)), (0, 815, 512, 0, (nI 0)), (2, 816, 0, 10, (nI 0)), (0, 815, 510, 0, (nI 0)), (0, 815, 509, 0, (nI 0)), (0, 0, 1109, 0, (nI 1)), (1, 807, p1.toNatClampNeg, 0, p2)] h)) ok_X5_beginRound (mi 26 rfl) rfl ?c rfl (kq apq (fk f.1 1 rfl)) rfl rfl (by decide) (by decide) (Nat.le_of_ble_eq_true rfl) (by decide) ?_
    case c =>
      refine ex_M_of ok_X0_sendEach cw_X0_sendEach rfl hst (Nat.le_of_ble_eq_true rfl) ?_
      refine ex_iconst ok_X0_sendEach (mi 0 rfl) ?_
      refine ex_istore ok_X0_sendEach (mi 1 rfl) ?_
      refine ex_iload ok_X0_sendEach (mi 2 rfl) rfl ?_
      refine ex_bipush ok_X0_sendEach (mi 3 rfl) ?_
      refine ex_icmp_ge (tgt := 40) ok_X0_sendEach (mi 4 rfl) rfl (fun hn => absurd hn (by decide)) (fun _ => ?_)
      refine ex_iload_n ok_X0_sendEach (mi 5 rfl) rfl ?_
      refine ex_iload ok_X0_sendEach (mi 6 rfl) rfl ?_
      refine ex_ishr ok_X0_sendEach (mi 7 rfl) ?_
      refine ex_top (w := (nI 7)) (by decide) ?_
      refine ex_iconst ok_X0_sendEach (mi 8 rfl) ?_
      refine ex_iand ok_X0_sendEach (mi 9 rfl) ?_
      refine ex_top (w := (nI 1)) (by decide) ?_
      refine ex_if_eq (tgt := 34) ok_X0_sendEach (mi 10 rfl) rfl (fun hn => absurd hn (by decide)) (fun _ => ?_)
      refine ex_aload_n ok_X0_sendEach (mi 11 rfl) rfl ?_
      refine ex_iload_n ok_X0_sendEach (mi 12 rfl) rfl ?_
      refine ex_iload_n ok_X0_sendEach (mi 13 rfl) rfl ?_
      refine ex_iload ok_X0_sendEach (mi 14 rfl) rfl ?_
      refine ex_iload ok_X0_sendEach (mi 15 rfl) rfl ?_
      refine ex_iload ok_X0_sendEach (mi 16 rfl) rfl ?_
      refine ex_iload ok_X0_sendEach (mi 17 rfl) rfl ?_
      refine ex_callVr (As := [_, _, _, _, _, _]) (v := some (.ref (x + 3))) (g1 := (ap x [(0, 3, 607, 0, (nI 0)), (0, 3, 606, 0, (nI 0)), (0, 3, 605, 0, p2), (0, 3, 604, 0, p1), (0, 3, 603, 0, (nI 0)), (0, 3, 602, 0, (nI 0)), (0, 3, 601, 0, (nI 0)), (0, 3, 600, 0, (nI 1)), (0, 1, 4, 0, (nI 1)), (0, 1, 6, 0, (nI 1)), (0, 815, 508, 0, p2), (0, 815, 507, 0, p1), (0, 815, 506, 0, (nI 1)), (0, 825, 105, 0, (nI 0)), (0, 825, 104, 0, (nI 0)), (0, 825, 103, 0, (nI 0)), (0, 825, 102, 0, (nI 0)), (0, 825, 101, 0, (nI 0)), (0, 825, 100, 0, (nI 0)), (2, 824, 0, 16, (nI 0)), (2, 823, 0, 16, (nI 0)), (2, 822, 0, 16, ((-1))), (2, 821, 0, 16, (nI 0)), (0, 815, 516, 0, (nI 0)), (0, 815, 515, 0, (nI 0)), (2, 817, 0, 16, ((-1))), (0, 815, 513, 0, (nI 0)), (0, 815, 512, 0, (nI 0)), (2, 816, 0, 10, (nI 0)), (0, 815, 510, 0, (nI 0)), (0, 815, 509, 0, (nI 0)), (0, 0, 1109, 0, (nI 1)), (1, 807, p1.toNatClampNeg, 0, p2)] h)) ok_X0_sendEach (mi 18 rfl) rfl ?c rfl (kq apq (fk f.1 1 rfl)) rfl rfl (by decide) (by decide) (Nat.le_of_ble_eq_true rfl) (by decide) ?_
      case c =>
        refine ex_M_of ok_X0_send cw_X0_send rfl hst (Nat.le_of_ble_eq_true rfl) ?_
        refine ex_aload_n ok_X0_send (mi 0 rfl) rfl ?_
        refine ex_getRx ok_X0_send (mi 1 rfl) rfl rfl (kq apq (fk f.1 1 rfl)) (rq apq (fr f.1 2 rfl)) (kq apq (fk f.1 91 rfl)) (by decide) ?_
        refine ex_astore ok_X0_send (mi 2 rfl) ?_
        refine ex_aload_n ok_X0_send (mi 3 rfl) rfl ?_
        refine ex_dup ok_X0_send (mi 4 rfl) rfl ?_
        refine ex_getIx ok_X0_send (mi 5 rfl) rfl rfl (kq apq (fk f.1 1 rfl)) (apI0 (a := 1) rfl (fi f.2.2.1 33 rfl)) ?_
        refine ex_iconst ok_X0_send (mi 6 rfl) ?_
        refine ex_iadd ok_X0_send (mi 7 rfl) ?_
        refine ex_top (w := (nI 1)) (by decide) ?_
        refine ex_putIa (a := 1) (v := (nI 1)) ok_X0_send (mi 8 rfl) rfl rfl (fk f.1 1 rfl) (by decide) ?_
        refine ex_aload_n ok_X0_send (mi 9 rfl) rfl ?_
        refine ex_getIx ok_X0_send (mi 10 rfl) rfl rfl (kq apq (fk f.1 1 rfl)) (apI0 (a := 1) rfl (fi f.2.2.1 31 rfl)) ?_
        refine ex_sipush ok_X0_send (mi 11 rfl) ?_
        refine ex_icmp_ge (tgt := 59) ok_X0_send (mi 12 rfl) rfl (fun hn => absurd hn (by decide)) (fun _ => ?_)
        refine ex_aload_n ok_X0_send (mi 13 rfl) rfl ?_
        refine ex_getRx ok_X0_send (mi 14 rfl) rfl rfl (kq apq (fk f.1 1 rfl)) (rq apq (fr f.1 0 rfl)) (kq apq (fk f.1 2 rfl)) (by decide) ?_
        refine ex_aload_n ok_X0_send (mi 15 rfl) rfl ?_
        refine ex_getIx ok_X0_send (mi 16 rfl) rfl rfl (kq apq (fk f.1 1 rfl)) (apI0 (a := 1) rfl (fi f.2.2.1 30 rfl)) ?_
        refine ex_aload_n ok_X0_send (mi 17 rfl) rfl ?_
        refine ex_getIx ok_X0_send (mi 18 rfl) rfl rfl (kq apq (fk f.1 1 rfl)) (apI0 (a := 1) rfl (fi f.2.2.1 31 rfl)) ?_
        refine ex_iadd ok_X0_send (mi 19 rfl) ?_
        refine ex_top (w := (nI 0)) (by decide) ?_
        refine ex_sipush ok_X0_send (mi 20 rfl) ?_
        refine ex_irem ok_X0_send (mi 21 rfl) (by decide) ?_
        refine ex_top (w := (nI 0)) (by decide) ?_
        refine ex_aaldx (n := 0) ok_X0_send (mi 22 rfl) (by decide) (kq apq (fk f.1 2 rfl)) (nq apq (fn f.1 2 rfl)) (pk_in 0 400 (by decide)) (oq apq (fo f.2.1 24 rfl)) (kq apq (fk f.1 88 rfl)) (by decide) ?_
        refine ex_astore ok_X0_send (mi 23 rfl) ?_
        refine ex_aload_n ok_X0_send (mi 24 rfl) rfl ?_
        refine ex_dup ok_X0_send (mi 25 rfl) rfl ?_
        refine ex_getIx ok_X0_send (mi 26 rfl) rfl rfl (kq apq (fk f.1 1 rfl)) (apI0 (a := 1) rfl (fi f.2.2.1 31 rfl)) ?_
        refine ex_iconst ok_X0_send (mi 27 rfl) ?_
        refine ex_iadd ok_X0_send (mi 28 rfl) ?_
        refine ex_top (w := (nI 1)) (by decide) ?_
        refine ex_putIa (a := 1) (v := (nI 1)) ok_X0_send (mi 29 rfl) rfl rfl (fk f.1 1 rfl) (by decide) ?_
        refine ex_goto (tgt := 69) ok_X0_send (mi 30 rfl) rfl ?_
        refine ex_aload ok_X0_send (mi 37 rfl) rfl ?_
        refine ex_iload_n ok_X0_send (mi 38 rfl) rfl ?_
        refine ex_putIa (a := 3) (v := (nI 1)) ok_X0_send (mi 39 rfl) rfl rfl (fk f.1 88 rfl) (by decide) ?_
        refine ex_aload ok_X0_send (mi 40 rfl) rfl ?_
        refine ex_iload_n ok_X0_send (mi 41 rfl) rfl ?_
        refine ex_putIa (a := 3) (v := (nI 0)) ok_X0_send (mi 42 rfl) rfl rfl (fk f.1 88 rfl) (by decide) ?_
        refine ex_aload ok_X0_send (mi 43 rfl) rfl ?_
        refine ex_iload_n ok_X0_send (mi 44 rfl) rfl ?_
        refine ex_putIa (a := 3) (v := (nI 0)) ok_X0_send (mi 45 rfl) rfl rfl (fk f.1 88 rfl) (by decide) ?_
        refine ex_aload ok_X0_send (mi 46 rfl) rfl ?_
        refine ex_iload ok_X0_send (mi 47 rfl) rfl ?_
        refine ex_putIa (a := 3) (v := (nI 0)) ok_X0_send (mi 48 rfl) rfl rfl (fk f.1 88 rfl) (by decide) ?_
        refine ex_aload ok_X0_send (mi 49 rfl) rfl ?_
        refine ex_iload ok_X0_send (mi 50 rfl) rfl ?_
        refine ex_putIa (a := 3) (v := p1) ok_X0_send (mi 51 rfl) rfl rfl (fk f.1 88 rfl) rfl ?_
        refine ex_aload ok_X0_send (mi 52 rfl) rfl ?_
        refine ex_iload ok_X0_send (mi 53 rfl) rfl ?_
        refine ex_putIa (a := 3) (v := p2) ok_X0_send (mi 54 rfl) rfl rfl (fk f.1 88 rfl) rfl ?_
        refine ex_aload ok_X0_send (mi 55 rfl) rfl ?_
        refine ex_iconst ok_X0_send (mi 56 rfl) ?_
        refine ex_putIa (a := 3) (v := (nI 0)) ok_X0_send (mi 57 rfl) rfl rfl (fk f.1 88 rfl) (by decide) ?_
        refine ex_aload ok_X0_send (mi 58 rfl) rfl ?_
        refine ex_iconst ok_X0_send (mi 59 rfl) ?_
        refine ex_putIa (a := 3) (v := (nI 0)) ok_X0_send (mi 60 rfl) rfl rfl (fk f.1 88 rfl) (by decide) ?_
        refine ex_aload ok_X0_send (mi 61 rfl) rfl ?_
        refine ex_aret ok_X0_send (mi 62 rfl) rfl ?_
        exact ⟨rfl, rfl⟩
      refine ex_pop ok_X0_sendEach (mi 19 rfl) rfl ?_
      refine ex_iincx (w := (nI 1)) ok_X0_sendEach (mi 20 rfl) rfl (by decide) ?_
      refine ex_goto (tgt := 3) ok_X0_sendEach (mi 21 rfl) rfl ?_
      refine ex_ls (ls' := [(0, .ref (x + 1)), (1, .int (nI 1)), (2, .int (nI 0)), (3, .int (nI 7)), (4, .int (nI 0)), (5, .int p1), (6, .int p2), (7, .int (nI 1))]) ⟨rfl, rfl, rfl, rfl, rfl, rfl, rfl, rfl, trivial⟩ ?_
      refine ex_iload ok_X0_sendEach (mi 2 rfl) rfl ?_
      refine ex_bipush ok_X0_sendEach (mi 3 rfl) ?_
      refine ex_icmp_ge (tgt := 40) ok_X0_sendEach (mi 4 rfl) rfl (fun hn => absurd hn (by decide)) (fun _ => ?_)
      refine ex_iload_n ok_X0_sendEach (mi 5 rfl) rfl ?_
      refine ex_iload ok_X0_sendEach (mi 6 rfl) rfl ?_
      refine ex_ishr ok_X0_sendEach (mi 7 rfl) ?_
      refine ex_top (w := (nI 3)) (by decide) ?_
      refine ex_iconst ok_X0_sendEach (mi 8 rfl) ?_
      refine ex_iand ok_X0_sendEach (mi 9 rfl) ?_
      refine ex_top (w := (nI 1)) (by decide) ?_
      refine ex_if_eq (tgt := 34) ok_X0_sendEach (mi 10 rfl) rfl (fun hn => absurd hn (by decide)) (fun _ => ?_)
      refine ex_aload_n ok_X0_sendEach (mi 11 rfl) rfl ?_
      refine ex_iload_n ok_X0_sendEach (mi 12 rfl) rfl ?_
      refine ex_iload_n ok_X0_sendEach (mi 13 rfl) rfl ?_
      refine ex_iload ok_X0_sendEach (mi 14 rfl) rfl ?_
      refine ex_iload ok_X0_sendEach (mi 15 rfl) rfl ?_
      refine ex_iload ok_X0_sendEach (mi 16 rfl) rfl ?_
      refine ex_iload ok_X0_sendEach (mi 17 rfl) rfl ?_
      refine ex_callVr (As := [_, _, _, _, _, _]) (v := some (.ref (x + 5))) (g1 := (ap x [(0, 5, 607, 0, (nI 0)), (0, 5, 606, 0, (nI 0)), (0, 5, 605, 0, p2), (0, 5, 604, 0, p1), (0, 5, 603, 0, (nI 0)), (0, 5, 602, 0, (nI 1)), (0, 5, 601, 0, (nI 0)), (0, 5, 600, 0, (nI 1)), (0, 1, 4, 0, (nI 2)), (0, 1, 6, 0, (nI 2)), (0, 3, 607, 0, (nI 0)), (0, 3, 606, 0, (nI 0)), (0, 3, 605, 0, p2), (0, 3, 604, 0, p1), (0, 3, 603, 0, (nI 0)), (0, 3, 602, 0, (nI 0)), (0, 3, 601, 0, (nI 0)), (0, 3, 600, 0, (nI 1)), (0, 1, 4, 0, (nI 1)), (0, 1, 6, 0, (nI 1)), (0, 815, 508, 0, p2), (0, 815, 507, 0, p1), (0, 815, 506, 0, (nI 1)), (0, 825, 105, 0, (nI 0)), (0, 825, 104, 0, (nI 0)), (0, 825, 103, 0, (nI 0)), (0, 825, 102, 0, (nI 0)), (0, 825, 101, 0, (nI 0)), (0, 825, 100, 0, (nI 0)), (2, 824, 0, 16, (nI 0)), (2, 823, 0, 16, (nI 0)), (2, 822, 0, 16, ((-1))), (2, 821, 0, 16, (nI 0)), (0, 815, 516, 0, (nI 0)), (0, 815, 515, 0, (nI 0)), (2, 817, 0, 16, ((-1))), (0, 815, 513, 0, (nI 0)), (0, 815, 512, 0, (nI 0)), (2, 816, 0, 10, (nI 0)), (0, 815, 510, 0, (nI 0)), (0, 815, 509, 0, (nI 0)), (0, 0, 1109, 0, (nI 1)), (1, 807, p1.toNatClampNeg, 0, p2)] h)) ok_X0_sendEach (mi 18 rfl) rfl ?c rfl (kq apq (fk f.1 1 rfl)) rfl rfl (by decide) (by decide) (Nat.le_of_ble_eq_true rfl) (by decide) ?_
      case c =>
        refine ex_M_of ok_X0_send cw_X0_send rfl hst (Nat.le_of_ble_eq_true rfl) ?_
        refine ex_aload_n ok_X0_send (mi 0 rfl) rfl ?_
        refine ex_getRx ok_X0_send (mi 1 rfl) rfl rfl (kq apq (fk f.1 1 rfl)) (rq apq (fr f.1 2 rfl)) (kq apq (fk f.1 91 rfl)) (by decide) ?_
        refine ex_astore ok_X0_send (mi 2 rfl) ?_
        refine ex_aload_n ok_X0_send (mi 3 rfl) rfl ?_
        refine ex_dup ok_X0_send (mi 4 rfl) rfl ?_
        refine ex_getIx ok_X0_send (mi 5 rfl) rfl rfl (kq apq (fk f.1 1 rfl)) (apI (a := 1) rfl) ?_
        refine ex_iconst ok_X0_send (mi 6 rfl) ?_
        refine ex_iadd ok_X0_send (mi 7 rfl) ?_
        refine ex_top (w := (nI 2)) (by decide) ?_
        refine ex_putIa (a := 1) (v := (nI 2)) ok_X0_send (mi 8 rfl) rfl rfl (fk f.1 1 rfl) (by decide) ?_
        refine ex_aload_n ok_X0_send (mi 9 rfl) rfl ?_
        refine ex_getIx ok_X0_send (mi 10 rfl) rfl rfl (kq apq (fk f.1 1 rfl)) (apI (a := 1) rfl) ?_
        refine ex_sipush ok_X0_send (mi 11 rfl) ?_
        refine ex_icmp_ge (tgt := 59) ok_X0_send (mi 12 rfl) rfl (fun hn => absurd hn (by decide)) (fun _ => ?_)
        refine ex_aload_n ok_X0_send (mi 13 rfl) rfl ?_
        refine ex_getRx ok_X0_send (mi 14 rfl) rfl rfl (kq apq (fk f.1 1 rfl)) (rq apq (fr f.1 0 rfl)) (kq apq (fk f.1 2 rfl)) (by decide) ?_
        refine ex_aload_n ok_X0_send (mi 15 rfl) rfl ?_
        refine ex_getIx ok_X0_send (mi 16 rfl) rfl rfl (kq apq (fk f.1 1 rfl)) (apI0 (a := 1) rfl (fi f.2.2.1 30 rfl)) ?_
        refine ex_aload_n ok_X0_send (mi 17 rfl) rfl ?_
        refine ex_getIx ok_X0_send (mi 18 rfl) rfl rfl (kq apq (fk f.1 1 rfl)) (apI (a := 1) rfl) ?_
        refine ex_iadd ok_X0_send (mi 19 rfl) ?_
        refine ex_top (w := (nI 1)) (by decide) ?_
        refine ex_sipush ok_X0_send (mi 20 rfl) ?_
        refine ex_irem ok_X0_send (mi 21 rfl) (by decide) ?_
        refine ex_top (w := (nI 1)) (by decide) ?_
        refine ex_aaldx (n := 0) ok_X0_send (mi 22 rfl) (by decide) (kq apq (fk f.1 2 rfl)) (nq apq (fn f.1 2 rfl)) (pk_in 1 400 (by decide)) (oq apq (fo f.2.1 25 rfl)) (kq apq (fk f.1 89 rfl)) (by decide) ?_
        refine ex_astore ok_X0_send (mi 23 rfl) ?_
        refine ex_aload_n ok_X0_send (mi 24 rfl) rfl ?_
        refine ex_dup ok_X0_send (mi 25 rfl) rfl ?_
        refine ex_getIx ok_X0_send (mi 26 rfl) rfl rfl (kq apq (fk f.1 1 rfl)) (apI (a := 1) rfl) ?_
        refine ex_iconst ok_X0_send (mi 27 rfl) ?_
        refine ex_iadd ok_X0_send (mi 28 rfl) ?_
        refine ex_top (w := (nI 2)) (by decide) ?_
        refine ex_putIa (a := 1) (v := (nI 2)) ok_X0_send (mi 29 rfl) rfl rfl (fk f.1 1 rfl) (by decide) ?_
        refine ex_goto (tgt := 69) ok_X0_send (mi 30 rfl) rfl ?_
        refine ex_aload ok_X0_send (mi 37 rfl) rfl ?_
        refine ex_iload_n ok_X0_send (mi 38 rfl) rfl ?_
        refine ex_putIa (a := 5) (v := (nI 1)) ok_X0_send (mi 39 rfl) rfl rfl (fk f.1 89 rfl) (by decide) ?_
        refine ex_aload ok_X0_send (mi 40 rfl) rfl ?_
        refine ex_iload_n ok_X0_send (mi 41 rfl) rfl ?_
        refine ex_putIa (a := 5) (v := (nI 0)) ok_X0_send (mi 42 rfl) rfl rfl (fk f.1 89 rfl) (by decide) ?_
        refine ex_aload ok_X0_send (mi 43 rfl) rfl ?_
        refine ex_iload_n ok_X0_send (mi 44 rfl) rfl ?_
        refine ex_putIa (a := 5) (v := (nI 1)) ok_X0_send (mi 45 rfl) rfl rfl (fk f.1 89 rfl) (by decide) ?_
        refine ex_aload ok_X0_send (mi 46 rfl) rfl ?_
        refine ex_iload ok_X0_send (mi 47 rfl) rfl ?_
        refine ex_putIa (a := 5) (v := (nI 0)) ok_X0_send (mi 48 rfl) rfl rfl (fk f.1 89 rfl) (by decide) ?_
        refine ex_aload ok_X0_send (mi 49 rfl) rfl ?_
        refine ex_iload ok_X0_send (mi 50 rfl) rfl ?_
        refine ex_putIa (a := 5) (v := p1) ok_X0_send (mi 51 rfl) rfl rfl (fk f.1 89 rfl) rfl ?_
        refine ex_aload ok_X0_send (mi 52 rfl) rfl ?_
        refine ex_iload ok_X0_send (mi 53 rfl) rfl ?_
        refine ex_putIa (a := 5) (v := p2) ok_X0_send (mi 54 rfl) rfl rfl (fk f.1 89 rfl) rfl ?_
        refine ex_aload ok_X0_send (mi 55 rfl) rfl ?_
        refine ex_iconst ok_X0_send (mi 56 rfl) ?_
        refine ex_putIa (a := 5) (v := (nI 0)) ok_X0_send (mi 57 rfl) rfl rfl (fk f.1 89 rfl) (by decide) ?_
        refine ex_aload ok_X0_send (mi 58 rfl) rfl ?_
        refine ex_iconst ok_X0_send (mi 59 rfl) ?_
        refine ex_putIa (a := 5) (v := (nI 0)) ok_X0_send (mi 60 rfl) rfl rfl (fk f.1 89 rfl) (by decide) ?_
        refine ex_aload ok_X0_send (mi 61 rfl) rfl ?_
        refine ex_aret ok_X0_send (mi 62 rfl) rfl ?_
        exact ⟨rfl, rfl⟩
      refine ex_pop ok_X0_sendEach (mi 19 rfl) rfl ?_
      refine ex_iincx (w := (nI 2)) ok_X0_sendEach (mi 20 rfl) rfl (by decide) ?_
      refine ex_goto (tgt := 3) ok_X0_sendEach (mi 21 rfl) rfl ?_
      refine ex_ls (ls' := [(0, .ref (x + 1)), (1, .int (nI 1)), (2, .int (nI 0)), (3, .int (nI 7)), (4, .int (nI 0)), (5, .int p1), (6, .int p2), (7, .int (nI 2))]) ⟨rfl, rfl, rfl, rfl, rfl, rfl, rfl, rfl, trivial⟩ ?_
      refine ex_iload ok_X0_sendEach (mi 2 rfl) rfl ?_
      refine ex_bipush ok_X0_sendEach (mi 3 rfl) ?_
      refine ex_icmp_ge (tgt := 40) ok_X0_sendEach (mi 4 rfl) rfl (fun hn => absurd hn (by decide)) (fun _ => ?_)
      refine ex_iload_n ok_X0_sendEach (mi 5 rfl) rfl ?_
      refine ex_iload ok_X0_sendEach (mi 6 rfl) rfl ?_
      refine ex_ishr ok_X0_sendEach (mi 7 rfl) ?_
      refine ex_top (w := (nI 1)) (by decide) ?_
      refine ex_iconst ok_X0_sendEach (mi 8 rfl) ?_
      refine ex_iand ok_X0_sendEach (mi 9 rfl) ?_
      refine ex_top (w := (nI 1)) (by decide) ?_
      refine ex_if_eq (tgt := 34) ok_X0_sendEach (mi 10 rfl) rfl (fun hn => absurd hn (by decide)) (fun _ => ?_)
      refine ex_aload_n ok_X0_sendEach (mi 11 rfl) rfl ?_
      refine ex_iload_n ok_X0_sendEach (mi 12 rfl) rfl ?_
      refine ex_iload_n ok_X0_sendEach (mi 13 rfl) rfl ?_
      refine ex_iload ok_X0_sendEach (mi 14 rfl) rfl ?_
      refine ex_iload ok_X0_sendEach (mi 15 rfl) rfl ?_
      refine ex_iload ok_X0_sendEach (mi 16 rfl) rfl ?_
      refine ex_iload ok_X0_sendEach (mi 17 rfl) rfl ?_
      refine ex_callVr (As := [_, _, _, _, _, _]) (v := some (.ref (x + 7))) (g1 := (ap x [(0, 7, 607, 0, (nI 0)), (0, 7, 606, 0, (nI 0)), (0, 7, 605, 0, p2), (0, 7, 604, 0, p1), (0, 7, 603, 0, (nI 0)), (0, 7, 602, 0, (nI 2)), (0, 7, 601, 0, (nI 0)), (0, 7, 600, 0, (nI 1)), (0, 1, 4, 0, (nI 3)), (0, 1, 6, 0, (nI 3)), (0, 5, 607, 0, (nI 0)), (0, 5, 606, 0, (nI 0)), (0, 5, 605, 0, p2), (0, 5, 604, 0, p1), (0, 5, 603, 0, (nI 0)), (0, 5, 602, 0, (nI 1)), (0, 5, 601, 0, (nI 0)), (0, 5, 600, 0, (nI 1)), (0, 1, 4, 0, (nI 2)), (0, 1, 6, 0, (nI 2)), (0, 3, 607, 0, (nI 0)), (0, 3, 606, 0, (nI 0)), (0, 3, 605, 0, p2), (0, 3, 604, 0, p1), (0, 3, 603, 0, (nI 0)), (0, 3, 602, 0, (nI 0)), (0, 3, 601, 0, (nI 0)), (0, 3, 600, 0, (nI 1)), (0, 1, 4, 0, (nI 1)), (0, 1, 6, 0, (nI 1)), (0, 815, 508, 0, p2), (0, 815, 507, 0, p1), (0, 815, 506, 0, (nI 1)), (0, 825, 105, 0, (nI 0)), (0, 825, 104, 0, (nI 0)), (0, 825, 103, 0, (nI 0)), (0, 825, 102, 0, (nI 0)), (0, 825, 101, 0, (nI 0)), (0, 825, 100, 0, (nI 0)), (2, 824, 0, 16, (nI 0)), (2, 823, 0, 16, (nI 0)), (2, 822, 0, 16, ((-1))), (2, 821, 0, 16, (nI 0)), (0, 815, 516, 0, (nI 0)), (0, 815, 515, 0, (nI 0)), (2, 817, 0, 16, ((-1))), (0, 815, 513, 0, (nI 0)), (0, 815, 512, 0, (nI 0)), (2, 816, 0, 10, (nI 0)), (0, 815, 510, 0, (nI 0)), (0, 815, 509, 0, (nI 0)), (0, 0, 1109, 0, (nI 1)), (1, 807, p1.toNatClampNeg, 0, p2)] h)) ok_X0_sendEach (mi 18 rfl) rfl ?c rfl (kq apq (fk f.1 1 rfl)) rfl rfl (by decide) (by decide) (Nat.le_of_ble_eq_true rfl) (by decide) ?_
      case c =>
        refine ex_M_of ok_X0_send cw_X0_send rfl hst (Nat.le_of_ble_eq_true rfl) ?_
        refine ex_aload_n ok_X0_send (mi 0 rfl) rfl ?_
        refine ex_getRx ok_X0_send (mi 1 rfl) rfl rfl (kq apq (fk f.1 1 rfl)) (rq apq (fr f.1 2 rfl)) (kq apq (fk f.1 91 rfl)) (by decide) ?_
        refine ex_astore ok_X0_send (mi 2 rfl) ?_
        refine ex_aload_n ok_X0_send (mi 3 rfl) rfl ?_
        refine ex_dup ok_X0_send (mi 4 rfl) rfl ?_
        refine ex_getIx ok_X0_send (mi 5 rfl) rfl rfl (kq apq (fk f.1 1 rfl)) (apI (a := 1) rfl) ?_
        refine ex_iconst ok_X0_send (mi 6 rfl) ?_
        refine ex_iadd ok_X0_send (mi 7 rfl) ?_
        refine ex_top (w := (nI 3)) (by decide) ?_
        refine ex_putIa (a := 1) (v := (nI 3)) ok_X0_send (mi 8 rfl) rfl rfl (fk f.1 1 rfl) (by decide) ?_
        refine ex_aload_n ok_X0_send (mi 9 rfl) rfl ?_
        refine ex_getIx ok_X0_send (mi 10 rfl) rfl rfl (kq apq (fk f.1 1 rfl)) (apI (a := 1) rfl) ?_
        refine ex_sipush ok_X0_send (mi 11 rfl) ?_
        refine ex_icmp_ge (tgt := 59) ok_X0_send (mi 12 rfl) rfl (fun hn => absurd hn (by decide)) (fun _ => ?_)
        refine ex_aload_n ok_X0_send (mi 13 rfl) rfl ?_
        refine ex_getRx ok_X0_send (mi 14 rfl) rfl rfl (kq apq (fk f.1 1 rfl)) (rq apq (fr f.1 0 rfl)) (kq apq (fk f.1 2 rfl)) (by decide) ?_
        refine ex_aload_n ok_X0_send (mi 15 rfl) rfl ?_
        refine ex_getIx ok_X0_send (mi 16 rfl) rfl rfl (kq apq (fk f.1 1 rfl)) (apI0 (a := 1) rfl (fi f.2.2.1 30 rfl)) ?_
        refine ex_aload_n ok_X0_send (mi 17 rfl) rfl ?_
        refine ex_getIx ok_X0_send (mi 18 rfl) rfl rfl (kq apq (fk f.1 1 rfl)) (apI (a := 1) rfl) ?_
        refine ex_iadd ok_X0_send (mi 19 rfl) ?_
        refine ex_top (w := (nI 2)) (by decide) ?_
        refine ex_sipush ok_X0_send (mi 20 rfl) ?_
        refine ex_irem ok_X0_send (mi 21 rfl) (by decide) ?_
        refine ex_top (w := (nI 2)) (by decide) ?_
        refine ex_aaldx (n := 0) ok_X0_send (mi 22 rfl) (by decide) (kq apq (fk f.1 2 rfl)) (nq apq (fn f.1 2 rfl)) (pk_in 2 400 (by decide)) (oq apq (fo f.2.1 26 rfl)) (kq apq (fk f.1 90 rfl)) (by decide) ?_
        refine ex_astore ok_X0_send (mi 23 rfl) ?_
        refine ex_aload_n ok_X0_send (mi 24 rfl) rfl ?_
        refine ex_dup ok_X0_send (mi 25 rfl) rfl ?_
        refine ex_getIx ok_X0_send (mi 26 rfl) rfl rfl (kq apq (fk f.1 1 rfl)) (apI (a := 1) rfl) ?_
        refine ex_iconst ok_X0_send (mi 27 rfl) ?_
        refine ex_iadd ok_X0_send (mi 28 rfl) ?_
        refine ex_top (w := (nI 3)) (by decide) ?_
        refine ex_putIa (a := 1) (v := (nI 3)) ok_X0_send (mi 29 rfl) rfl rfl (fk f.1 1 rfl) (by decide) ?_
        refine ex_goto (tgt := 69) ok_X0_send (mi 30 rfl) rfl ?_
        refine ex_aload ok_X0_send (mi 37 rfl) rfl ?_
        refine ex_iload_n ok_X0_send (mi 38 rfl) rfl ?_
        refine ex_putIa (a := 7) (v := (nI 1)) ok_X0_send (mi 39 rfl) rfl rfl (fk f.1 90 rfl) (by decide) ?_
        refine ex_aload ok_X0_send (mi 40 rfl) rfl ?_
        refine ex_iload_n ok_X0_send (mi 41 rfl) rfl ?_
        refine ex_putIa (a := 7) (v := (nI 0)) ok_X0_send (mi 42 rfl) rfl rfl (fk f.1 90 rfl) (by decide) ?_
        refine ex_aload ok_X0_send (mi 43 rfl) rfl ?_
        refine ex_iload_n ok_X0_send (mi 44 rfl) rfl ?_
        refine ex_putIa (a := 7) (v := (nI 2)) ok_X0_send (mi 45 rfl) rfl rfl (fk f.1 90 rfl) (by decide) ?_
        refine ex_aload ok_X0_send (mi 46 rfl) rfl ?_
        refine ex_iload ok_X0_send (mi 47 rfl) rfl ?_
        refine ex_putIa (a := 7) (v := (nI 0)) ok_X0_send (mi 48 rfl) rfl rfl (fk f.1 90 rfl) (by decide) ?_
        refine ex_aload ok_X0_send (mi 49 rfl) rfl ?_
        refine ex_iload ok_X0_send (mi 50 rfl) rfl ?_
        refine ex_putIa (a := 7) (v := p1) ok_X0_send (mi 51 rfl) rfl rfl (fk f.1 90 rfl) rfl ?_
        refine ex_aload ok_X0_send (mi 52 rfl) rfl ?_
        refine ex_iload ok_X0_send (mi 53 rfl) rfl ?_
        refine ex_putIa (a := 7) (v := p2) ok_X0_send (mi 54 rfl) rfl rfl (fk f.1 90 rfl) rfl ?_
        refine ex_aload ok_X0_send (mi 55 rfl) rfl ?_
        refine ex_iconst ok_X0_send (mi 56 rfl) ?_
        refine ex_putIa (a := 7) (v := (nI 0)) ok_X0_send (mi 57 rfl) rfl rfl (fk f.1 90 rfl) (by decide) ?_
        refine ex_aload ok_X0_send (mi 58 rfl) rfl ?_
        refine ex_iconst ok_X0_send (mi 59 rfl) ?_
        refine ex_putIa (a := 7) (v := (nI 0)) ok_X0_send (mi 60 rfl) rfl rfl (fk f.1 90 rfl) (by decide) ?_
        refine ex_aload ok_X0_send (mi 61 rfl) rfl ?_
        refine ex_aret ok_X0_send (mi 62 rfl) rfl ?_
        exact ⟨rfl, rfl⟩
      refine ex_pop ok_X0_sendEach (mi 19 rfl) rfl ?_
      refine ex_iincx (w := (nI 3)) ok_X0_sendEach (mi 20 rfl) rfl (by decide) ?_
      refine ex_goto (tgt := 3) ok_X0_sendEach (mi 21 rfl) rfl ?_
      refine ex_ls (ls' := [(0, .ref (x + 1)), (1, .int (nI 1)), (2, .int (nI 0)), (3, .int (nI 7)), (4, .int (nI 0)), (5, .int p1), (6, .int p2), (7, .int (nI 3))]) ⟨rfl, rfl, rfl, rfl, rfl, rfl, rfl, rfl, trivial⟩ ?_
      refine ex_iload ok_X0_sendEach (mi 2 rfl) rfl ?_
      refine ex_bipush ok_X0_sendEach (mi 3 rfl) ?_
      refine ex_icmp_ge (tgt := 40) ok_X0_sendEach (mi 4 rfl) rfl (fun hn => absurd hn (by decide)) (fun _ => ?_)
      refine ex_iload_n ok_X0_sendEach (mi 5 rfl) rfl ?_
      refine ex_iload ok_X0_sendEach (mi 6 rfl) rfl ?_
      refine ex_ishr ok_X0_sendEach (mi 7 rfl) ?_
      refine ex_top (w := (nI 0)) (by decide) ?_
      refine ex_iconst ok_X0_sendEach (mi 8 rfl) ?_
      refine ex_iand ok_X0_sendEach (mi 9 rfl) ?_
      refine ex_top (w := (nI 0)) (by decide) ?_
      refine ex_if_eq (tgt := 34) ok_X0_sendEach (mi 10 rfl) rfl (fun _ => ?_) (fun hn => absurd (by decide) hn)
      refine ex_iincx (w := (nI 4)) ok_X0_sendEach (mi 20 rfl) rfl (by decide) ?_
      refine ex_goto (tgt := 3) ok_X0_sendEach (mi 21 rfl) rfl ?_
      refine ex_ls (ls' := [(0, .ref (x + 1)), (1, .int (nI 1)), (2, .int (nI 0)), (3, .int (nI 7)), (4, .int (nI 0)), (5, .int p1), (6, .int p2), (7, .int (nI 4))]) ⟨rfl, rfl, rfl, rfl, rfl, rfl, rfl, rfl, trivial⟩ ?_
      refine ex_iload ok_X0_sendEach (mi 2 rfl) rfl ?_
      refine ex_bipush ok_X0_sendEach (mi 3 rfl) ?_
      refine ex_icmp_ge (tgt := 40) ok_X0_sendEach (mi 4 rfl) rfl (fun hn => absurd hn (by decide)) (fun _ => ?_)
      refine ex_iload_n ok_X0_sendEach (mi 5 rfl) rfl ?_
      refine ex_iload ok_X0_sendEach (mi 6 rfl) rfl ?_
      refine ex_ishr ok_X0_sendEach (mi 7 rfl) ?_
      refine ex_top (w := (nI 0)) (by decide) ?_
      refine ex_iconst ok_X0_sendEach (mi 8 rfl) ?_
      refine ex_iand ok_X0_sendEach (mi 9 rfl) ?_
      refine ex_top (w := (nI 0)) (by decide) ?_
      refine ex_if_eq (tgt := 34) ok_X0_sendEach (mi 10 rfl) rfl (fun _ => ?_) (fun hn => absurd (by decide) hn)
      refine ex_iincx (w := (nI 5)) ok_X0_sendEach (mi 20 rfl) rfl (by decide) ?_
      refine ex_goto (tgt := 3) ok_X0_sendEach (mi 21 rfl) rfl ?_
      refine ex_ls (ls' := [(0, .ref (x + 1)), (1, .int (nI 1)), (2, .int (nI 0)), (3, .int (nI 7)), (4, .int (nI 0)), (5, .int p1), (6, .int p2), (7, .int (nI 5))]) ⟨rfl, rfl, rfl, rfl, rfl, rfl, rfl, rfl, trivial⟩ ?_
      refine ex_iload ok_X0_sendEach (mi 2 rfl) rfl ?_
      refine ex_bipush ok_X0_sendEach (mi 3 rfl) ?_
      refine ex_icmp_ge (tgt := 40) ok_X0_sendEach (mi 4 rfl) rfl (fun hn => absurd hn (by decide)) (fun _ => ?_)
      refine ex_iload_n ok_X0_sendEach (mi 5 rfl) rfl ?_
      refine ex_iload ok_X0_sendEach (mi 6 rfl) rfl ?_
      refine ex_ishr ok_X0_sendEach (mi 7 rfl) ?_
      refine ex_top (w := (nI 0)) (by decide) ?_
      refine ex_iconst ok_X0_sendEach (mi 8 rfl) ?_
      refine ex_iand ok_X0_sendEach (mi 9 rfl) ?_
      refine ex_top (w := (nI 0)) (by decide) ?_
      refine ex_if_eq (tgt := 34) ok_X0_sendEach (mi 10 rfl) rfl (fun _ => ?_) (fun hn => absurd (by decide) hn)
      refine ex_iincx (w := (nI 6)) ok_X0_sendEach (mi 20 rfl) rfl (by decide) ?_
      refine ex_goto (tgt := 3) ok_X0_sendEach (mi 21 rfl) rfl ?_
      refine ex_ls (ls' := [(0, .ref (x + 1)), (1, .int (nI 1)), (2, .int (nI 0)), (3, .int (nI 7)), (4, .int (nI 0)), (5, .int p1), (6, .int p2), (7, .int (nI 6))]) ⟨rfl, rfl, rfl, rfl, rfl, rfl, rfl, rfl, trivial⟩ ?_
      refine ex_iload ok_X0_sendEach (mi 2 rfl) rfl ?_
      refine ex_bipush ok_X0_sendEach (mi 3 rfl) ?_
      refine ex_icmp_ge (tgt := 40) ok_X0_sendEach (mi 4 rfl) rfl (fun hn => absurd hn (by decide)) (fun _ => ?_)
      refine ex_iload_n ok_X0_sendEach (mi 5 rfl) rfl ?_
      refine ex_iload ok_X0_sendEach (mi 6 rfl) rfl ?_
      refine ex_ishr ok_X0_sendEach (mi 7 rfl) ?_
      refine ex_top (w := (nI 0)) (by decide) ?_
      refine ex_iconst ok_X0_sendEach (mi 8 rfl) ?_
      refine ex_iand ok_X0_sendEach (mi 9 rfl) ?_
      refine ex_top (w := (nI 0)) (by decide) ?_
      refine ex_if_eq (tgt := 34) ok_X0_sendEach (mi 10 rfl) rfl (fun _ => ?_) (fun hn => absurd (by decide) hn)
      refine ex_iincx (w := (nI 7)) ok_X0_sendEach (mi 20 rfl) rfl (by decide) ?_
      refine ex_goto (tgt := 3) ok_X0_sendEach (mi 21 rfl) rfl ?_
      refine ex_ls (ls' := [(0, .ref (x + 1)), (1, .int (nI 1)), (2, .int (nI 0)), (3, .int (nI 7)), (4, .int (nI 0)), (5, .int p1), (6, .int p2), (7, .int (nI 7))]) ⟨rfl, rfl, rfl, rfl, rfl, rfl, rfl, rfl, trivial⟩ ?_
      refine ex_iload ok_X0_sendEach (mi 2 rfl) rfl ?_
      refine ex_bipush ok_X0_sendEach (mi 3 rfl) ?_
      refine ex_icmp_ge (tgt := 40) ok_X0_sendEach (mi 4 rfl) rfl (fun hn => absurd hn (by decide)) (fun _ => ?_)
      refine ex_iload_n ok_X0_sendEach (mi 5 rfl) rfl ?_
      refine ex_iload ok_X0_sendEach (mi 6 rfl) rfl ?_
      refine ex_ishr ok_X0_sendEach (mi 7 rfl) ?_
      refine ex_top (w := (nI 0)) (by decide) ?_
      refine ex_iconst ok_X0_sendEach (mi 8 rfl) ?_
      refine ex_iand ok_X0_sendEach (mi 9 rfl) ?_
      refine ex_top (w := (nI 0)) (by decide) ?_
      refine ex_if_eq (tgt := 34) ok_X0_sendEach (mi 10 rfl) rfl (fun _ => ?_) (fun hn => absurd (by decide) hn)
      refine ex_iincx (w := (nI 8)) ok_X0_sendEach (mi 20 rfl) rfl (by decide) ?_
      refine ex_goto (tgt := 3) ok_X0_sendEach (mi 21 rfl) rfl ?_
      refine ex_ls (ls' := [(0, .ref (x + 1)), (1, .int (nI 1)), (2, .int (nI 0)), (3, .int (nI 7)), (4, .int (nI 0)), (5, .int p1), (6, .int p2), (7, .int (nI 8))]) ⟨rfl, rfl, rfl, rfl, rfl, rfl, rfl, rfl, trivial⟩ ?_
      refine ex_iload ok_X0_sendEach (mi 2 rfl) rfl ?_
      refine ex_bipush ok_X0_sendEach (mi 3 rfl) ?_
      refine ex_icmp_ge (tgt := 40) ok_X0_sendEach (mi 4 rfl) rfl (fun hn => absurd hn (by decide)) (fun _ => ?_)
      refine ex_iload_n ok_X0_sendEach (mi 5 rfl) rfl ?_
      refine ex_iload ok_X0_sendEach (mi 6 rfl) rfl ?_
      refine ex_ishr ok_X0_sendEach (mi 7 rfl) ?_
      refine ex_top (w := (nI 0)) (by decide) ?_
      refine ex_iconst ok_X0_sendEach (mi 8 rfl) ?_
      refine ex_iand ok_X0_sendEach (mi 9 rfl) ?_
      refine ex_top (w := (nI 0)) (by decide) ?_
      refine ex_if_eq (tgt := 34) ok_X0_sendEach (mi 10 rfl) rfl (fun _ => ?_) (fun hn => absurd (by decide) hn)
      refine ex_iincx (w := (nI 9)) ok_X0_sendEach (mi 20 rfl) rfl (by decide) ?_
      refine ex_goto (tgt := 3) ok_X0_sendEach (mi 21 rfl) rfl ?_
      refine ex_ls (ls' := [(0, .ref (x + 1)), (1, .int (nI 1)), (2, .int (nI 0)), (3, .int (nI 7)), (4, .int (nI 0)), (5, .int p1), (6, .int p2), (7, .int (nI 9))]) ⟨rfl, rfl, rfl, rfl, rfl, rfl, rfl, rfl, trivial⟩ ?_
      refine ex_iload ok_X0_sendEach (mi 2 rfl) rfl ?_
      refine ex_bipush ok_X0_sendEach (mi 3 rfl) ?_
      refine ex_icmp_ge (tgt := 40) ok_X0_sendEach (mi 4 rfl) rfl (fun hn => absurd hn (by decide)) (fun _ => ?_)
      refine ex_iload_n ok_X0_sendEach (mi 5 rfl) rfl ?_
      refine ex_iload ok_X0_sendEach (mi 6 rfl) rfl ?_
      refine ex_ishr ok_X0_sendEach (mi 7 rfl) ?_
      refine ex_top (w := (nI 0)) (by decide) ?_
      refine ex_iconst ok_X0_sendEach (mi 8 rfl) ?_
      refine ex_iand ok_X0_sendEach (mi 9 rfl) ?_
      refine ex_top (w := (nI 0)) (by decide) ?_
      refine ex_if_eq (tgt := 34) ok_X0_sendEach (mi 10 rfl) rfl (fun _ => ?_) (fun hn => absurd (by decide) hn)
      refine ex_iincx (w := (nI 10)) ok_X0_sendEach (mi 20 rfl) rfl (by decide) ?_
      refine ex_goto (tgt := 3) ok_X0_sendEach (mi 21 rfl) rfl ?_
      refine ex_ls (ls' := [(0, .ref (x + 1)), (1, .int (nI 1)), (2, .int (nI 0)), (3, .int (nI 7)), (4, .int (nI 0)), (5, .int p1), (6, .int p2), (7, .int (nI 10))]) ⟨rfl, rfl, rfl, rfl, rfl, rfl, rfl, rfl, trivial⟩ ?_
      refine ex_iload ok_X0_sendEach (mi 2 rfl) rfl ?_
      refine ex_bipush ok_X0_sendEach (mi 3 rfl) ?_
      refine ex_icmp_ge (tgt := 40) ok_X0_sendEach (mi 4 rfl) rfl (fun hn => absurd hn (by decide)) (fun _ => ?_)
      refine ex_iload_n ok_X0_sendEach (mi 5 rfl) rfl ?_
      refine ex_iload ok_X0_sendEach (mi 6 rfl) rfl ?_
      refine ex_ishr ok_X0_sendEach (mi 7 rfl) ?_
      refine ex_top (w := (nI 0)) (by decide) ?_
      refine ex_iconst ok_X0_sendEach (mi 8 rfl) ?_
      refine ex_iand ok_X0_sendEach (mi 9 rfl) ?_
      refine ex_top (w := (nI 0)) (by decide) ?_
      refine ex_if_eq (tgt := 34) ok_X0_sendEach (mi 10 rfl) rfl (fun _ => ?_) (fun hn => absurd (by decide) hn)
      refine ex_iincx (w := (nI 11)) ok_X0_sendEach (mi 20 rfl) rfl (by decide) ?_
      refine ex_goto (tgt := 3) ok_X0_sendEach (mi 21 rfl) rfl ?_
      refine ex_ls (ls' := [(0, .ref (x + 1)), (1, .int (nI 1)), (2, .int (nI 0)), (3, .int (nI 7)), (4, .int (nI 0)), (5, .int p1), (6, .int p2), (7, .int (nI 11))]) ⟨rfl, rfl, rfl, rfl, rfl, rfl, rfl, rfl, trivial⟩ ?_
      refine ex_iload ok_X0_sendEach (mi 2 rfl) rfl ?_
      refine ex_bipush ok_X0_sendEach (mi 3 rfl) ?_
      refine ex_icmp_ge (tgt := 40) ok_X0_sendEach (mi 4 rfl) rfl (fun hn => absurd hn (by decide)) (fun _ => ?_)
      refine ex_iload_n ok_X0_sendEach (mi 5 rfl) rfl ?_
      refine ex_iload ok_X0_sendEach (mi 6 rfl) rfl ?_
      refine ex_ishr ok_X0_sendEach (mi 7 rfl) ?_
      refine ex_top (w := (nI 0)) (by decide) ?_
      refine ex_iconst ok_X0_sendEach (mi 8 rfl) ?_
      refine ex_iand ok_X0_sendEach (mi 9 rfl) ?_
      refine ex_top (w := (nI 0)) (by decide) ?_
      refine ex_if_eq (tgt := 34) ok_X0_sendEach (mi 10 rfl) rfl (fun _ => ?_) (fun hn => absurd (by decide) hn)
      refine ex_iincx (w := (nI 12)) ok_X0_sendEach (mi 20 rfl) rfl (by decide) ?_
      refine ex_goto (tgt := 3) ok_X0_sendEach (mi 21 rfl) rfl ?_
      refine ex_ls (ls' := [(0, .ref (x + 1)), (1, .int (nI 1)), (2, .int (nI 0)), (3, .int (nI 7)), (4, .int (nI 0)), (5, .int p1), (6, .int p2), (7, .int (nI 12))]) ⟨rfl, rfl, rfl, rfl, rfl, rfl, rfl, rfl, trivial⟩ ?_
      refine ex_iload ok_X0_sendEach (mi 2 rfl) rfl ?_
      refine ex_bipush ok_X0_sendEach (mi 3 rfl) ?_
      refine ex_icmp_ge (tgt := 40) ok_X0_sendEach (mi 4 rfl) rfl (fun _ => ?_) (fun hn => absurd (by decide) hn)
      refine ex_vret ok_X0_sendEach (mi 22 rfl) rfl ?_
      exact ⟨rfl, rfl⟩
    refine ex_vret ok_X5_beginRound (mi 27 rfl) rfl ?_
    exact ⟨rfl, rfl⟩
  refine ex_aload_n ok_X11_begin (mi 38 rfl) rfl ?_
  refine ex_getRx ok_X11_begin (mi 39 rfl) rfl rfl (kq apq (fk f.1 0 rfl)) (rq apq (fr f.1 3 rfl)) (kq apq (fk f.1 1 rfl)) (by decide) ?_
  refine ex_getIx ok_X11_begin (mi 40 rfl) rfl rfl (kq apq (fk f.1 1 rfl)) (apI (a := 1) rfl) ?_
  refine ex_iret ok_X11_begin (mi 41 rfl) rfl ?_
  exact ⟨Or.inl ⟨rfl, inlI (by decide)⟩, (kp_ap rfl)⟩
