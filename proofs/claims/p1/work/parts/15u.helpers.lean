/-! ===== the law's helpers ===== -/
theorem l_begin0 {G : GE} (hst : (ge_l G).stackTraces = false) {x o : Nat} {h : GT} {p0 p1 p2 : Int32} {v : Int32} (c : CC G 7 4 24 my_X11_begin x [.int p0, .int p1, .int p2] E3 0 v) (f : FR h x) (ho : x + 892 ≤ o) (hk : gx_K h o = 51) (hn : gx_N h o = 1) : ex_MH G 8 4 24 my_L_begin [.ref x, .int p0, .int p1, .int p2, .ref o] h (fun r h' => ∃ z, r = .inl z ∧ LPh x o 0 v h z h') := by
  refine ex_MH_of ok_L_begin cw_L_begin hst (Nat.le_of_ble_eq_true rfl) ?_
  refine ex_aload ok_L_begin (mi 0 rfl) rfl ?_
  refine ex_iconst ok_L_begin (mi 1 rfl) ?_
  refine ex_aload_n ok_L_begin (mi 2 rfl) rfl ?_
  refine ex_iload_n ok_L_begin (mi 3 rfl) rfl ?_
  refine ex_iload_n ok_L_begin (mi 4 rfl) rfl ?_
  refine ex_iload_n ok_L_begin (mi 5 rfl) rfl ?_
  refine ex_callVHs (As := [_, _, _]) ok_L_begin (mi 6 rfl) rfl (c h f) rfl (by decide) (by decide) rfl (fk f.1 0 rfl) (Nat.le_of_ble_eq_true rfl) (by decide) (fun v' g' q => ?_) (fun E' g' q => ?_)
  · obtain ⟨q1 | q1, q2⟩ := q
    · obtain ⟨-, q1⟩ := q1
      cases q1
      refine ex_i2l ok_L_begin (mi 7 rfl) ?_
      refine ex_last ok_L_begin (mi 8 rfl) ((q2.2 o (Or.inr ho)).1.trans hk) (by rw [(q2.2 o (Or.inr ho)).2.1.trans hn]; exact pk_in 0 1 (by decide)) ?_
      refine ex_goto (tgt := 27) ok_L_begin (mi 9 rfl) rfl ?_
      refine ex_iconst ok_L_begin (mi 19 rfl) ?_
      refine ex_iret ok_L_begin (mi 20 rfl) rfl ?_
      exact ⟨_, rfl, LPh0 (v := v) q2 ho hk hn⟩
    · exact absurd rfl q1.1
  · obtain ⟨q1 | q1, q2⟩ := q
    · cases q1.2
    · exact absurd rfl q1.1
theorem l_begin1 {G : GE} (hst : (ge_l G).stackTraces = false) {x o : Nat} {h : GT} {p0 p1 p2 : Int32} {v : Int32} (c : CC G 7 4 24 my_X11_begin x [.int p0, .int p1, .int p2] E3 1 v) (f : FR h x) (ho : x + 892 ≤ o) (hk : gx_K h o = 51) (hn : gx_N h o = 1) : ex_MH G 8 4 24 my_L_begin [.ref x, .int p0, .int p1, .int p2, .ref o] h (fun r h' => ∃ z, r = .inl z ∧ LPh x o 1 v h z h') := by
  refine ex_MH_of ok_L_begin cw_L_begin hst (Nat.le_of_ble_eq_true rfl) ?_
  refine ex_aload ok_L_begin (mi 0 rfl) rfl ?_
  refine ex_iconst ok_L_begin (mi 1 rfl) ?_
  refine ex_aload_n ok_L_begin (mi 2 rfl) rfl ?_
  refine ex_iload_n ok_L_begin (mi 3 rfl) rfl ?_
  refine ex_iload_n ok_L_begin (mi 4 rfl) rfl ?_
  refine ex_iload_n ok_L_begin (mi 5 rfl) rfl ?_
  refine ex_callVHs (As := [_, _, _]) ok_L_begin (mi 6 rfl) rfl (c h f) rfl (by decide) (by decide) rfl (fk f.1 0 rfl) (Nat.le_of_ble_eq_true rfl) (by decide) (fun v' g' q => ?_) (fun E' g' q => ?_)
  · obtain ⟨q1 | q1, q2⟩ := q
    · exact absurd q1.1 (by decide)
    · cases q1.2
  · obtain ⟨q1 | q1, q2⟩ := q
    · exact absurd q1.1 (by decide)
    · refine ⟨100, [], (0, 12, 15, 13), [(0, 12, 19, 15), (0, 12, 23, 17)], by cases q1.2; rfl, by decide +kernel, fun q => ?_⟩
      refine ex_astore ok_L_begin (mi 10 rfl) ?_
      refine ex_iconst ok_L_begin (mi 11 rfl) ?_
      refine ex_iret ok_L_begin (mi 12 rfl) rfl ?_
      exact ⟨_, rfl, LPhk (by decide) q2 ho hk hn⟩
theorem l_begin2 {G : GE} (hst : (ge_l G).stackTraces = false) {x o : Nat} {h : GT} {p0 p1 p2 : Int32} {v : Int32} (c : CC G 7 4 24 my_X11_begin x [.int p0, .int p1, .int p2] E3 2 v) (f : FR h x) (ho : x + 892 ≤ o) (hk : gx_K h o = 51) (hn : gx_N h o = 1) : ex_MH G 8 4 24 my_L_begin [.ref x, .int p0, .int p1, .int p2, .ref o] h (fun r h' => ∃ z, r = .inl z ∧ LPh x o 2 v h z h') := by
  refine ex_MH_of ok_L_begin cw_L_begin hst (Nat.le_of_ble_eq_true rfl) ?_
  refine ex_aload ok_L_begin (mi 0 rfl) rfl ?_
  refine ex_iconst ok_L_begin (mi 1 rfl) ?_
  refine ex_aload_n ok_L_begin (mi 2 rfl) rfl ?_
  refine ex_iload_n ok_L_begin (mi 3 rfl) rfl ?_
  refine ex_iload_n ok_L_begin (mi 4 rfl) rfl ?_
  refine ex_iload_n ok_L_begin (mi 5 rfl) rfl ?_
  refine ex_callVHs (As := [_, _, _]) ok_L_begin (mi 6 rfl) rfl (c h f) rfl (by decide) (by decide) rfl (fk f.1 0 rfl) (Nat.le_of_ble_eq_true rfl) (by decide) (fun v' g' q => ?_) (fun E' g' q => ?_)
  · obtain ⟨q1 | q1, q2⟩ := q
    · exact absurd q1.1 (by decide)
    · cases q1.2
  · obtain ⟨q1 | q1, q2⟩ := q
    · exact absurd q1.1 (by decide)
    · refine ⟨101, [((0, 12, 15, 13), 100)], (0, 12, 19, 15), [(0, 12, 23, 17)], by cases q1.2; rfl, by decide +kernel, fun q => ?_⟩
      refine ex_astore ok_L_begin (mi 13 rfl) ?_
      refine ex_iconst ok_L_begin (mi 14 rfl) ?_
      refine ex_iret ok_L_begin (mi 15 rfl) rfl ?_
      exact ⟨_, rfl, LPhk (by decide) q2 ho hk hn⟩
theorem l_propose0 {G : GE} (hst : (ge_l G).stackTraces = false) {x o : Nat} {h : GT} {p0 p1 : Int32} {v : Int32} (c : CC G 4 4 24 my_X11_propose x [.int p0, .int p1] E3 0 v) (f : FR h x) (ho : x + 892 ≤ o) (hk : gx_K h o = 51) (hn : gx_N h o = 1) : ex_MH G 5 4 24 my_L_propose [.ref x, .int p0, .int p1, .ref o] h (fun r h' => ∃ z, r = .inl z ∧ LPh x o 0 v h z h') := by
  refine ex_MH_of ok_L_propose cw_L_propose hst (Nat.le_of_ble_eq_true rfl) ?_
  refine ex_aload_n ok_L_propose (mi 0 rfl) rfl ?_
  refine ex_iconst ok_L_propose (mi 1 rfl) ?_
  refine ex_aload_n ok_L_propose (mi 2 rfl) rfl ?_
  refine ex_iload_n ok_L_propose (mi 3 rfl) rfl ?_
  refine ex_iload_n ok_L_propose (mi 4 rfl) rfl ?_
  refine ex_callVHs (As := [_, _]) ok_L_propose (mi 5 rfl) rfl (c h f) rfl (by decide) (by decide) rfl (fk f.1 0 rfl) (Nat.le_of_ble_eq_true rfl) (by decide) (fun v' g' q => ?_) (fun E' g' q => ?_)
  · obtain ⟨q1 | q1, q2⟩ := q
    · obtain ⟨-, q1⟩ := q1
      cases q1
      refine ex_i2l ok_L_propose (mi 6 rfl) ?_
      refine ex_last ok_L_propose (mi 7 rfl) ((q2.2 o (Or.inr ho)).1.trans hk) (by rw [(q2.2 o (Or.inr ho)).2.1.trans hn]; exact pk_in 0 1 (by decide)) ?_
      refine ex_goto (tgt := 25) ok_L_propose (mi 8 rfl) rfl ?_
      refine ex_iconst ok_L_propose (mi 18 rfl) ?_
      refine ex_iret ok_L_propose (mi 19 rfl) rfl ?_
      exact ⟨_, rfl, LPh0 (v := v) q2 ho hk hn⟩
    · exact absurd rfl q1.1
  · obtain ⟨q1 | q1, q2⟩ := q
    · cases q1.2
    · exact absurd rfl q1.1
theorem l_propose1 {G : GE} (hst : (ge_l G).stackTraces = false) {x o : Nat} {h : GT} {p0 p1 : Int32} {v : Int32} (c : CC G 4 4 24 my_X11_propose x [.int p0, .int p1] E3 1 v) (f : FR h x) (ho : x + 892 ≤ o) (hk : gx_K h o = 51) (hn : gx_N h o = 1) : ex_MH G 5 4 24 my_L_propose [.ref x, .int p0, .int p1, .ref o] h (fun r h' => ∃ z, r = .inl z ∧ LPh x o 1 v h z h') := by
  refine ex_MH_of ok_L_propose cw_L_propose hst (Nat.le_of_ble_eq_true rfl) ?_
  refine ex_aload_n ok_L_propose (mi 0 rfl) rfl ?_
  refine ex_iconst ok_L_propose (mi 1 rfl) ?_
  refine ex_aload_n ok_L_propose (mi 2 rfl) rfl ?_
  refine ex_iload_n ok_L_propose (mi 3 rfl) rfl ?_
  refine ex_iload_n ok_L_propose (mi 4 rfl) rfl ?_
  refine ex_callVHs (As := [_, _]) ok_L_propose (mi 5 rfl) rfl (c h f) rfl (by decide) (by decide) rfl (fk f.1 0 rfl) (Nat.le_of_ble_eq_true rfl) (by decide) (fun v' g' q => ?_) (fun E' g' q => ?_)
  · obtain ⟨q1 | q1, q2⟩ := q
    · exact absurd q1.1 (by decide)
    · cases q1.2
  · obtain ⟨q1 | q1, q2⟩ := q
    · exact absurd q1.1 (by decide)
    · refine ⟨100, [], (0, 10, 13, 13), [(0, 10, 17, 15), (0, 10, 21, 17)], by cases q1.2; rfl, by decide +kernel, fun q => ?_⟩
      refine ex_astore ok_L_propose (mi 9 rfl) ?_
      refine ex_iconst ok_L_propose (mi 10 rfl) ?_
      refine ex_iret ok_L_propose (mi 11 rfl) rfl ?_
      exact ⟨_, rfl, LPhk (by decide) q2 ho hk hn⟩
theorem l_propose2 {G : GE} (hst : (ge_l G).stackTraces = false) {x o : Nat} {h : GT} {p0 p1 : Int32} {v : Int32} (c : CC G 4 4 24 my_X11_propose x [.int p0, .int p1] E3 2 v) (f : FR h x) (ho : x + 892 ≤ o) (hk : gx_K h o = 51) (hn : gx_N h o = 1) : ex_MH G 5 4 24 my_L_propose [.ref x, .int p0, .int p1, .ref o] h (fun r h' => ∃ z, r = .inl z ∧ LPh x o 2 v h z h') := by
  refine ex_MH_of ok_L_propose cw_L_propose hst (Nat.le_of_ble_eq_true rfl) ?_
  refine ex_aload_n ok_L_propose (mi 0 rfl) rfl ?_
  refine ex_iconst ok_L_propose (mi 1 rfl) ?_
  refine ex_aload_n ok_L_propose (mi 2 rfl) rfl ?_
  refine ex_iload_n ok_L_propose (mi 3 rfl) rfl ?_
  refine ex_iload_n ok_L_propose (mi 4 rfl) rfl ?_
  refine ex_callVHs (As := [_, _]) ok_L_propose (mi 5 rfl) rfl (c h f) rfl (by decide) (by decide) rfl (fk f.1 0 rfl) (Nat.le_of_ble_eq_true rfl) (by decide) (fun v' g' q => ?_) (fun E' g' q => ?_)
  · obtain ⟨q1 | q1, q2⟩ := q
    · exact absurd q1.1 (by decide)
    · cases q1.2
  · obtain ⟨q1 | q1, q2⟩ := q
    · exact absurd q1.1 (by decide)
    · refine ⟨101, [((0, 10, 13, 13), 100)], (0, 10, 17, 15), [(0, 10, 21, 17)], by cases q1.2; rfl, by decide +kernel, fun q => ?_⟩
      refine ex_astore ok_L_propose (mi 12 rfl) ?_
      refine ex_iconst ok_L_propose (mi 13 rfl) ?_
      refine ex_iret ok_L_propose (mi 14 rfl) rfl ?_
      exact ⟨_, rfl, LPhk (by decide) q2 ho hk hn⟩
theorem l_collect0 {G : GE} (hst : (ge_l G).stackTraces = false) {x o : Nat} {h : GT} {p0 : Int32} (c : CC G 4 4 24 my_X11_collect x [.int p0] E2 0 (nI 0)) (f : FR h x) (ho : x + 892 ≤ o) (hk : gx_K h o = 51) (hn : gx_N h o = 1) : ex_MH G 5 4 24 my_L_collect [.ref x, .int p0, .ref o] h (fun r h' => ∃ z, r = .inl z ∧ LPh x o 0 (nI 0) h z h') := by
  refine ex_MH_of ok_L_collect cw_L_collect hst (Nat.le_of_ble_eq_true rfl) ?_
  refine ex_aload_n ok_L_collect (mi 0 rfl) rfl ?_
  refine ex_iconst ok_L_collect (mi 1 rfl) ?_
  refine ex_aload_n ok_L_collect (mi 2 rfl) rfl ?_
  refine ex_iload_n ok_L_collect (mi 3 rfl) rfl ?_
  refine ex_callVHs (As := [_]) ok_L_collect (mi 4 rfl) rfl (c h f) rfl (by decide) (by decide) rfl (fk f.1 0 rfl) (Nat.le_of_ble_eq_true rfl) (by decide) (fun v' g' q => ?_) (fun E' g' q => ?_)
  · obtain ⟨q1 | q1, q2⟩ := q
    · obtain ⟨-, q1⟩ := q1
      cases q1
      refine ex_if_eq (tgt := 14) ok_L_collect (mi 5 rfl) rfl (fun _ => ?_) (fun hn => absurd (by decide) hn)
      refine ex_lconst ok_L_collect (mi 8 rfl) ?_
      refine ex_last ok_L_collect (mi 9 rfl) ((q2.2 o (Or.inr ho)).1.trans hk) (by rw [(q2.2 o (Or.inr ho)).2.1.trans hn]; exact pk_in 0 1 (by decide)) ?_
      refine ex_goto (tgt := 25) ok_L_collect (mi 10 rfl) rfl ?_
      refine ex_iconst ok_L_collect (mi 17 rfl) ?_
      refine ex_iret ok_L_collect (mi 18 rfl) rfl ?_
      exact ⟨_, rfl, LPh0 (v := (nI 0)) q2 ho hk hn⟩
    · exact absurd rfl q1.1
  · obtain ⟨q1 | q1, q2⟩ := q
    · cases q1.2
    · exact absurd rfl q1.1
theorem l_collect1 {G : GE} (hst : (ge_l G).stackTraces = false) {x o : Nat} {h : GT} {p0 : Int32} {v : Int32} (c : CC G 4 4 24 my_X11_collect x [.int p0] E2 1 v) (f : FR h x) (ho : x + 892 ≤ o) (hk : gx_K h o = 51) (hn : gx_N h o = 1) : ex_MH G 5 4 24 my_L_collect [.ref x, .int p0, .ref o] h (fun r h' => ∃ z, r = .inl z ∧ LPh x o 1 v h z h') := by
  refine ex_MH_of ok_L_collect cw_L_collect hst (Nat.le_of_ble_eq_true rfl) ?_
  refine ex_aload_n ok_L_collect (mi 0 rfl) rfl ?_
  refine ex_iconst ok_L_collect (mi 1 rfl) ?_
  refine ex_aload_n ok_L_collect (mi 2 rfl) rfl ?_
  refine ex_iload_n ok_L_collect (mi 3 rfl) rfl ?_
  refine ex_callVHs (As := [_]) ok_L_collect (mi 4 rfl) rfl (c h f) rfl (by decide) (by decide) rfl (fk f.1 0 rfl) (Nat.le_of_ble_eq_true rfl) (by decide) (fun v' g' q => ?_) (fun E' g' q => ?_)
  · obtain ⟨q1 | q1, q2⟩ := q
    · exact absurd q1.1 (by decide)
    · cases q1.2
  · obtain ⟨q1 | q1, q2⟩ := q
    · exact absurd q1.1 (by decide)
    · refine ⟨100, [], (0, 16, 19, 13), [(0, 16, 22, 17)], by cases q1.2; rfl, by decide +kernel, fun q => ?_⟩
      refine ex_astore_n ok_L_collect (mi 11 rfl) ?_
      refine ex_iconst ok_L_collect (mi 12 rfl) ?_
      refine ex_iret ok_L_collect (mi 13 rfl) rfl ?_
      exact ⟨_, rfl, LPhk (by decide) q2 ho hk hn⟩
theorem l_reform0 {G : GE} (hst : (ge_l G).stackTraces = false) {x o : Nat} {h : GT} {p0 p1 p2 : Int32} {v : Int32} (c : CC G 6 4 24 my_X11_reform x [.int p0, .int p1, .int p2] E3 0 v) (f : FR h x) (ho : x + 892 ≤ o) (hk : gx_K h o = 51) (hn : gx_N h o = 1) : ex_MH G 7 4 24 my_L_reform [.ref x, .int p0, .int p1, .int p2, .ref o] h (fun r h' => ∃ z, r = .inl z ∧ LPh x o 0 v h z h') := by
  refine ex_MH_of ok_L_reform cw_L_reform hst (Nat.le_of_ble_eq_true rfl) ?_
  refine ex_aload ok_L_reform (mi 0 rfl) rfl ?_
  refine ex_iconst ok_L_reform (mi 1 rfl) ?_
  refine ex_aload_n ok_L_reform (mi 2 rfl) rfl ?_
  refine ex_iload_n ok_L_reform (mi 3 rfl) rfl ?_
  refine ex_iload_n ok_L_reform (mi 4 rfl) rfl ?_
  refine ex_iload_n ok_L_reform (mi 5 rfl) rfl ?_
  refine ex_callVHs (As := [_, _, _]) ok_L_reform (mi 6 rfl) rfl (c h f) rfl (by decide) (by decide) rfl (fk f.1 0 rfl) (Nat.le_of_ble_eq_true rfl) (by decide) (fun v' g' q => ?_) (fun E' g' q => ?_)
  · obtain ⟨q1 | q1, q2⟩ := q
    · obtain ⟨-, q1⟩ := q1
      cases q1
      refine ex_i2l ok_L_reform (mi 7 rfl) ?_
      refine ex_last ok_L_reform (mi 8 rfl) ((q2.2 o (Or.inr ho)).1.trans hk) (by rw [(q2.2 o (Or.inr ho)).2.1.trans hn]; exact pk_in 0 1 (by decide)) ?_
      refine ex_goto (tgt := 27) ok_L_reform (mi 9 rfl) rfl ?_
      refine ex_iconst ok_L_reform (mi 19 rfl) ?_
      refine ex_iret ok_L_reform (mi 20 rfl) rfl ?_
      exact ⟨_, rfl, LPh0 (v := v) q2 ho hk hn⟩
    · exact absurd rfl q1.1
  · obtain ⟨q1 | q1, q2⟩ := q
    · cases q1.2
    · exact absurd rfl q1.1
theorem l_reform1 {G : GE} (hst : (ge_l G).stackTraces = false) {x o : Nat} {h : GT} {p0 p1 p2 : Int32} {v : Int32} (c : CC G 6 4 24 my_X11_reform x [.int p0, .int p1, .int p2] E3 1 v) (f : FR h x) (ho : x + 892 ≤ o) (hk : gx_K h o = 51) (hn : gx_N h o = 1) : ex_MH G 7 4 24 my_L_reform [.ref x, .int p0, .int p1, .int p2, .ref o] h (fun r h' => ∃ z, r = .inl z ∧ LPh x o 1 v h z h') := by
  refine ex_MH_of ok_L_reform cw_L_reform hst (Nat.le_of_ble_eq_true rfl) ?_
  refine ex_aload ok_L_reform (mi 0 rfl) rfl ?_
  refine ex_iconst ok_L_reform (mi 1 rfl) ?_
  refine ex_aload_n ok_L_reform (mi 2 rfl) rfl ?_
  refine ex_iload_n ok_L_reform (mi 3 rfl) rfl ?_
  refine ex_iload_n ok_L_reform (mi 4 rfl) rfl ?_
  refine ex_iload_n ok_L_reform (mi 5 rfl) rfl ?_
  refine ex_callVHs (As := [_, _, _]) ok_L_reform (mi 6 rfl) rfl (c h f) rfl (by decide) (by decide) rfl (fk f.1 0 rfl) (Nat.le_of_ble_eq_true rfl) (by decide) (fun v' g' q => ?_) (fun E' g' q => ?_)
  · obtain ⟨q1 | q1, q2⟩ := q
    · exact absurd q1.1 (by decide)
    · cases q1.2
  · obtain ⟨q1 | q1, q2⟩ := q
    · exact absurd q1.1 (by decide)
    · refine ⟨100, [], (0, 12, 15, 13), [(0, 12, 19, 15), (0, 12, 23, 17)], by cases q1.2; rfl, by decide +kernel, fun q => ?_⟩
      refine ex_astore ok_L_reform (mi 10 rfl) ?_
      refine ex_iconst ok_L_reform (mi 11 rfl) ?_
      refine ex_iret ok_L_reform (mi 12 rfl) rfl ?_
      exact ⟨_, rfl, LPhk (by decide) q2 ho hk hn⟩
theorem l_reform2 {G : GE} (hst : (ge_l G).stackTraces = false) {x o : Nat} {h : GT} {p0 p1 p2 : Int32} {v : Int32} (c : CC G 6 4 24 my_X11_reform x [.int p0, .int p1, .int p2] E3 2 v) (f : FR h x) (ho : x + 892 ≤ o) (hk : gx_K h o = 51) (hn : gx_N h o = 1) : ex_MH G 7 4 24 my_L_reform [.ref x, .int p0, .int p1, .int p2, .ref o] h (fun r h' => ∃ z, r = .inl z ∧ LPh x o 2 v h z h') := by
  refine ex_MH_of ok_L_reform cw_L_reform hst (Nat.le_of_ble_eq_true rfl) ?_
  refine ex_aload ok_L_reform (mi 0 rfl) rfl ?_
  refine ex_iconst ok_L_reform (mi 1 rfl) ?_
  refine ex_aload_n ok_L_reform (mi 2 rfl) rfl ?_
  refine ex_iload_n ok_L_reform (mi 3 rfl) rfl ?_
  refine ex_iload_n ok_L_reform (mi 4 rfl) rfl ?_
  refine ex_iload_n ok_L_reform (mi 5 rfl) rfl ?_
  refine ex_callVHs (As := [_, _, _]) ok_L_reform (mi 6 rfl) rfl (c h f) rfl (by decide) (by decide) rfl (fk f.1 0 rfl) (Nat.le_of_ble_eq_true rfl) (by decide) (fun v' g' q => ?_) (fun E' g' q => ?_)
  · obtain ⟨q1 | q1, q2⟩ := q
    · exact absurd q1.1 (by decide)
    · cases q1.2
  · obtain ⟨q1 | q1, q2⟩ := q
    · exact absurd q1.1 (by decide)
    · refine ⟨101, [((0, 12, 15, 13), 100)], (0, 12, 19, 15), [(0, 12, 23, 17)], by cases q1.2; rfl, by decide +kernel, fun q => ?_⟩
      refine ex_astore ok_L_reform (mi 13 rfl) ?_
      refine ex_iconst ok_L_reform (mi 14 rfl) ?_
      refine ex_iret ok_L_reform (mi 15 rfl) rfl ?_
      exact ⟨_, rfl, LPhk (by decide) q2 ho hk hn⟩
theorem l_again0 {G : GE} (hst : (ge_l G).stackTraces = false) {x o : Nat} {h : GT} {p0 : Int32} {v : Int32} (c : CC G 5 4 24 my_X11_again x [.int p0] E2 0 v) (f : FR h x) (ho : x + 892 ≤ o) (hk : gx_K h o = 51) (hn : gx_N h o = 1) : ex_MH G 6 4 24 my_L_again [.ref x, .int p0, .ref o] h (fun r h' => ∃ z, r = .inl z ∧ LPh x o 0 v h z h') := by
  refine ex_MH_of ok_L_again cw_L_again hst (Nat.le_of_ble_eq_true rfl) ?_
  refine ex_aload_n ok_L_again (mi 0 rfl) rfl ?_
  refine ex_iconst ok_L_again (mi 1 rfl) ?_
  refine ex_aload_n ok_L_again (mi 2 rfl) rfl ?_
  refine ex_iload_n ok_L_again (mi 3 rfl) rfl ?_
  refine ex_callVHs (As := [_]) ok_L_again (mi 4 rfl) rfl (c h f) rfl (by decide) (by decide) rfl (fk f.1 0 rfl) (Nat.le_of_ble_eq_true rfl) (by decide) (fun v' g' q => ?_) (fun E' g' q => ?_)
  · obtain ⟨q1 | q1, q2⟩ := q
    · obtain ⟨-, q1⟩ := q1
      cases q1
      refine ex_i2l ok_L_again (mi 5 rfl) ?_
      refine ex_last ok_L_again (mi 6 rfl) ((q2.2 o (Or.inr ho)).1.trans hk) (by rw [(q2.2 o (Or.inr ho)).2.1.trans hn]; exact pk_in 0 1 (by decide)) ?_
      refine ex_goto (tgt := 18) ok_L_again (mi 7 rfl) rfl ?_
      refine ex_iconst ok_L_again (mi 14 rfl) ?_
      refine ex_iret ok_L_again (mi 15 rfl) rfl ?_
      exact ⟨_, rfl, LPh0 (v := v) q2 ho hk hn⟩
    · exact absurd rfl q1.1
  · obtain ⟨q1 | q1, q2⟩ := q
    · cases q1.2
    · exact absurd rfl q1.1
theorem l_again1 {G : GE} (hst : (ge_l G).stackTraces = false) {x o : Nat} {h : GT} {p0 : Int32} {v : Int32} (c : CC G 5 4 24 my_X11_again x [.int p0] E2 1 v) (f : FR h x) (ho : x + 892 ≤ o) (hk : gx_K h o = 51) (hn : gx_N h o = 1) : ex_MH G 6 4 24 my_L_again [.ref x, .int p0, .ref o] h (fun r h' => ∃ z, r = .inl z ∧ LPh x o 1 v h z h') := by
  refine ex_MH_of ok_L_again cw_L_again hst (Nat.le_of_ble_eq_true rfl) ?_
  refine ex_aload_n ok_L_again (mi 0 rfl) rfl ?_
  refine ex_iconst ok_L_again (mi 1 rfl) ?_
  refine ex_aload_n ok_L_again (mi 2 rfl) rfl ?_
  refine ex_iload_n ok_L_again (mi 3 rfl) rfl ?_
  refine ex_callVHs (As := [_]) ok_L_again (mi 4 rfl) rfl (c h f) rfl (by decide) (by decide) rfl (fk f.1 0 rfl) (Nat.le_of_ble_eq_true rfl) (by decide) (fun v' g' q => ?_) (fun E' g' q => ?_)
  · obtain ⟨q1 | q1, q2⟩ := q
    · exact absurd q1.1 (by decide)
    · cases q1.2
  · obtain ⟨q1 | q1, q2⟩ := q
    · exact absurd q1.1 (by decide)
    · refine ⟨100, [], (0, 9, 12, 13), [(0, 9, 15, 17)], by cases q1.2; rfl, by decide +kernel, fun q => ?_⟩
      refine ex_astore_n ok_L_again (mi 8 rfl) ?_
      refine ex_iconst ok_L_again (mi 9 rfl) ?_
      refine ex_iret ok_L_again (mi 10 rfl) rfl ?_
      exact ⟨_, rfl, LPhk (by decide) q2 ho hk hn⟩
theorem l_deliver1 {G : GE} (hst : (ge_l G).stackTraces = false) {x o : Nat} {h : GT} {p0 : Int32} {v : Int32} (c : CC G 8 4 24 my_X11_deliver x [.int p0] E3 1 v) (f : FR h x) (ho : x + 892 ≤ o) (hk : gx_K h o = 51) (hn : gx_N h o = 1) : ex_MH G 9 4 24 my_L_deliver [.ref x, .int p0, .ref o] h (fun r h' => ∃ z, r = .inl z ∧ LPh x o 1 v h z h') := by
  refine ex_MH_of ok_L_deliver cw_L_deliver hst (Nat.le_of_ble_eq_true rfl) ?_
  refine ex_aload_n ok_L_deliver (mi 0 rfl) rfl ?_
  refine ex_iconst ok_L_deliver (mi 1 rfl) ?_
  refine ex_aload_n ok_L_deliver (mi 2 rfl) rfl ?_
  refine ex_iload_n ok_L_deliver (mi 3 rfl) rfl ?_
  refine ex_callVHs (As := [_]) ok_L_deliver (mi 4 rfl) rfl (c h f) rfl (by decide) (by decide) rfl (fk f.1 0 rfl) (Nat.le_of_ble_eq_true rfl) (by decide) (fun v' g' q => ?_) (fun E' g' q => ?_)
  · obtain ⟨q1 | q1, q2⟩ := q
    · exact absurd q1.1 (by decide)
    · cases q1.2
  · obtain ⟨q1 | q1, q2⟩ := q
    · exact absurd q1.1 (by decide)
    · refine ⟨100, [], (0, 9, 12, 13), [], by cases q1.2; rfl, by decide +kernel, fun q => ?_⟩
      refine ex_astore_n ok_L_deliver (mi 8 rfl) ?_
      refine ex_iconst ok_L_deliver (mi 9 rfl) ?_
      refine ex_iret ok_L_deliver (mi 10 rfl) rfl ?_
      exact ⟨_, rfl, LPhk (by decide) q2 ho hk hn⟩
theorem l_run0 {G : GE} (hst : (ge_l G).stackTraces = false) {x o : Nat} {h : GT} {p0 : Int32} {v : Int32} (c : CC G 8 4 24 my_X11_run x [.int p0] E1 0 v) (f : FR h x) (ho : x + 892 ≤ o) (hk : gx_K h o = 51) (hn : gx_N h o = 1) : ex_MH G 9 4 24 my_L_run [.ref x, .int p0, .ref o] h (fun r h' => ∃ z, r = .inl z ∧ LPh x o 0 v h z h') := by
  refine ex_MH_of ok_L_run cw_L_run hst (Nat.le_of_ble_eq_true rfl) ?_
  refine ex_aload_n ok_L_run (mi 0 rfl) rfl ?_
  refine ex_iconst ok_L_run (mi 1 rfl) ?_
  refine ex_aload_n ok_L_run (mi 2 rfl) rfl ?_
  refine ex_iload_n ok_L_run (mi 3 rfl) rfl ?_
  refine ex_callVHs (As := [_]) ok_L_run (mi 4 rfl) rfl (c h f) rfl (by decide) (by decide) rfl (fk f.1 0 rfl) (Nat.le_of_ble_eq_true rfl) (by decide) (fun v' g' q => ?_) (fun E' g' q => ?_)
  · obtain ⟨q1 | q1, q2⟩ := q
    · obtain ⟨-, q1⟩ := q1
      cases q1
      refine ex_i2l ok_L_run (mi 5 rfl) ?_
      refine ex_last ok_L_run (mi 6 rfl) ((q2.2 o (Or.inr ho)).1.trans hk) (by rw [(q2.2 o (Or.inr ho)).2.1.trans hn]; exact pk_in 0 1 (by decide)) ?_
      refine ex_goto (tgt := 15) ok_L_run (mi 7 rfl) rfl ?_
      refine ex_iconst ok_L_run (mi 11 rfl) ?_
      refine ex_iret ok_L_run (mi 12 rfl) rfl ?_
      exact ⟨_, rfl, LPh0 (v := v) q2 ho hk hn⟩
    · exact absurd rfl q1.1
  · obtain ⟨q1 | q1, q2⟩ := q
    · cases q1.2
    · exact absurd rfl q1.1
theorem l_run1 {G : GE} (hst : (ge_l G).stackTraces = false) {x o : Nat} {h : GT} {p0 : Int32} {v : Int32} (c : CC G 8 4 24 my_X11_run x [.int p0] E1 1 v) (f : FR h x) (ho : x + 892 ≤ o) (hk : gx_K h o = 51) (hn : gx_N h o = 1) : ex_MH G 9 4 24 my_L_run [.ref x, .int p0, .ref o] h (fun r h' => ∃ z, r = .inl z ∧ LPh x o 1 v h z h') := by
  refine ex_MH_of ok_L_run cw_L_run hst (Nat.le_of_ble_eq_true rfl) ?_
  refine ex_aload_n ok_L_run (mi 0 rfl) rfl ?_
  refine ex_iconst ok_L_run (mi 1 rfl) ?_
  refine ex_aload_n ok_L_run (mi 2 rfl) rfl ?_
  refine ex_iload_n ok_L_run (mi 3 rfl) rfl ?_
  refine ex_callVHs (As := [_]) ok_L_run (mi 4 rfl) rfl (c h f) rfl (by decide) (by decide) rfl (fk f.1 0 rfl) (Nat.le_of_ble_eq_true rfl) (by decide) (fun v' g' q => ?_) (fun E' g' q => ?_)
  · obtain ⟨q1 | q1, q2⟩ := q
    · exact absurd q1.1 (by decide)
    · cases q1.2
  · obtain ⟨q1 | q1, q2⟩ := q
    · exact absurd q1.1 (by decide)
    · refine ⟨101, [], (0, 9, 12, 15), [], by cases q1.2; rfl, by decide +kernel, fun q => ?_⟩
      refine ex_astore_n ok_L_run (mi 8 rfl) ?_
      refine ex_iconst ok_L_run (mi 9 rfl) ?_
      refine ex_iret ok_L_run (mi 10 rfl) rfl ?_
      exact ⟨_, rfl, LPhk (by decide) q2 ho hk hn⟩
theorem l_lose1 {G : GE} (hst : (ge_l G).stackTraces = false) {x o : Nat} {h : GT} {p0 : Int32} {v : Int32} (c : CC G 3 4 24 my_X11_lose x [.int p0] E3 1 v) (f : FR h x) (ho : x + 892 ≤ o) (hk : gx_K h o = 51) (hn : gx_N h o = 1) : ex_MH G 4 4 24 my_L_lose [.ref x, .int p0, .ref o] h (fun r h' => ∃ z, r = .inl z ∧ LPh x o 1 v h z h') := by
  refine ex_MH_of ok_L_lose cw_L_lose hst (Nat.le_of_ble_eq_true rfl) ?_
  refine ex_aload_n ok_L_lose (mi 0 rfl) rfl ?_
  refine ex_iconst ok_L_lose (mi 1 rfl) ?_
  refine ex_aload_n ok_L_lose (mi 2 rfl) rfl ?_
  refine ex_iload_n ok_L_lose (mi 3 rfl) rfl ?_
  refine ex_callVHs (As := [_]) ok_L_lose (mi 4 rfl) rfl (c h f) rfl (by decide) (by decide) rfl (fk f.1 0 rfl) (Nat.le_of_ble_eq_true rfl) (by decide) (fun v' g' q => ?_) (fun E' g' q => ?_)
  · obtain ⟨q1 | q1, q2⟩ := q
    · exact absurd q1.1 (by decide)
    · cases q1.2
  · obtain ⟨q1 | q1, q2⟩ := q
    · exact absurd q1.1 (by decide)
    · refine ⟨100, [], (0, 9, 12, 13), [], by cases q1.2; rfl, by decide +kernel, fun q => ?_⟩
      refine ex_astore_n ok_L_lose (mi 8 rfl) ?_
      refine ex_iconst ok_L_lose (mi 9 rfl) ?_
      refine ex_iret ok_L_lose (mi 10 rfl) rfl ?_
      exact ⟨_, rfl, LPhk (by decide) q2 ho hk hn⟩
theorem l_twice1 {G : GE} (hst : (ge_l G).stackTraces = false) {x o : Nat} {h : GT} {p0 : Int32} {v : Int32} (c : CC G 2 4 24 my_X11_twice x [.int p0] E3 1 v) (f : FR h x) (ho : x + 892 ≤ o) (hk : gx_K h o = 51) (hn : gx_N h o = 1) : ex_MH G 3 4 24 my_L_twice [.ref x, .int p0, .ref o] h (fun r h' => ∃ z, r = .inl z ∧ LPh x o 1 v h z h') := by
  refine ex_MH_of ok_L_twice cw_L_twice hst (Nat.le_of_ble_eq_true rfl) ?_
  refine ex_aload_n ok_L_twice (mi 0 rfl) rfl ?_
  refine ex_iconst ok_L_twice (mi 1 rfl) ?_
  refine ex_aload_n ok_L_twice (mi 2 rfl) rfl ?_
  refine ex_iload_n ok_L_twice (mi 3 rfl) rfl ?_
  refine ex_callVHs (As := [_]) ok_L_twice (mi 4 rfl) rfl (c h f) rfl (by decide) (by decide) rfl (fk f.1 0 rfl) (Nat.le_of_ble_eq_true rfl) (by decide) (fun v' g' q => ?_) (fun E' g' q => ?_)
  · obtain ⟨q1 | q1, q2⟩ := q
    · exact absurd q1.1 (by decide)
    · cases q1.2
  · obtain ⟨q1 | q1, q2⟩ := q
    · exact absurd q1.1 (by decide)
    · refine ⟨100, [], (0, 9, 12, 13), [], by cases q1.2; rfl, by decide +kernel, fun q => ?_⟩
      refine ex_astore_n ok_L_twice (mi 8 rfl) ?_
      refine ex_iconst ok_L_twice (mi 9 rfl) ?_
      refine ex_iret ok_L_twice (mi 10 rfl) rfl ?_
      exact ⟨_, rfl, LPhk (by decide) q2 ho hk hn⟩
theorem l_up0 {G : GE} (hst : (ge_l G).stackTraces = false) {x o : Nat} {h : GT} {p0 p1 p2 : Int32} (c : CC G 3 4 24 my_X11_up x [.int p0, .int p1, .int p2] E3 0 (nI 1)) (f : FR h x) (ho : x + 892 ≤ o) (hk : gx_K h o = 51) (hn : gx_N h o = 1) : ex_MH G 4 4 24 my_L_up [.ref x, .int p0, .int p1, .int p2, .ref o] h (fun r h' => ∃ z, r = .inl z ∧ LPh x o 0 (nI 1) h z h') := by
  refine ex_MH_of ok_L_up cw_L_up hst (Nat.le_of_ble_eq_true rfl) ?_
  refine ex_aload ok_L_up (mi 0 rfl) rfl ?_
  refine ex_iconst ok_L_up (mi 1 rfl) ?_
  refine ex_aload_n ok_L_up (mi 2 rfl) rfl ?_
  refine ex_iload_n ok_L_up (mi 3 rfl) rfl ?_
  refine ex_iload_n ok_L_up (mi 4 rfl) rfl ?_
  refine ex_iload_n ok_L_up (mi 5 rfl) rfl ?_
  refine ex_callVHs (As := [_, _, _]) ok_L_up (mi 6 rfl) rfl (c h f) rfl (by decide) (by decide) rfl (fk f.1 0 rfl) (Nat.le_of_ble_eq_true rfl) (by decide) (fun v' g' q => ?_) (fun E' g' q => ?_)
  · obtain ⟨q1 | q1, q2⟩ := q
    · obtain ⟨-, q1⟩ := q1
      cases q1
      refine ex_if_eq (tgt := 17) ok_L_up (mi 7 rfl) rfl (fun hn => absurd hn (by decide)) (fun _ => ?_)
      refine ex_lconst ok_L_up (mi 8 rfl) ?_
      refine ex_goto (tgt := 18) ok_L_up (mi 9 rfl) rfl ?_
      refine ex_last ok_L_up (mi 11 rfl) ((q2.2 o (Or.inr ho)).1.trans hk) (by rw [(q2.2 o (Or.inr ho)).2.1.trans hn]; exact pk_in 0 1 (by decide)) ?_
      refine ex_goto (tgt := 26) ok_L_up (mi 12 rfl) rfl ?_
      refine ex_iconst ok_L_up (mi 16 rfl) ?_
      refine ex_iret ok_L_up (mi 17 rfl) rfl ?_
      exact ⟨_, rfl, LPh0 (v := (nI 1)) q2 ho hk hn⟩
    · exact absurd rfl q1.1
  · obtain ⟨q1 | q1, q2⟩ := q
    · cases q1.2
    · exact absurd rfl q1.1
theorem l_up1 {G : GE} (hst : (ge_l G).stackTraces = false) {x o : Nat} {h : GT} {p0 p1 p2 : Int32} {v : Int32} (c : CC G 3 4 24 my_X11_up x [.int p0, .int p1, .int p2] E3 1 v) (f : FR h x) (ho : x + 892 ≤ o) (hk : gx_K h o = 51) (hn : gx_N h o = 1) : ex_MH G 4 4 24 my_L_up [.ref x, .int p0, .int p1, .int p2, .ref o] h (fun r h' => ∃ z, r = .inl z ∧ LPh x o 1 v h z h') := by
  refine ex_MH_of ok_L_up cw_L_up hst (Nat.le_of_ble_eq_true rfl) ?_
  refine ex_aload ok_L_up (mi 0 rfl) rfl ?_
  refine ex_iconst ok_L_up (mi 1 rfl) ?_
  refine ex_aload_n ok_L_up (mi 2 rfl) rfl ?_
  refine ex_iload_n ok_L_up (mi 3 rfl) rfl ?_
  refine ex_iload_n ok_L_up (mi 4 rfl) rfl ?_
  refine ex_iload_n ok_L_up (mi 5 rfl) rfl ?_
  refine ex_callVHs (As := [_, _, _]) ok_L_up (mi 6 rfl) rfl (c h f) rfl (by decide) (by decide) rfl (fk f.1 0 rfl) (Nat.le_of_ble_eq_true rfl) (by decide) (fun v' g' q => ?_) (fun E' g' q => ?_)
  · obtain ⟨q1 | q1, q2⟩ := q
    · exact absurd q1.1 (by decide)
    · cases q1.2
  · obtain ⟨q1 | q1, q2⟩ := q
    · exact absurd q1.1 (by decide)
    · refine ⟨100, [], (0, 19, 22, 13), [], by cases q1.2; rfl, by decide +kernel, fun q => ?_⟩
      refine ex_astore ok_L_up (mi 13 rfl) ?_
      refine ex_iconst ok_L_up (mi 14 rfl) ?_
      refine ex_iret ok_L_up (mi 15 rfl) rfl ?_
      exact ⟨_, rfl, LPhk (by decide) q2 ho hk hn⟩
theorem l_message1 {G : GE} (hst : (ge_l G).stackTraces = false) {x o : Nat} {h : GT} {p0 p1 : Int32} {v : Int32} (c : CC G 5 4 24 my_X11_message x [.int p0, .int p1] E3 1 v) (f : FR h x) (ho : x + 892 ≤ o) (hk : gx_K h o = 51) (hn : gx_N h o = 1) : ex_MH G 6 4 24 my_L_message [.ref x, .int p0, .int p1, .ref o] h (fun r h' => ∃ z, r = .inl z ∧ LPh x o 1 v h z h') := by
  refine ex_MH_of ok_L_message cw_L_message hst (Nat.le_of_ble_eq_true rfl) ?_
  refine ex_aload_n ok_L_message (mi 0 rfl) rfl ?_
  refine ex_iconst ok_L_message (mi 1 rfl) ?_
  refine ex_aload_n ok_L_message (mi 2 rfl) rfl ?_
  refine ex_iload_n ok_L_message (mi 3 rfl) rfl ?_
  refine ex_iload_n ok_L_message (mi 4 rfl) rfl ?_
  refine ex_callVHs (As := [_, _]) ok_L_message (mi 5 rfl) rfl (c h f) rfl (by decide) (by decide) rfl (fk f.1 0 rfl) (Nat.le_of_ble_eq_true rfl) (by decide) (fun v' g' q => ?_) (fun E' g' q => ?_)
  · obtain ⟨q1 | q1, q2⟩ := q
    · exact absurd q1.1 (by decide)
    · cases q1.2
  · obtain ⟨q1 | q1, q2⟩ := q
    · exact absurd q1.1 (by decide)
    · refine ⟨100, [], (0, 10, 13, 13), [], by cases q1.2; rfl, by decide +kernel, fun q => ?_⟩
      refine ex_astore ok_L_message (mi 9 rfl) ?_
      refine ex_iconst ok_L_message (mi 10 rfl) ?_
      refine ex_iret ok_L_message (mi 11 rfl) rfl ?_
      exact ⟨_, rfl, LPhk (by decide) q2 ho hk hn⟩
theorem l_leader0 {G : GE} (hst : (ge_l G).stackTraces = false) {x o : Nat} {h : GT} {p0 p1 : Int32} {v : Int32} (c : CC G 4 4 24 my_X11_leader x [.int p0, .int p1] E3 0 v) (f : FR h x) (ho : x + 892 ≤ o) (hk : gx_K h o = 51) (hn : gx_N h o = 1) : ex_MH G 5 4 24 my_L_leader [.ref x, .int p0, .int p1, .ref o] h (fun r h' => ∃ z, r = .inl z ∧ LPh x o 0 v h z h') := by
  refine ex_MH_of ok_L_leader cw_L_leader hst (Nat.le_of_ble_eq_true rfl) ?_
  refine ex_aload_n ok_L_leader (mi 0 rfl) rfl ?_
  refine ex_iconst ok_L_leader (mi 1 rfl) ?_
  refine ex_aload_n ok_L_leader (mi 2 rfl) rfl ?_
  refine ex_iload_n ok_L_leader (mi 3 rfl) rfl ?_
  refine ex_iload_n ok_L_leader (mi 4 rfl) rfl ?_
  refine ex_callVHs (As := [_, _]) ok_L_leader (mi 5 rfl) rfl (c h f) rfl (by decide) (by decide) rfl (fk f.1 0 rfl) (Nat.le_of_ble_eq_true rfl) (by decide) (fun v' g' q => ?_) (fun E' g' q => ?_)
  · obtain ⟨q1 | q1, q2⟩ := q
    · obtain ⟨-, q1⟩ := q1
      cases q1
      refine ex_i2l ok_L_leader (mi 6 rfl) ?_
      refine ex_last ok_L_leader (mi 7 rfl) ((q2.2 o (Or.inr ho)).1.trans hk) (by rw [(q2.2 o (Or.inr ho)).2.1.trans hn]; exact pk_in 0 1 (by decide)) ?_
      refine ex_goto (tgt := 17) ok_L_leader (mi 8 rfl) rfl ?_
      refine ex_iconst ok_L_leader (mi 12 rfl) ?_
      refine ex_iret ok_L_leader (mi 13 rfl) rfl ?_
      exact ⟨_, rfl, LPh0 (v := v) q2 ho hk hn⟩
    · exact absurd rfl q1.1
  · obtain ⟨q1 | q1, q2⟩ := q
    · cases q1.2
    · exact absurd rfl q1.1
theorem l_leader1 {G : GE} (hst : (ge_l G).stackTraces = false) {x o : Nat} {h : GT} {p0 p1 : Int32} {v : Int32} (c : CC G 4 4 24 my_X11_leader x [.int p0, .int p1] E3 1 v) (f : FR h x) (ho : x + 892 ≤ o) (hk : gx_K h o = 51) (hn : gx_N h o = 1) : ex_MH G 5 4 24 my_L_leader [.ref x, .int p0, .int p1, .ref o] h (fun r h' => ∃ z, r = .inl z ∧ LPh x o 1 v h z h') := by
  refine ex_MH_of ok_L_leader cw_L_leader hst (Nat.le_of_ble_eq_true rfl) ?_
  refine ex_aload_n ok_L_leader (mi 0 rfl) rfl ?_
  refine ex_iconst ok_L_leader (mi 1 rfl) ?_
  refine ex_aload_n ok_L_leader (mi 2 rfl) rfl ?_
  refine ex_iload_n ok_L_leader (mi 3 rfl) rfl ?_
  refine ex_iload_n ok_L_leader (mi 4 rfl) rfl ?_
  refine ex_callVHs (As := [_, _]) ok_L_leader (mi 5 rfl) rfl (c h f) rfl (by decide) (by decide) rfl (fk f.1 0 rfl) (Nat.le_of_ble_eq_true rfl) (by decide) (fun v' g' q => ?_) (fun E' g' q => ?_)
  · obtain ⟨q1 | q1, q2⟩ := q
    · exact absurd q1.1 (by decide)
    · cases q1.2
  · obtain ⟨q1 | q1, q2⟩ := q
    · exact absurd q1.1 (by decide)
    · refine ⟨100, [], (0, 10, 13, 13), [], by cases q1.2; rfl, by decide +kernel, fun q => ?_⟩
      refine ex_astore ok_L_leader (mi 9 rfl) ?_
      refine ex_iconst ok_L_leader (mi 10 rfl) ?_
      refine ex_iret ok_L_leader (mi 11 rfl) rfl ?_
      exact ⟨_, rfl, LPhk (by decide) q2 ho hk hn⟩
theorem l_slot0 {G : GE} (hst : (ge_l G).stackTraces = false) {x o : Nat} {h : GT} {p0 p1 p2 : Int32} {v : Int32} (c : CC G 3 4 24 my_X11_slot x [.int p0, .int p1, .int p2] E3 0 v) (f : FR h x) (ho : x + 892 ≤ o) (hk : gx_K h o = 51) (hn : gx_N h o = 1) : ex_MH G 4 4 24 my_L_slot [.ref x, .int p0, .int p1, .int p2, .ref o] h (fun r h' => ∃ z, r = .inl z ∧ LPh x o 0 v h z h') := by
  refine ex_MH_of ok_L_slot cw_L_slot hst (Nat.le_of_ble_eq_true rfl) ?_
  refine ex_aload ok_L_slot (mi 0 rfl) rfl ?_
  refine ex_iconst ok_L_slot (mi 1 rfl) ?_
  refine ex_aload_n ok_L_slot (mi 2 rfl) rfl ?_
  refine ex_iload_n ok_L_slot (mi 3 rfl) rfl ?_
  refine ex_iload_n ok_L_slot (mi 4 rfl) rfl ?_
  refine ex_iload_n ok_L_slot (mi 5 rfl) rfl ?_
  refine ex_callVHs (As := [_, _, _]) ok_L_slot (mi 6 rfl) rfl (c h f) rfl (by decide) (by decide) rfl (fk f.1 0 rfl) (Nat.le_of_ble_eq_true rfl) (by decide) (fun v' g' q => ?_) (fun E' g' q => ?_)
  · obtain ⟨q1 | q1, q2⟩ := q
    · obtain ⟨-, q1⟩ := q1
      cases q1
      refine ex_i2l ok_L_slot (mi 7 rfl) ?_
      refine ex_last ok_L_slot (mi 8 rfl) ((q2.2 o (Or.inr ho)).1.trans hk) (by rw [(q2.2 o (Or.inr ho)).2.1.trans hn]; exact pk_in 0 1 (by decide)) ?_
      refine ex_goto (tgt := 19) ok_L_slot (mi 9 rfl) rfl ?_
      refine ex_iconst ok_L_slot (mi 13 rfl) ?_
      refine ex_iret ok_L_slot (mi 14 rfl) rfl ?_
      exact ⟨_, rfl, LPh0 (v := v) q2 ho hk hn⟩
    · exact absurd rfl q1.1
  · obtain ⟨q1 | q1, q2⟩ := q
    · cases q1.2
    · exact absurd rfl q1.1
theorem l_slot1 {G : GE} (hst : (ge_l G).stackTraces = false) {x o : Nat} {h : GT} {p0 p1 p2 : Int32} {v : Int32} (c : CC G 3 4 24 my_X11_slot x [.int p0, .int p1, .int p2] E3 1 v) (f : FR h x) (ho : x + 892 ≤ o) (hk : gx_K h o = 51) (hn : gx_N h o = 1) : ex_MH G 4 4 24 my_L_slot [.ref x, .int p0, .int p1, .int p2, .ref o] h (fun r h' => ∃ z, r = .inl z ∧ LPh x o 1 v h z h') := by
  refine ex_MH_of ok_L_slot cw_L_slot hst (Nat.le_of_ble_eq_true rfl) ?_
  refine ex_aload ok_L_slot (mi 0 rfl) rfl ?_
  refine ex_iconst ok_L_slot (mi 1 rfl) ?_
  refine ex_aload_n ok_L_slot (mi 2 rfl) rfl ?_
  refine ex_iload_n ok_L_slot (mi 3 rfl) rfl ?_
  refine ex_iload_n ok_L_slot (mi 4 rfl) rfl ?_
  refine ex_iload_n ok_L_slot (mi 5 rfl) rfl ?_
  refine ex_callVHs (As := [_, _, _]) ok_L_slot (mi 6 rfl) rfl (c h f) rfl (by decide) (by decide) rfl (fk f.1 0 rfl) (Nat.le_of_ble_eq_true rfl) (by decide) (fun v' g' q => ?_) (fun E' g' q => ?_)
  · obtain ⟨q1 | q1, q2⟩ := q
    · exact absurd q1.1 (by decide)
    · cases q1.2
  · obtain ⟨q1 | q1, q2⟩ := q
    · exact absurd q1.1 (by decide)
    · refine ⟨100, [], (0, 12, 15, 13), [], by cases q1.2; rfl, by decide +kernel, fun q => ?_⟩
      refine ex_astore ok_L_slot (mi 10 rfl) ?_
      refine ex_iconst ok_L_slot (mi 11 rfl) ?_
      refine ex_iret ok_L_slot (mi 12 rfl) rfl ?_
      exact ⟨_, rfl, LPhk (by decide) q2 ho hk hn⟩
theorem l_keeper0 {G : GE} (hst : (ge_l G).stackTraces = false) {x o : Nat} {h : GT} {p0 p1 : Int32} {v : Int32} (c : CC G 4 4 24 my_X11_keeper x [.int p0, .int p1] E3 0 v) (f : FR h x) (ho : x + 892 ≤ o) (hk : gx_K h o = 51) (hn : gx_N h o = 1) : ex_MH G 5 4 24 my_L_keeper [.ref x, .int p0, .int p1, .ref o] h (fun r h' => ∃ z, r = .inl z ∧ LPh x o 0 v h z h') := by
  refine ex_MH_of ok_L_keeper cw_L_keeper hst (Nat.le_of_ble_eq_true rfl) ?_
  refine ex_aload_n ok_L_keeper (mi 0 rfl) rfl ?_
  refine ex_iconst ok_L_keeper (mi 1 rfl) ?_
  refine ex_aload_n ok_L_keeper (mi 2 rfl) rfl ?_
  refine ex_iload_n ok_L_keeper (mi 3 rfl) rfl ?_
  refine ex_iload_n ok_L_keeper (mi 4 rfl) rfl ?_
  refine ex_callVHs (As := [_, _]) ok_L_keeper (mi 5 rfl) rfl (c h f) rfl (by decide) (by decide) rfl (fk f.1 0 rfl) (Nat.le_of_ble_eq_true rfl) (by decide) (fun v' g' q => ?_) (fun E' g' q => ?_)
  · obtain ⟨q1 | q1, q2⟩ := q
    · obtain ⟨-, q1⟩ := q1
      cases q1
      refine ex_i2l ok_L_keeper (mi 6 rfl) ?_
      refine ex_last ok_L_keeper (mi 7 rfl) ((q2.2 o (Or.inr ho)).1.trans hk) (by rw [(q2.2 o (Or.inr ho)).2.1.trans hn]; exact pk_in 0 1 (by decide)) ?_
      refine ex_goto (tgt := 17) ok_L_keeper (mi 8 rfl) rfl ?_
      refine ex_iconst ok_L_keeper (mi 12 rfl) ?_
      refine ex_iret ok_L_keeper (mi 13 rfl) rfl ?_
      exact ⟨_, rfl, LPh0 (v := v) q2 ho hk hn⟩
    · exact absurd rfl q1.1
  · obtain ⟨q1 | q1, q2⟩ := q
    · cases q1.2
    · exact absurd rfl q1.1
theorem l_keeper1 {G : GE} (hst : (ge_l G).stackTraces = false) {x o : Nat} {h : GT} {p0 p1 : Int32} {v : Int32} (c : CC G 4 4 24 my_X11_keeper x [.int p0, .int p1] E3 1 v) (f : FR h x) (ho : x + 892 ≤ o) (hk : gx_K h o = 51) (hn : gx_N h o = 1) : ex_MH G 5 4 24 my_L_keeper [.ref x, .int p0, .int p1, .ref o] h (fun r h' => ∃ z, r = .inl z ∧ LPh x o 1 v h z h') := by
  refine ex_MH_of ok_L_keeper cw_L_keeper hst (Nat.le_of_ble_eq_true rfl) ?_
  refine ex_aload_n ok_L_keeper (mi 0 rfl) rfl ?_
  refine ex_iconst ok_L_keeper (mi 1 rfl) ?_
  refine ex_aload_n ok_L_keeper (mi 2 rfl) rfl ?_
  refine ex_iload_n ok_L_keeper (mi 3 rfl) rfl ?_
  refine ex_iload_n ok_L_keeper (mi 4 rfl) rfl ?_
  refine ex_callVHs (As := [_, _]) ok_L_keeper (mi 5 rfl) rfl (c h f) rfl (by decide) (by decide) rfl (fk f.1 0 rfl) (Nat.le_of_ble_eq_true rfl) (by decide) (fun v' g' q => ?_) (fun E' g' q => ?_)
  · obtain ⟨q1 | q1, q2⟩ := q
    · exact absurd q1.1 (by decide)
    · cases q1.2
  · obtain ⟨q1 | q1, q2⟩ := q
    · exact absurd q1.1 (by decide)
    · refine ⟨100, [], (0, 10, 13, 13), [], by cases q1.2; rfl, by decide +kernel, fun q => ?_⟩
      refine ex_astore ok_L_keeper (mi 9 rfl) ?_
      refine ex_iconst ok_L_keeper (mi 10 rfl) ?_
      refine ex_iret ok_L_keeper (mi 11 rfl) rfl ?_
      exact ⟨_, rfl, LPhk (by decide) q2 ho hk hn⟩
theorem l_entry1 {G : GE} (hst : (ge_l G).stackTraces = false) {x o : Nat} {h : GT} {p0 p1 p2 : Int32} {v : Int32} (c : CC G 3 4 24 my_X11_entry x [.int p0, .int p1, .int p2] E3 1 v) (f : FR h x) (ho : x + 892 ≤ o) (hk : gx_K h o = 51) (hn : gx_N h o = 1) : ex_MH G 4 4 24 my_L_entry [.ref x, .int p0, .int p1, .int p2, .ref o] h (fun r h' => ∃ z, r = .inl z ∧ LPh x o 1 v h z h') := by
  refine ex_MH_of ok_L_entry cw_L_entry hst (Nat.le_of_ble_eq_true rfl) ?_
  refine ex_aload ok_L_entry (mi 0 rfl) rfl ?_
  refine ex_iconst ok_L_entry (mi 1 rfl) ?_
  refine ex_aload_n ok_L_entry (mi 2 rfl) rfl ?_
  refine ex_iload_n ok_L_entry (mi 3 rfl) rfl ?_
  refine ex_iload_n ok_L_entry (mi 4 rfl) rfl ?_
  refine ex_iload_n ok_L_entry (mi 5 rfl) rfl ?_
  refine ex_callVHs (As := [_, _, _]) ok_L_entry (mi 6 rfl) rfl (c h f) rfl (by decide) (by decide) rfl (fk f.1 0 rfl) (Nat.le_of_ble_eq_true rfl) (by decide) (fun v' g' q => ?_) (fun E' g' q => ?_)
  · obtain ⟨q1 | q1, q2⟩ := q
    · exact absurd q1.1 (by decide)
    · cases q1.2
  · obtain ⟨q1 | q1, q2⟩ := q
    · exact absurd q1.1 (by decide)
    · refine ⟨100, [], (0, 12, 15, 13), [], by cases q1.2; rfl, by decide +kernel, fun q => ?_⟩
      refine ex_astore ok_L_entry (mi 10 rfl) ?_
      refine ex_iconst ok_L_entry (mi 11 rfl) ?_
      refine ex_iret ok_L_entry (mi 12 rfl) rfl ?_
      exact ⟨_, rfl, LPhk (by decide) q2 ho hk hn⟩
theorem l_voter0 {G : GE} (hst : (ge_l G).stackTraces = false) {x o : Nat} {h : GT} {p0 p1 : Int32} {v : Int32} (c : CC G 3 4 24 my_X11_voter x [.int p0, .int p1] E3 0 v) (f : FR h x) (ho : x + 892 ≤ o) (hk : gx_K h o = 51) (hn : gx_N h o = 1) : ex_MH G 4 4 24 my_L_voter [.ref x, .int p0, .int p1, .ref o] h (fun r h' => ∃ z, r = .inl z ∧ LPh x o 0 v h z h') := by
  refine ex_MH_of ok_L_voter cw_L_voter hst (Nat.le_of_ble_eq_true rfl) ?_
  refine ex_aload_n ok_L_voter (mi 0 rfl) rfl ?_
  refine ex_iconst ok_L_voter (mi 1 rfl) ?_
  refine ex_aload_n ok_L_voter (mi 2 rfl) rfl ?_
  refine ex_iload_n ok_L_voter (mi 3 rfl) rfl ?_
  refine ex_iload_n ok_L_voter (mi 4 rfl) rfl ?_
  refine ex_callVHs (As := [_, _]) ok_L_voter (mi 5 rfl) rfl (c h f) rfl (by decide) (by decide) rfl (fk f.1 0 rfl) (Nat.le_of_ble_eq_true rfl) (by decide) (fun v' g' q => ?_) (fun E' g' q => ?_)
  · obtain ⟨q1 | q1, q2⟩ := q
    · obtain ⟨-, q1⟩ := q1
      cases q1
      refine ex_i2l ok_L_voter (mi 6 rfl) ?_
      refine ex_last ok_L_voter (mi 7 rfl) ((q2.2 o (Or.inr ho)).1.trans hk) (by rw [(q2.2 o (Or.inr ho)).2.1.trans hn]; exact pk_in 0 1 (by decide)) ?_
      refine ex_goto (tgt := 17) ok_L_voter (mi 8 rfl) rfl ?_
      refine ex_iconst ok_L_voter (mi 12 rfl) ?_
      refine ex_iret ok_L_voter (mi 13 rfl) rfl ?_
      exact ⟨_, rfl, LPh0 (v := v) q2 ho hk hn⟩
    · exact absurd rfl q1.1
  · obtain ⟨q1 | q1, q2⟩ := q
    · cases q1.2
    · exact absurd rfl q1.1
theorem l_voter1 {G : GE} (hst : (ge_l G).stackTraces = false) {x o : Nat} {h : GT} {p0 p1 : Int32} {v : Int32} (c : CC G 3 4 24 my_X11_voter x [.int p0, .int p1] E3 1 v) (f : FR h x) (ho : x + 892 ≤ o) (hk : gx_K h o = 51) (hn : gx_N h o = 1) : ex_MH G 4 4 24 my_L_voter [.ref x, .int p0, .int p1, .ref o] h (fun r h' => ∃ z, r = .inl z ∧ LPh x o 1 v h z h') := by
  refine ex_MH_of ok_L_voter cw_L_voter hst (Nat.le_of_ble_eq_true rfl) ?_
  refine ex_aload_n ok_L_voter (mi 0 rfl) rfl ?_
  refine ex_iconst ok_L_voter (mi 1 rfl) ?_
  refine ex_aload_n ok_L_voter (mi 2 rfl) rfl ?_
  refine ex_iload_n ok_L_voter (mi 3 rfl) rfl ?_
  refine ex_iload_n ok_L_voter (mi 4 rfl) rfl ?_
  refine ex_callVHs (As := [_, _]) ok_L_voter (mi 5 rfl) rfl (c h f) rfl (by decide) (by decide) rfl (fk f.1 0 rfl) (Nat.le_of_ble_eq_true rfl) (by decide) (fun v' g' q => ?_) (fun E' g' q => ?_)
  · obtain ⟨q1 | q1, q2⟩ := q
    · exact absurd q1.1 (by decide)
    · cases q1.2
  · obtain ⟨q1 | q1, q2⟩ := q
    · exact absurd q1.1 (by decide)
    · refine ⟨100, [], (0, 10, 13, 13), [], by cases q1.2; rfl, by decide +kernel, fun q => ?_⟩
      refine ex_astore ok_L_voter (mi 9 rfl) ?_
      refine ex_iconst ok_L_voter (mi 10 rfl) ?_
      refine ex_iret ok_L_voter (mi 11 rfl) rfl ?_
      exact ⟨_, rfl, LPhk (by decide) q2 ho hk hn⟩
theorem l_vote0 {G : GE} (hst : (ge_l G).stackTraces = false) {x o : Nat} {h : GT} {p0 p1 p2 : Int32} {v : Int32} (c : CC G 2 4 24 my_X11_vote x [.int p0, .int p1, .int p2] E3 0 v) (f : FR h x) (ho : x + 892 ≤ o) (hk : gx_K h o = 51) (hn : gx_N h o = 1) : ex_MH G 3 4 24 my_L_vote [.ref x, .int p0, .int p1, .int p2, .ref o] h (fun r h' => ∃ z, r = .inl z ∧ LPh x o 0 v h z h') := by
  refine ex_MH_of ok_L_vote cw_L_vote hst (Nat.le_of_ble_eq_true rfl) ?_
  refine ex_aload ok_L_vote (mi 0 rfl) rfl ?_
  refine ex_iconst ok_L_vote (mi 1 rfl) ?_
  refine ex_aload_n ok_L_vote (mi 2 rfl) rfl ?_
  refine ex_iload_n ok_L_vote (mi 3 rfl) rfl ?_
  refine ex_iload_n ok_L_vote (mi 4 rfl) rfl ?_
  refine ex_iload_n ok_L_vote (mi 5 rfl) rfl ?_
  refine ex_callVHs (As := [_, _, _]) ok_L_vote (mi 6 rfl) rfl (c h f) rfl (by decide) (by decide) rfl (fk f.1 0 rfl) (Nat.le_of_ble_eq_true rfl) (by decide) (fun v' g' q => ?_) (fun E' g' q => ?_)
  · obtain ⟨q1 | q1, q2⟩ := q
    · obtain ⟨-, q1⟩ := q1
      cases q1
      refine ex_i2l ok_L_vote (mi 7 rfl) ?_
      refine ex_last ok_L_vote (mi 8 rfl) ((q2.2 o (Or.inr ho)).1.trans hk) (by rw [(q2.2 o (Or.inr ho)).2.1.trans hn]; exact pk_in 0 1 (by decide)) ?_
      refine ex_goto (tgt := 19) ok_L_vote (mi 9 rfl) rfl ?_
      refine ex_iconst ok_L_vote (mi 13 rfl) ?_
      refine ex_iret ok_L_vote (mi 14 rfl) rfl ?_
      exact ⟨_, rfl, LPh0 (v := v) q2 ho hk hn⟩
    · exact absurd rfl q1.1
  · obtain ⟨q1 | q1, q2⟩ := q
    · cases q1.2
    · exact absurd rfl q1.1
theorem l_vote1 {G : GE} (hst : (ge_l G).stackTraces = false) {x o : Nat} {h : GT} {p0 p1 p2 : Int32} {v : Int32} (c : CC G 2 4 24 my_X11_vote x [.int p0, .int p1, .int p2] E3 1 v) (f : FR h x) (ho : x + 892 ≤ o) (hk : gx_K h o = 51) (hn : gx_N h o = 1) : ex_MH G 3 4 24 my_L_vote [.ref x, .int p0, .int p1, .int p2, .ref o] h (fun r h' => ∃ z, r = .inl z ∧ LPh x o 1 v h z h') := by
  refine ex_MH_of ok_L_vote cw_L_vote hst (Nat.le_of_ble_eq_true rfl) ?_
  refine ex_aload ok_L_vote (mi 0 rfl) rfl ?_
  refine ex_iconst ok_L_vote (mi 1 rfl) ?_
  refine ex_aload_n ok_L_vote (mi 2 rfl) rfl ?_
  refine ex_iload_n ok_L_vote (mi 3 rfl) rfl ?_
  refine ex_iload_n ok_L_vote (mi 4 rfl) rfl ?_
  refine ex_iload_n ok_L_vote (mi 5 rfl) rfl ?_
  refine ex_callVHs (As := [_, _, _]) ok_L_vote (mi 6 rfl) rfl (c h f) rfl (by decide) (by decide) rfl (fk f.1 0 rfl) (Nat.le_of_ble_eq_true rfl) (by decide) (fun v' g' q => ?_) (fun E' g' q => ?_)
  · obtain ⟨q1 | q1, q2⟩ := q
    · exact absurd q1.1 (by decide)
    · cases q1.2
  · obtain ⟨q1 | q1, q2⟩ := q
    · exact absurd q1.1 (by decide)
    · refine ⟨100, [], (0, 12, 15, 13), [], by cases q1.2; rfl, by decide +kernel, fun q => ?_⟩
      refine ex_astore ok_L_vote (mi 10 rfl) ?_
      refine ex_iconst ok_L_vote (mi 11 rfl) ?_
      refine ex_iret ok_L_vote (mi 12 rfl) rfl ?_
      exact ⟨_, rfl, LPhk (by decide) q2 ho hk hn⟩
theorem l_copy0 {G : GE} (hst : (ge_l G).stackTraces = false) {x o : Nat} {h : GT} {p0 p1 : Int32} {v : Int32} (c : CC G 2 4 24 my_X11_copy x [.int p0, .int p1] E3 0 v) (f : FR h x) (ho : x + 892 ≤ o) (hk : gx_K h o = 51) (hn : gx_N h o = 1) : ex_MH G 3 4 24 my_L_copy [.ref x, .int p0, .int p1, .ref o] h (fun r h' => ∃ z, r = .inl z ∧ LPh x o 0 v h z h') := by
  refine ex_MH_of ok_L_copy cw_L_copy hst (Nat.le_of_ble_eq_true rfl) ?_
  refine ex_aload_n ok_L_copy (mi 0 rfl) rfl ?_
  refine ex_iconst ok_L_copy (mi 1 rfl) ?_
  refine ex_aload_n ok_L_copy (mi 2 rfl) rfl ?_
  refine ex_iload_n ok_L_copy (mi 3 rfl) rfl ?_
  refine ex_iload_n ok_L_copy (mi 4 rfl) rfl ?_
  refine ex_callVHs (As := [_, _]) ok_L_copy (mi 5 rfl) rfl (c h f) rfl (by decide) (by decide) rfl (fk f.1 0 rfl) (Nat.le_of_ble_eq_true rfl) (by decide) (fun v' g' q => ?_) (fun E' g' q => ?_)
  · obtain ⟨q1 | q1, q2⟩ := q
    · obtain ⟨-, q1⟩ := q1
      cases q1
      refine ex_i2l ok_L_copy (mi 6 rfl) ?_
      refine ex_last ok_L_copy (mi 7 rfl) ((q2.2 o (Or.inr ho)).1.trans hk) (by rw [(q2.2 o (Or.inr ho)).2.1.trans hn]; exact pk_in 0 1 (by decide)) ?_
      refine ex_goto (tgt := 17) ok_L_copy (mi 8 rfl) rfl ?_
      refine ex_iconst ok_L_copy (mi 12 rfl) ?_
      refine ex_iret ok_L_copy (mi 13 rfl) rfl ?_
      exact ⟨_, rfl, LPh0 (v := v) q2 ho hk hn⟩
    · exact absurd rfl q1.1
  · obtain ⟨q1 | q1, q2⟩ := q
    · cases q1.2
    · exact absurd rfl q1.1
theorem l_copy1 {G : GE} (hst : (ge_l G).stackTraces = false) {x o : Nat} {h : GT} {p0 p1 : Int32} {v : Int32} (c : CC G 2 4 24 my_X11_copy x [.int p0, .int p1] E3 1 v) (f : FR h x) (ho : x + 892 ≤ o) (hk : gx_K h o = 51) (hn : gx_N h o = 1) : ex_MH G 3 4 24 my_L_copy [.ref x, .int p0, .int p1, .ref o] h (fun r h' => ∃ z, r = .inl z ∧ LPh x o 1 v h z h') := by
  refine ex_MH_of ok_L_copy cw_L_copy hst (Nat.le_of_ble_eq_true rfl) ?_
  refine ex_aload_n ok_L_copy (mi 0 rfl) rfl ?_
  refine ex_iconst ok_L_copy (mi 1 rfl) ?_
  refine ex_aload_n ok_L_copy (mi 2 rfl) rfl ?_
  refine ex_iload_n ok_L_copy (mi 3 rfl) rfl ?_
  refine ex_iload_n ok_L_copy (mi 4 rfl) rfl ?_
  refine ex_callVHs (As := [_, _]) ok_L_copy (mi 5 rfl) rfl (c h f) rfl (by decide) (by decide) rfl (fk f.1 0 rfl) (Nat.le_of_ble_eq_true rfl) (by decide) (fun v' g' q => ?_) (fun E' g' q => ?_)
  · obtain ⟨q1 | q1, q2⟩ := q
    · exact absurd q1.1 (by decide)
    · cases q1.2
  · obtain ⟨q1 | q1, q2⟩ := q
    · exact absurd q1.1 (by decide)
    · refine ⟨100, [], (0, 10, 13, 13), [], by cases q1.2; rfl, by decide +kernel, fun q => ?_⟩
      refine ex_astore ok_L_copy (mi 9 rfl) ?_
      refine ex_iconst ok_L_copy (mi 10 rfl) ?_
      refine ex_iret ok_L_copy (mi 11 rfl) rfl ?_
      exact ⟨_, rfl, LPhk (by decide) q2 ho hk hn⟩
theorem l_agreed0 {G : GE} (hst : (ge_l G).stackTraces = false) {x o : Nat} {h : GT} {p0 : Int32} {v : Int32} (c : CC G 2 4 24 my_X11_agreed x [.int p0] E3 0 v) (f : FR h x) (ho : x + 892 ≤ o) (hk : gx_K h o = 51) (hn : gx_N h o = 1) : ex_MH G 3 4 24 my_L_agreed [.ref x, .int p0, .ref o] h (fun r h' => ∃ z, r = .inl z ∧ LPh x o 0 v h z h') := by
  refine ex_MH_of ok_L_agreed cw_L_agreed hst (Nat.le_of_ble_eq_true rfl) ?_
  refine ex_aload_n ok_L_agreed (mi 0 rfl) rfl ?_
  refine ex_iconst ok_L_agreed (mi 1 rfl) ?_
  refine ex_aload_n ok_L_agreed (mi 2 rfl) rfl ?_
  refine ex_iload_n ok_L_agreed (mi 3 rfl) rfl ?_
  refine ex_callVHs (As := [_]) ok_L_agreed (mi 4 rfl) rfl (c h f) rfl (by decide) (by decide) rfl (fk f.1 0 rfl) (Nat.le_of_ble_eq_true rfl) (by decide) (fun v' g' q => ?_) (fun E' g' q => ?_)
  · obtain ⟨q1 | q1, q2⟩ := q
    · obtain ⟨-, q1⟩ := q1
      cases q1
      refine ex_i2l ok_L_agreed (mi 5 rfl) ?_
      refine ex_last ok_L_agreed (mi 6 rfl) ((q2.2 o (Or.inr ho)).1.trans hk) (by rw [(q2.2 o (Or.inr ho)).2.1.trans hn]; exact pk_in 0 1 (by decide)) ?_
      refine ex_goto (tgt := 15) ok_L_agreed (mi 7 rfl) rfl ?_
      refine ex_iconst ok_L_agreed (mi 11 rfl) ?_
      refine ex_iret ok_L_agreed (mi 12 rfl) rfl ?_
      exact ⟨_, rfl, LPh0 (v := v) q2 ho hk hn⟩
    · exact absurd rfl q1.1
  · obtain ⟨q1 | q1, q2⟩ := q
    · cases q1.2
    · exact absurd rfl q1.1
theorem l_agreed1 {G : GE} (hst : (ge_l G).stackTraces = false) {x o : Nat} {h : GT} {p0 : Int32} {v : Int32} (c : CC G 2 4 24 my_X11_agreed x [.int p0] E3 1 v) (f : FR h x) (ho : x + 892 ≤ o) (hk : gx_K h o = 51) (hn : gx_N h o = 1) : ex_MH G 3 4 24 my_L_agreed [.ref x, .int p0, .ref o] h (fun r h' => ∃ z, r = .inl z ∧ LPh x o 1 v h z h') := by
  refine ex_MH_of ok_L_agreed cw_L_agreed hst (Nat.le_of_ble_eq_true rfl) ?_
  refine ex_aload_n ok_L_agreed (mi 0 rfl) rfl ?_
  refine ex_iconst ok_L_agreed (mi 1 rfl) ?_
  refine ex_aload_n ok_L_agreed (mi 2 rfl) rfl ?_
  refine ex_iload_n ok_L_agreed (mi 3 rfl) rfl ?_
  refine ex_callVHs (As := [_]) ok_L_agreed (mi 4 rfl) rfl (c h f) rfl (by decide) (by decide) rfl (fk f.1 0 rfl) (Nat.le_of_ble_eq_true rfl) (by decide) (fun v' g' q => ?_) (fun E' g' q => ?_)
  · obtain ⟨q1 | q1, q2⟩ := q
    · exact absurd q1.1 (by decide)
    · cases q1.2
  · obtain ⟨q1 | q1, q2⟩ := q
    · exact absurd q1.1 (by decide)
    · refine ⟨100, [], (0, 9, 12, 13), [], by cases q1.2; rfl, by decide +kernel, fun q => ?_⟩
      refine ex_astore_n ok_L_agreed (mi 8 rfl) ?_
      refine ex_iconst ok_L_agreed (mi 9 rfl) ?_
      refine ex_iret ok_L_agreed (mi 10 rfl) rfl ?_
      exact ⟨_, rfl, LPhk (by decide) q2 ho hk hn⟩
theorem l_count0 {G : GE} (hst : (ge_l G).stackTraces = false) {x o : Nat} {h : GT} {p0 : Int32} {v : Int32} (c : CC G 2 4 24 my_X11_count x [.int p0] E3 0 v) (f : FR h x) (ho : x + 892 ≤ o) (hk : gx_K h o = 51) (hn : gx_N h o = 1) : ex_MH G 3 4 24 my_L_count [.ref x, .int p0, .ref o] h (fun r h' => ∃ z, r = .inl z ∧ LPh x o 0 v h z h') := by
  refine ex_MH_of ok_L_count cw_L_count hst (Nat.le_of_ble_eq_true rfl) ?_
  refine ex_aload_n ok_L_count (mi 0 rfl) rfl ?_
  refine ex_iconst ok_L_count (mi 1 rfl) ?_
  refine ex_aload_n ok_L_count (mi 2 rfl) rfl ?_
  refine ex_iload_n ok_L_count (mi 3 rfl) rfl ?_
  refine ex_callVHs (As := [_]) ok_L_count (mi 4 rfl) rfl (c h f) rfl (by decide) (by decide) rfl (fk f.1 0 rfl) (Nat.le_of_ble_eq_true rfl) (by decide) (fun v' g' q => ?_) (fun E' g' q => ?_)
  · obtain ⟨q1 | q1, q2⟩ := q
    · obtain ⟨-, q1⟩ := q1
      cases q1
      refine ex_i2l ok_L_count (mi 5 rfl) ?_
      refine ex_last ok_L_count (mi 6 rfl) ((q2.2 o (Or.inr ho)).1.trans hk) (by rw [(q2.2 o (Or.inr ho)).2.1.trans hn]; exact pk_in 0 1 (by decide)) ?_
      refine ex_goto (tgt := 15) ok_L_count (mi 7 rfl) rfl ?_
      refine ex_iconst ok_L_count (mi 11 rfl) ?_
      refine ex_iret ok_L_count (mi 12 rfl) rfl ?_
      exact ⟨_, rfl, LPh0 (v := v) q2 ho hk hn⟩
    · exact absurd rfl q1.1
  · obtain ⟨q1 | q1, q2⟩ := q
    · cases q1.2
    · exact absurd rfl q1.1
theorem l_count1 {G : GE} (hst : (ge_l G).stackTraces = false) {x o : Nat} {h : GT} {p0 : Int32} {v : Int32} (c : CC G 2 4 24 my_X11_count x [.int p0] E3 1 v) (f : FR h x) (ho : x + 892 ≤ o) (hk : gx_K h o = 51) (hn : gx_N h o = 1) : ex_MH G 3 4 24 my_L_count [.ref x, .int p0, .ref o] h (fun r h' => ∃ z, r = .inl z ∧ LPh x o 1 v h z h') := by
  refine ex_MH_of ok_L_count cw_L_count hst (Nat.le_of_ble_eq_true rfl) ?_
  refine ex_aload_n ok_L_count (mi 0 rfl) rfl ?_
  refine ex_iconst ok_L_count (mi 1 rfl) ?_
  refine ex_aload_n ok_L_count (mi 2 rfl) rfl ?_
  refine ex_iload_n ok_L_count (mi 3 rfl) rfl ?_
  refine ex_callVHs (As := [_]) ok_L_count (mi 4 rfl) rfl (c h f) rfl (by decide) (by decide) rfl (fk f.1 0 rfl) (Nat.le_of_ble_eq_true rfl) (by decide) (fun v' g' q => ?_) (fun E' g' q => ?_)
  · obtain ⟨q1 | q1, q2⟩ := q
    · exact absurd q1.1 (by decide)
    · cases q1.2
  · obtain ⟨q1 | q1, q2⟩ := q
    · exact absurd q1.1 (by decide)
    · refine ⟨100, [], (0, 9, 12, 13), [], by cases q1.2; rfl, by decide +kernel, fun q => ?_⟩
      refine ex_astore_n ok_L_count (mi 8 rfl) ?_
      refine ex_iconst ok_L_count (mi 9 rfl) ?_
      refine ex_iret ok_L_count (mi 10 rfl) rfl ?_
      exact ⟨_, rfl, LPhk (by decide) q2 ho hk hn⟩
