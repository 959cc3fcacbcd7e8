/-! ===== a message brought ===== -/
theorem MI_on {y t : Nat} {D : UT} {R : Nat → Prop} {g : GT} (I : MI y D 402 R g) : MI y D t R (px_A g (y + 49) t (Int32.ofInt 1)) := by
  obtain ⟨A, h1, h2, h3⟩ := I
  exact ⟨A, h1, h2, MC_w (MC_u (i := t) (v := Int32.ofInt 1) h3) (fun j hj _ k => k.imp (fun k => k.elim (fun k => absurd k.2 (by omega)) (fun k => k.1)) id) (fun _ _ _ k => k.elim) (fun _ _ k => Or.inr k)⟩
theorem MI_off {y t : Nat} {D : UT} {R : Nat → Prop} {g : GT} (I : MI y D t R g) : MI y D 402 R (px_A g (y + 49) t (Int32.ofInt 0)) := by
  obtain ⟨A, h1, h2, h3⟩ := I
  exact ⟨A, h1, h2, MC_w (MC_u (i := t) (v := Int32.ofInt 0) h3) (fun j hj _ k => k.imp (fun k => k.elim (fun k => absurd k.2 k.1) (fun k => absurd (by decide) k.2)) id) (fun _ _ _ k => k.elim) (fun _ _ k => Or.inr k)⟩
theorem TK_no {y c : Nat} {D : UT} {R : Nat → Prop} : ∀ E g', ¬ TK y D c R (.inr E) g' := fun E g' h => by
  obtain ⟨b, h1, -⟩ := h
  cases h1
section EON
variable {G : GE} {d mc ms : Nat} {M : MT} {pc : Nat} {ls : List (Nat × Value)} {st stk : List Value} {g : GT} {Q : RT → GT → Prop} {y : Nat} {D : UT} {R : Nat → Prop}
theorem mf_on {t : Nat} {i : Int32} (I : MI y D 402 R g) (hM : mt_ok M = true) (hf : mt_in M pc (.bastore) 1) (hk : gx_K g (y + 49) = 52) (hN : gx_N g (y + 49) = 402) (hi : i = nI t) (hj : t < 402) (k : ∀ g', MI y D t R g' → KK y g g' → ex_W G d mc ms M (pc + 1) ls st g' Q) : ex_W G d mc ms M pc ls (.int (Int32.ofInt 1) :: .int i :: .ref (y + 49) :: st) g Q :=
  sm_bast hM hf hk hN hi hj (by decide) (Or.inr (by decide)) (k _ (MI_on I) (KK_A (by omega)))
theorem mf_off {t : Nat} {i : Int32} (I : MI y D t R g) (hM : mt_ok M = true) (hf : mt_in M pc (.bastore) 1) (hk : gx_K g (y + 49) = 52) (hN : gx_N g (y + 49) = 402) (hi : i = nI t) (hj : t < 402) (k : ∀ g', MI y D 402 R g' → KK y g g' → ex_W G d mc ms M (pc + 1) ls st g' Q) : ex_W G d mc ms M pc ls (.int (Int32.ofInt 0) :: .int i :: .ref (y + 49) :: st) g Q :=
  sm_bast hM hf hk hN hi hj (by decide) (Or.inl (by decide)) (k _ (MI_off I) (KK_A (by omega)))
end EON
theorem m_sort0 {G : GE} (hst : (ge_l G).stackTraces = false) {h : GT} : ex_M G 1 0 0 my_X12_sortOf [.int (nI 0)] h (rv (some (.int (nI 0))) h) := by
  refine ex_M_of ok_X12_sortOf cw_X12_sortOf rfl hst (Nat.le_of_ble_eq_true rfl) ?_
  refine ex_iload_n ok_X12_sortOf (mi 0 rfl) rfl ?_
  refine ex_tblk (tgt := 110) ok_X12_sortOf (mi 1 rfl) (by decide) (by decide) (by decide) (by decide) ?_
  refine ex_iconst ok_X12_sortOf (mi 8 rfl) ?_
  refine ex_iret ok_X12_sortOf (mi 9 rfl) rfl ?_
  exact ⟨inlI (by decide), rfl⟩
theorem x_sort0 {G : GE} (hst : (ge_l G).stackTraces = false) {g : GT} : ex_M G 1 0 0 my_X12_sortOf [.int (nI 0)] g (SVp g (fun v => v = some (.int (nI 0)))) := ex_M.mono (m_sort0 hst) (fun r h q => ⟨_, q.1, rfl, q.2⟩)
theorem m_sort1 {G : GE} (hst : (ge_l G).stackTraces = false) {h : GT} : ex_M G 1 0 0 my_X12_sortOf [.int (nI 1)] h (rv (some (.int (nI 1))) h) := by
  refine ex_M_of ok_X12_sortOf cw_X12_sortOf rfl hst (Nat.le_of_ble_eq_true rfl) ?_
  refine ex_iload_n ok_X12_sortOf (mi 0 rfl) rfl ?_
  refine ex_tblk (tgt := 104) ok_X12_sortOf (mi 1 rfl) (by decide) (by decide) (by decide) (by decide) ?_
  refine ex_iconst ok_X12_sortOf (mi 2 rfl) ?_
  refine ex_iret ok_X12_sortOf (mi 3 rfl) rfl ?_
  exact ⟨inlI (by decide), rfl⟩
theorem x_sort1 {G : GE} (hst : (ge_l G).stackTraces = false) {g : GT} : ex_M G 1 0 0 my_X12_sortOf [.int (nI 1)] g (SVp g (fun v => v = some (.int (nI 1)))) := ex_M.mono (m_sort1 hst) (fun r h q => ⟨_, q.1, rfl, q.2⟩)
theorem m_sort2 {G : GE} (hst : (ge_l G).stackTraces = false) {h : GT} : ex_M G 1 0 0 my_X12_sortOf [.int (nI 2)] h (rv (some (.int (nI 0))) h) := by
  refine ex_M_of ok_X12_sortOf cw_X12_sortOf rfl hst (Nat.le_of_ble_eq_true rfl) ?_
  refine ex_iload_n ok_X12_sortOf (mi 0 rfl) rfl ?_
  refine ex_tblk (tgt := 110) ok_X12_sortOf (mi 1 rfl) (by decide) (by decide) (by decide) (by decide) ?_
  refine ex_iconst ok_X12_sortOf (mi 8 rfl) ?_
  refine ex_iret ok_X12_sortOf (mi 9 rfl) rfl ?_
  exact ⟨inlI (by decide), rfl⟩
theorem x_sort2 {G : GE} (hst : (ge_l G).stackTraces = false) {g : GT} : ex_M G 1 0 0 my_X12_sortOf [.int (nI 2)] g (SVp g (fun v => v = some (.int (nI 0)))) := ex_M.mono (m_sort2 hst) (fun r h q => ⟨_, q.1, rfl, q.2⟩)
theorem m_sort3 {G : GE} (hst : (ge_l G).stackTraces = false) {h : GT} : ex_M G 1 0 0 my_X12_sortOf [.int (nI 3)] h (rv (some (.int (nI 2))) h) := by
  refine ex_M_of ok_X12_sortOf cw_X12_sortOf rfl hst (Nat.le_of_ble_eq_true rfl) ?_
  refine ex_iload_n ok_X12_sortOf (mi 0 rfl) rfl ?_
  refine ex_tblk (tgt := 106) ok_X12_sortOf (mi 1 rfl) (by decide) (by decide) (by decide) (by decide) ?_
  refine ex_iconst ok_X12_sortOf (mi 4 rfl) ?_
  refine ex_iret ok_X12_sortOf (mi 5 rfl) rfl ?_
  exact ⟨inlI (by decide), rfl⟩
theorem x_sort3 {G : GE} (hst : (ge_l G).stackTraces = false) {g : GT} : ex_M G 1 0 0 my_X12_sortOf [.int (nI 3)] g (SVp g (fun v => v = some (.int (nI 2)))) := ex_M.mono (m_sort3 hst) (fun r h q => ⟨_, q.1, rfl, q.2⟩)
theorem m_sort4 {G : GE} (hst : (ge_l G).stackTraces = false) {h : GT} : ex_M G 1 0 0 my_X12_sortOf [.int (nI 4)] h (rv (some (.int (nI 0))) h) := by
  refine ex_M_of ok_X12_sortOf cw_X12_sortOf rfl hst (Nat.le_of_ble_eq_true rfl) ?_
  refine ex_iload_n ok_X12_sortOf (mi 0 rfl) rfl ?_
  refine ex_tblk (tgt := 110) ok_X12_sortOf (mi 1 rfl) (by decide) (by decide) (by decide) (by decide) ?_
  refine ex_iconst ok_X12_sortOf (mi 8 rfl) ?_
  refine ex_iret ok_X12_sortOf (mi 9 rfl) rfl ?_
  exact ⟨inlI (by decide), rfl⟩
theorem x_sort4 {G : GE} (hst : (ge_l G).stackTraces = false) {g : GT} : ex_M G 1 0 0 my_X12_sortOf [.int (nI 4)] g (SVp g (fun v => v = some (.int (nI 0)))) := ex_M.mono (m_sort4 hst) (fun r h q => ⟨_, q.1, rfl, q.2⟩)
theorem m_sort5 {G : GE} (hst : (ge_l G).stackTraces = false) {h : GT} : ex_M G 1 0 0 my_X12_sortOf [.int (nI 5)] h (rv (some (.int (nI 2))) h) := by
  refine ex_M_of ok_X12_sortOf cw_X12_sortOf rfl hst (Nat.le_of_ble_eq_true rfl) ?_
  refine ex_iload_n ok_X12_sortOf (mi 0 rfl) rfl ?_
  refine ex_tblk (tgt := 106) ok_X12_sortOf (mi 1 rfl) (by decide) (by decide) (by decide) (by decide) ?_
  refine ex_iconst ok_X12_sortOf (mi 4 rfl) ?_
  refine ex_iret ok_X12_sortOf (mi 5 rfl) rfl ?_
  exact ⟨inlI (by decide), rfl⟩
theorem x_sort5 {G : GE} (hst : (ge_l G).stackTraces = false) {g : GT} : ex_M G 1 0 0 my_X12_sortOf [.int (nI 5)] g (SVp g (fun v => v = some (.int (nI 2)))) := ex_M.mono (m_sort5 hst) (fun r h q => ⟨_, q.1, rfl, q.2⟩)
theorem m_sort6 {G : GE} (hst : (ge_l G).stackTraces = false) {h : GT} : ex_M G 1 0 0 my_X12_sortOf [.int (nI 6)] h (rv (some (.int (nI 0))) h) := by
  refine ex_M_of ok_X12_sortOf cw_X12_sortOf rfl hst (Nat.le_of_ble_eq_true rfl) ?_
  refine ex_iload_n ok_X12_sortOf (mi 0 rfl) rfl ?_
  refine ex_tblk (tgt := 110) ok_X12_sortOf (mi 1 rfl) (by decide) (by decide) (by decide) (by decide) ?_
  refine ex_iconst ok_X12_sortOf (mi 8 rfl) ?_
  refine ex_iret ok_X12_sortOf (mi 9 rfl) rfl ?_
  exact ⟨inlI (by decide), rfl⟩
theorem x_sort6 {G : GE} (hst : (ge_l G).stackTraces = false) {g : GT} : ex_M G 1 0 0 my_X12_sortOf [.int (nI 6)] g (SVp g (fun v => v = some (.int (nI 0)))) := ex_M.mono (m_sort6 hst) (fun r h q => ⟨_, q.1, rfl, q.2⟩)
theorem m_sort7 {G : GE} (hst : (ge_l G).stackTraces = false) {h : GT} : ex_M G 1 0 0 my_X12_sortOf [.int (nI 7)] h (rv (some (.int (nI 3))) h) := by
  refine ex_M_of ok_X12_sortOf cw_X12_sortOf rfl hst (Nat.le_of_ble_eq_true rfl) ?_
  refine ex_iload_n ok_X12_sortOf (mi 0 rfl) rfl ?_
  refine ex_tblk (tgt := 108) ok_X12_sortOf (mi 1 rfl) (by decide) (by decide) (by decide) (by decide) ?_
  refine ex_iconst ok_X12_sortOf (mi 6 rfl) ?_
  refine ex_iret ok_X12_sortOf (mi 7 rfl) rfl ?_
  exact ⟨inlI (by decide), rfl⟩
theorem x_sort7 {G : GE} (hst : (ge_l G).stackTraces = false) {g : GT} : ex_M G 1 0 0 my_X12_sortOf [.int (nI 7)] g (SVp g (fun v => v = some (.int (nI 3)))) := ex_M.mono (m_sort7 hst) (fun r h q => ⟨_, q.1, rfl, q.2⟩)
theorem m_sort8 {G : GE} (hst : (ge_l G).stackTraces = false) {h : GT} : ex_M G 1 0 0 my_X12_sortOf [.int (nI 8)] h (rv (some (.int (nI 0))) h) := by
  refine ex_M_of ok_X12_sortOf cw_X12_sortOf rfl hst (Nat.le_of_ble_eq_true rfl) ?_
  refine ex_iload_n ok_X12_sortOf (mi 0 rfl) rfl ?_
  refine ex_tblk (tgt := 110) ok_X12_sortOf (mi 1 rfl) (by decide) (by decide) (by decide) (by decide) ?_
  refine ex_iconst ok_X12_sortOf (mi 8 rfl) ?_
  refine ex_iret ok_X12_sortOf (mi 9 rfl) rfl ?_
  exact ⟨inlI (by decide), rfl⟩
theorem x_sort8 {G : GE} (hst : (ge_l G).stackTraces = false) {g : GT} : ex_M G 1 0 0 my_X12_sortOf [.int (nI 8)] g (SVp g (fun v => v = some (.int (nI 0)))) := ex_M.mono (m_sort8 hst) (fun r h q => ⟨_, q.1, rfl, q.2⟩)
theorem m_sort9 {G : GE} (hst : (ge_l G).stackTraces = false) {h : GT} : ex_M G 1 0 0 my_X12_sortOf [.int (nI 9)] h (rv (some (.int (nI 2))) h) := by
  refine ex_M_of ok_X12_sortOf cw_X12_sortOf rfl hst (Nat.le_of_ble_eq_true rfl) ?_
  refine ex_iload_n ok_X12_sortOf (mi 0 rfl) rfl ?_
  refine ex_tblk (tgt := 106) ok_X12_sortOf (mi 1 rfl) (by decide) (by decide) (by decide) (by decide) ?_
  refine ex_iconst ok_X12_sortOf (mi 4 rfl) ?_
  refine ex_iret ok_X12_sortOf (mi 5 rfl) rfl ?_
  exact ⟨inlI (by decide), rfl⟩
theorem x_sort9 {G : GE} (hst : (ge_l G).stackTraces = false) {g : GT} : ex_M G 1 0 0 my_X12_sortOf [.int (nI 9)] g (SVp g (fun v => v = some (.int (nI 2)))) := ex_M.mono (m_sort9 hst) (fun r h q => ⟨_, q.1, rfl, q.2⟩)
theorem m_sort10 {G : GE} (hst : (ge_l G).stackTraces = false) {h : GT} : ex_M G 1 0 0 my_X12_sortOf [.int (nI 10)] h (rv (some (.int (nI 0))) h) := by
  refine ex_M_of ok_X12_sortOf cw_X12_sortOf rfl hst (Nat.le_of_ble_eq_true rfl) ?_
  refine ex_iload_n ok_X12_sortOf (mi 0 rfl) rfl ?_
  refine ex_tblk (tgt := 110) ok_X12_sortOf (mi 1 rfl) (by decide) (by decide) (by decide) (by decide) ?_
  refine ex_iconst ok_X12_sortOf (mi 8 rfl) ?_
  refine ex_iret ok_X12_sortOf (mi 9 rfl) rfl ?_
  exact ⟨inlI (by decide), rfl⟩
theorem x_sort10 {G : GE} (hst : (ge_l G).stackTraces = false) {g : GT} : ex_M G 1 0 0 my_X12_sortOf [.int (nI 10)] g (SVp g (fun v => v = some (.int (nI 0)))) := ex_M.mono (m_sort10 hst) (fun r h q => ⟨_, q.1, rfl, q.2⟩)
theorem m_sort11 {G : GE} (hst : (ge_l G).stackTraces = false) {h : GT} : ex_M G 1 0 0 my_X12_sortOf [.int (nI 11)] h (rv (some (.int (nI 1))) h) := by
  refine ex_M_of ok_X12_sortOf cw_X12_sortOf rfl hst (Nat.le_of_ble_eq_true rfl) ?_
  refine ex_iload_n ok_X12_sortOf (mi 0 rfl) rfl ?_
  refine ex_tblk (tgt := 104) ok_X12_sortOf (mi 1 rfl) (by decide) (by decide) (by decide) (by decide) ?_
  refine ex_iconst ok_X12_sortOf (mi 2 rfl) ?_
  refine ex_iret ok_X12_sortOf (mi 3 rfl) rfl ?_
  exact ⟨inlI (by decide), rfl⟩
theorem x_sort11 {G : GE} (hst : (ge_l G).stackTraces = false) {g : GT} : ex_M G 1 0 0 my_X12_sortOf [.int (nI 11)] g (SVp g (fun v => v = some (.int (nI 1)))) := ex_M.mono (m_sort11 hst) (fun r h q => ⟨_, q.1, rfl, q.2⟩)
theorem m_sort12 {G : GE} (hst : (ge_l G).stackTraces = false) {h : GT} : ex_M G 1 0 0 my_X12_sortOf [.int (nI 12)] h (rv (some (.int (nI 0))) h) := by
  refine ex_M_of ok_X12_sortOf cw_X12_sortOf rfl hst (Nat.le_of_ble_eq_true rfl) ?_
  refine ex_iload_n ok_X12_sortOf (mi 0 rfl) rfl ?_
  refine ex_tblk (tgt := 110) ok_X12_sortOf (mi 1 rfl) (by decide) (by decide) (by decide) (by decide) ?_
  refine ex_iconst ok_X12_sortOf (mi 8 rfl) ?_
  refine ex_iret ok_X12_sortOf (mi 9 rfl) rfl ?_
  exact ⟨inlI (by decide), rfl⟩
theorem x_sort12 {G : GE} (hst : (ge_l G).stackTraces = false) {g : GT} : ex_M G 1 0 0 my_X12_sortOf [.int (nI 12)] g (SVp g (fun v => v = some (.int (nI 0)))) := ex_M.mono (m_sort12 hst) (fun r h q => ⟨_, q.1, rfl, q.2⟩)
theorem m_sort13 {G : GE} (hst : (ge_l G).stackTraces = false) {h : GT} : ex_M G 1 0 0 my_X12_sortOf [.int (nI 13)] h (rv (some (.int (nI 2))) h) := by
  refine ex_M_of ok_X12_sortOf cw_X12_sortOf rfl hst (Nat.le_of_ble_eq_true rfl) ?_
  refine ex_iload_n ok_X12_sortOf (mi 0 rfl) rfl ?_
  refine ex_tblk (tgt := 106) ok_X12_sortOf (mi 1 rfl) (by decide) (by decide) (by decide) (by decide) ?_
  refine ex_iconst ok_X12_sortOf (mi 4 rfl) ?_
  refine ex_iret ok_X12_sortOf (mi 5 rfl) rfl ?_
  exact ⟨inlI (by decide), rfl⟩
theorem x_sort13 {G : GE} (hst : (ge_l G).stackTraces = false) {g : GT} : ex_M G 1 0 0 my_X12_sortOf [.int (nI 13)] g (SVp g (fun v => v = some (.int (nI 2)))) := ex_M.mono (m_sort13 hst) (fun r h q => ⟨_, q.1, rfl, q.2⟩)
theorem m_sort14 {G : GE} (hst : (ge_l G).stackTraces = false) {h : GT} : ex_M G 1 0 0 my_X12_sortOf [.int (nI 14)] h (rv (some (.int (nI 0))) h) := by
  refine ex_M_of ok_X12_sortOf cw_X12_sortOf rfl hst (Nat.le_of_ble_eq_true rfl) ?_
  refine ex_iload_n ok_X12_sortOf (mi 0 rfl) rfl ?_
  refine ex_tblk (tgt := 110) ok_X12_sortOf (mi 1 rfl) (by decide) (by decide) (by decide) (by decide) ?_
  refine ex_iconst ok_X12_sortOf (mi 8 rfl) ?_
  refine ex_iret ok_X12_sortOf (mi 9 rfl) rfl ?_
  exact ⟨inlI (by decide), rfl⟩
theorem x_sort14 {G : GE} (hst : (ge_l G).stackTraces = false) {g : GT} : ex_M G 1 0 0 my_X12_sortOf [.int (nI 14)] g (SVp g (fun v => v = some (.int (nI 0)))) := ex_M.mono (m_sort14 hst) (fun r h q => ⟨_, q.1, rfl, q.2⟩)
theorem m_sort15 {G : GE} (hst : (ge_l G).stackTraces = false) {h : GT} : ex_M G 1 0 0 my_X12_sortOf [.int (nI 15)] h (rv (some (.int (nI 0))) h) := by
  refine ex_M_of ok_X12_sortOf cw_X12_sortOf rfl hst (Nat.le_of_ble_eq_true rfl) ?_
  refine ex_iload_n ok_X12_sortOf (mi 0 rfl) rfl ?_
  refine ex_tblk (tgt := 110) ok_X12_sortOf (mi 1 rfl) (by decide) (by decide) (by decide) (by decide) ?_
  refine ex_iconst ok_X12_sortOf (mi 8 rfl) ?_
  refine ex_iret ok_X12_sortOf (mi 9 rfl) rfl ?_
  exact ⟨inlI (by decide), rfl⟩
theorem x_sort15 {G : GE} (hst : (ge_l G).stackTraces = false) {g : GT} : ex_M G 1 0 0 my_X12_sortOf [.int (nI 15)] g (SVp g (fun v => v = some (.int (nI 0)))) := ex_M.mono (m_sort15 hst) (fun r h q => ⟨_, q.1, rfl, q.2⟩)
theorem m_sort16 {G : GE} (hst : (ge_l G).stackTraces = false) {h : GT} : ex_M G 1 0 0 my_X12_sortOf [.int (nI 16)] h (rv (some (.int (nI 1))) h) := by
  refine ex_M_of ok_X12_sortOf cw_X12_sortOf rfl hst (Nat.le_of_ble_eq_true rfl) ?_
  refine ex_iload_n ok_X12_sortOf (mi 0 rfl) rfl ?_
  refine ex_tblk (tgt := 104) ok_X12_sortOf (mi 1 rfl) (by decide) (by decide) (by decide) (by decide) ?_
  refine ex_iconst ok_X12_sortOf (mi 2 rfl) ?_
  refine ex_iret ok_X12_sortOf (mi 3 rfl) rfl ?_
  exact ⟨inlI (by decide), rfl⟩
theorem x_sort16 {G : GE} (hst : (ge_l G).stackTraces = false) {g : GT} : ex_M G 1 0 0 my_X12_sortOf [.int (nI 16)] g (SVp g (fun v => v = some (.int (nI 1)))) := ex_M.mono (m_sort16 hst) (fun r h q => ⟨_, q.1, rfl, q.2⟩)
theorem m_sort17 {G : GE} (hst : (ge_l G).stackTraces = false) {h : GT} : ex_M G 1 0 0 my_X12_sortOf [.int (nI 17)] h (rv (some (.int (nI 0))) h) := by
  refine ex_M_of ok_X12_sortOf cw_X12_sortOf rfl hst (Nat.le_of_ble_eq_true rfl) ?_
  refine ex_iload_n ok_X12_sortOf (mi 0 rfl) rfl ?_
  refine ex_tblk (tgt := 110) ok_X12_sortOf (mi 1 rfl) (by decide) (by decide) (by decide) (by decide) ?_
  refine ex_iconst ok_X12_sortOf (mi 8 rfl) ?_
  refine ex_iret ok_X12_sortOf (mi 9 rfl) rfl ?_
  exact ⟨inlI (by decide), rfl⟩
theorem x_sort17 {G : GE} (hst : (ge_l G).stackTraces = false) {g : GT} : ex_M G 1 0 0 my_X12_sortOf [.int (nI 17)] g (SVp g (fun v => v = some (.int (nI 0)))) := ex_M.mono (m_sort17 hst) (fun r h q => ⟨_, q.1, rfl, q.2⟩)
theorem m_sort18 {G : GE} (hst : (ge_l G).stackTraces = false) {h : GT} : ex_M G 1 0 0 my_X12_sortOf [.int (nI 18)] h (rv (some (.int (nI 1))) h) := by
  refine ex_M_of ok_X12_sortOf cw_X12_sortOf rfl hst (Nat.le_of_ble_eq_true rfl) ?_
  refine ex_iload_n ok_X12_sortOf (mi 0 rfl) rfl ?_
  refine ex_tblk (tgt := 104) ok_X12_sortOf (mi 1 rfl) (by decide) (by decide) (by decide) (by decide) ?_
  refine ex_iconst ok_X12_sortOf (mi 2 rfl) ?_
  refine ex_iret ok_X12_sortOf (mi 3 rfl) rfl ?_
  exact ⟨inlI (by decide), rfl⟩
theorem x_sort18 {G : GE} (hst : (ge_l G).stackTraces = false) {g : GT} : ex_M G 1 0 0 my_X12_sortOf [.int (nI 18)] g (SVp g (fun v => v = some (.int (nI 1)))) := ex_M.mono (m_sort18 hst) (fun r h q => ⟨_, q.1, rfl, q.2⟩)
theorem m_sort19 {G : GE} (hst : (ge_l G).stackTraces = false) {h : GT} : ex_M G 1 0 0 my_X12_sortOf [.int (nI 19)] h (rv (some (.int (nI 0))) h) := by
  refine ex_M_of ok_X12_sortOf cw_X12_sortOf rfl hst (Nat.le_of_ble_eq_true rfl) ?_
  refine ex_iload_n ok_X12_sortOf (mi 0 rfl) rfl ?_
  refine ex_tblk (tgt := 110) ok_X12_sortOf (mi 1 rfl) (by decide) (by decide) (by decide) (by decide) ?_
  refine ex_iconst ok_X12_sortOf (mi 8 rfl) ?_
  refine ex_iret ok_X12_sortOf (mi 9 rfl) rfl ?_
  exact ⟨inlI (by decide), rfl⟩
theorem x_sort19 {G : GE} (hst : (ge_l G).stackTraces = false) {g : GT} : ex_M G 1 0 0 my_X12_sortOf [.int (nI 19)] g (SVp g (fun v => v = some (.int (nI 0)))) := ex_M.mono (m_sort19 hst) (fun r h q => ⟨_, q.1, rfl, q.2⟩)
theorem m_sort20 {G : GE} (hst : (ge_l G).stackTraces = false) {h : GT} : ex_M G 1 0 0 my_X12_sortOf [.int (nI 20)] h (rv (some (.int (nI 1))) h) := by
  refine ex_M_of ok_X12_sortOf cw_X12_sortOf rfl hst (Nat.le_of_ble_eq_true rfl) ?_
  refine ex_iload_n ok_X12_sortOf (mi 0 rfl) rfl ?_
  refine ex_tblk (tgt := 104) ok_X12_sortOf (mi 1 rfl) (by decide) (by decide) (by decide) (by decide) ?_
  refine ex_iconst ok_X12_sortOf (mi 2 rfl) ?_
  refine ex_iret ok_X12_sortOf (mi 3 rfl) rfl ?_
  exact ⟨inlI (by decide), rfl⟩
theorem x_sort20 {G : GE} (hst : (ge_l G).stackTraces = false) {g : GT} : ex_M G 1 0 0 my_X12_sortOf [.int (nI 20)] g (SVp g (fun v => v = some (.int (nI 1)))) := ex_M.mono (m_sort20 hst) (fun r h q => ⟨_, q.1, rfl, q.2⟩)
theorem m_sort21 {G : GE} (hst : (ge_l G).stackTraces = false) {h : GT} : ex_M G 1 0 0 my_X12_sortOf [.int (nI 21)] h (rv (some (.int (nI 0))) h) := by
  refine ex_M_of ok_X12_sortOf cw_X12_sortOf rfl hst (Nat.le_of_ble_eq_true rfl) ?_
  refine ex_iload_n ok_X12_sortOf (mi 0 rfl) rfl ?_
  refine ex_tblk (tgt := 110) ok_X12_sortOf (mi 1 rfl) (by decide) (by decide) (by decide) (by decide) ?_
  refine ex_iconst ok_X12_sortOf (mi 8 rfl) ?_
  refine ex_iret ok_X12_sortOf (mi 9 rfl) rfl ?_
  exact ⟨inlI (by decide), rfl⟩
theorem x_sort21 {G : GE} (hst : (ge_l G).stackTraces = false) {g : GT} : ex_M G 1 0 0 my_X12_sortOf [.int (nI 21)] g (SVp g (fun v => v = some (.int (nI 0)))) := ex_M.mono (m_sort21 hst) (fun r h q => ⟨_, q.1, rfl, q.2⟩)
theorem m_sort22 {G : GE} (hst : (ge_l G).stackTraces = false) {h : GT} : ex_M G 1 0 0 my_X12_sortOf [.int (nI 22)] h (rv (some (.int (nI 1))) h) := by
  refine ex_M_of ok_X12_sortOf cw_X12_sortOf rfl hst (Nat.le_of_ble_eq_true rfl) ?_
  refine ex_iload_n ok_X12_sortOf (mi 0 rfl) rfl ?_
  refine ex_tblk (tgt := 104) ok_X12_sortOf (mi 1 rfl) (by decide) (by decide) (by decide) (by decide) ?_
  refine ex_iconst ok_X12_sortOf (mi 2 rfl) ?_
  refine ex_iret ok_X12_sortOf (mi 3 rfl) rfl ?_
  exact ⟨inlI (by decide), rfl⟩
theorem x_sort22 {G : GE} (hst : (ge_l G).stackTraces = false) {g : GT} : ex_M G 1 0 0 my_X12_sortOf [.int (nI 22)] g (SVp g (fun v => v = some (.int (nI 1)))) := ex_M.mono (m_sort22 hst) (fun r h q => ⟨_, q.1, rfl, q.2⟩)
theorem m_sort23 {G : GE} (hst : (ge_l G).stackTraces = false) {h : GT} : ex_M G 1 0 0 my_X12_sortOf [.int (nI 23)] h (rv (some (.int (nI 0))) h) := by
  refine ex_M_of ok_X12_sortOf cw_X12_sortOf rfl hst (Nat.le_of_ble_eq_true rfl) ?_
  refine ex_iload_n ok_X12_sortOf (mi 0 rfl) rfl ?_
  refine ex_tblk (tgt := 110) ok_X12_sortOf (mi 1 rfl) (by decide) (by decide) (by decide) (by decide) ?_
  refine ex_iconst ok_X12_sortOf (mi 8 rfl) ?_
  refine ex_iret ok_X12_sortOf (mi 9 rfl) rfl ?_
  exact ⟨inlI (by decide), rfl⟩
theorem x_sort23 {G : GE} (hst : (ge_l G).stackTraces = false) {g : GT} : ex_M G 1 0 0 my_X12_sortOf [.int (nI 23)] g (SVp g (fun v => v = some (.int (nI 0)))) := ex_M.mono (m_sort23 hst) (fun r h q => ⟨_, q.1, rfl, q.2⟩)
theorem m_sort24 {G : GE} (hst : (ge_l G).stackTraces = false) {h : GT} : ex_M G 1 0 0 my_X12_sortOf [.int (nI 24)] h (rv (some (.int (nI 0))) h) := by
  refine ex_M_of ok_X12_sortOf cw_X12_sortOf rfl hst (Nat.le_of_ble_eq_true rfl) ?_
  refine ex_iload_n ok_X12_sortOf (mi 0 rfl) rfl ?_
  refine ex_tblk (tgt := 110) ok_X12_sortOf (mi 1 rfl) (by decide) (by decide) (by decide) (by decide) ?_
  refine ex_iconst ok_X12_sortOf (mi 8 rfl) ?_
  refine ex_iret ok_X12_sortOf (mi 9 rfl) rfl ?_
  exact ⟨inlI (by decide), rfl⟩
theorem x_sort24 {G : GE} (hst : (ge_l G).stackTraces = false) {g : GT} : ex_M G 1 0 0 my_X12_sortOf [.int (nI 24)] g (SVp g (fun v => v = some (.int (nI 0)))) := ex_M.mono (m_sort24 hst) (fun r h q => ⟨_, q.1, rfl, q.2⟩)
theorem m_first0 {G : GE} (hst : (ge_l G).stackTraces = false) {h : GT} : ex_M G 1 0 0 my_X12_first [.int (nI 0)] h (rv (some (.int (nI 0))) h) := by
  refine ex_M_of ok_X12_first cw_X12_first rfl hst (Nat.le_of_ble_eq_true rfl) ?_
  refine ex_iload_n ok_X12_first (mi 0 rfl) rfl ?_
  refine ex_if_ne (tgt := 8) ok_X12_first (mi 1 rfl) rfl (fun hn => absurd (by decide) hn) (fun _ => ?_)
  refine ex_iconst ok_X12_first (mi 2 rfl) ?_
  refine ex_goto (tgt := 29) ok_X12_first (mi 3 rfl) rfl ?_
  refine ex_iret ok_X12_first (mi 15 rfl) rfl ?_
  exact ⟨inlI (by decide), rfl⟩
theorem x_first0 {G : GE} (hst : (ge_l G).stackTraces = false) {g : GT} : ex_M G 1 0 0 my_X12_first [.int (nI 0)] g (SVp g (fun v => v = some (.int (nI 0)))) := ex_M.mono (m_first0 hst) (fun r h q => ⟨_, q.1, rfl, q.2⟩)
theorem m_first1 {G : GE} (hst : (ge_l G).stackTraces = false) {h : GT} : ex_M G 1 0 0 my_X12_first [.int (nI 1)] h (rv (some (.int (nI 3))) h) := by
  refine ex_M_of ok_X12_first cw_X12_first rfl hst (Nat.le_of_ble_eq_true rfl) ?_
  refine ex_iload_n ok_X12_first (mi 0 rfl) rfl ?_
  refine ex_if_ne (tgt := 8) ok_X12_first (mi 1 rfl) rfl (fun _ => ?_) (fun hn => absurd hn (by decide))
  refine ex_iload_n ok_X12_first (mi 4 rfl) rfl ?_
  refine ex_iconst ok_X12_first (mi 5 rfl) ?_
  refine ex_icmp_ne (tgt := 17) ok_X12_first (mi 6 rfl) rfl (fun hn => absurd (by decide) hn) (fun _ => ?_)
  refine ex_iconst ok_X12_first (mi 7 rfl) ?_
  refine ex_goto (tgt := 29) ok_X12_first (mi 8 rfl) rfl ?_
  refine ex_iret ok_X12_first (mi 15 rfl) rfl ?_
  exact ⟨inlI (by decide), rfl⟩
theorem x_first1 {G : GE} (hst : (ge_l G).stackTraces = false) {g : GT} : ex_M G 1 0 0 my_X12_first [.int (nI 1)] g (SVp g (fun v => v = some (.int (nI 3)))) := ex_M.mono (m_first1 hst) (fun r h q => ⟨_, q.1, rfl, q.2⟩)
theorem m_first2 {G : GE} (hst : (ge_l G).stackTraces = false) {h : GT} : ex_M G 1 0 0 my_X12_first [.int (nI 2)] h (rv (some (.int (nI 12))) h) := by
  refine ex_M_of ok_X12_first cw_X12_first rfl hst (Nat.le_of_ble_eq_true rfl) ?_
  refine ex_iload_n ok_X12_first (mi 0 rfl) rfl ?_
  refine ex_if_ne (tgt := 8) ok_X12_first (mi 1 rfl) rfl (fun _ => ?_) (fun hn => absurd hn (by decide))
  refine ex_iload_n ok_X12_first (mi 4 rfl) rfl ?_
  refine ex_iconst ok_X12_first (mi 5 rfl) ?_
  refine ex_icmp_ne (tgt := 17) ok_X12_first (mi 6 rfl) rfl (fun _ => ?_) (fun hn => absurd hn (by decide))
  refine ex_iload_n ok_X12_first (mi 9 rfl) rfl ?_
  refine ex_iconst ok_X12_first (mi 10 rfl) ?_
  refine ex_icmp_ne (tgt := 27) ok_X12_first (mi 11 rfl) rfl (fun hn => absurd (by decide) hn) (fun _ => ?_)
  refine ex_bipush ok_X12_first (mi 12 rfl) ?_
  refine ex_goto (tgt := 29) ok_X12_first (mi 13 rfl) rfl ?_
  refine ex_iret ok_X12_first (mi 15 rfl) rfl ?_
  exact ⟨inlI (by decide), rfl⟩
theorem x_first2 {G : GE} (hst : (ge_l G).stackTraces = false) {g : GT} : ex_M G 1 0 0 my_X12_first [.int (nI 2)] g (SVp g (fun v => v = some (.int (nI 12)))) := ex_M.mono (m_first2 hst) (fun r h q => ⟨_, q.1, rfl, q.2⟩)
theorem m_first3 {G : GE} (hst : (ge_l G).stackTraces = false) {h : GT} : ex_M G 1 0 0 my_X12_first [.int (nI 3)] h (rv (some (.int (nI 24))) h) := by
  refine ex_M_of ok_X12_first cw_X12_first rfl hst (Nat.le_of_ble_eq_true rfl) ?_
  refine ex_iload_n ok_X12_first (mi 0 rfl) rfl ?_
  refine ex_if_ne (tgt := 8) ok_X12_first (mi 1 rfl) rfl (fun _ => ?_) (fun hn => absurd hn (by decide))
  refine ex_iload_n ok_X12_first (mi 4 rfl) rfl ?_
  refine ex_iconst ok_X12_first (mi 5 rfl) ?_
  refine ex_icmp_ne (tgt := 17) ok_X12_first (mi 6 rfl) rfl (fun _ => ?_) (fun hn => absurd hn (by decide))
  refine ex_iload_n ok_X12_first (mi 9 rfl) rfl ?_
  refine ex_iconst ok_X12_first (mi 10 rfl) ?_
  refine ex_icmp_ne (tgt := 27) ok_X12_first (mi 11 rfl) rfl (fun _ => ?_) (fun hn => absurd hn (by decide))
  refine ex_bipush ok_X12_first (mi 14 rfl) ?_
  refine ex_iret ok_X12_first (mi 15 rfl) rfl ?_
  exact ⟨inlI (by decide), rfl⟩
theorem x_first3 {G : GE} (hst : (ge_l G).stackTraces = false) {g : GT} : ex_M G 1 0 0 my_X12_first [.int (nI 3)] g (SVp g (fun v => v = some (.int (nI 24)))) := ex_M.mono (m_first3 hst) (fun r h q => ⟨_, q.1, rfl, q.2⟩)
theorem arrive_0 {G : GE} (hst : (ge_l G).stackTraces = false) {y t m : Nat} {D : UT} {R : Nat → Prop} {g : GT} (I : MI y D 402 R g) (ht : t < 402) (mk : MK y g t 0 m) : ex_W G 7 0 0 M_X12_arrive 13 [(0, .ref y), (2, .int (nI t)), (3, .int (nI 0))] [] g (SM y D 402 R pI) := by
  refine ex_iload_n ok_X12_arrive (mi 9 rfl) rfl ?_
  refine sf_Sp (As := [_]) ok_X12_arrive (mi 10 rfl) rfl (x_sort0 hst) rfl rfl rfl (by decide) (Nat.le_of_ble_eq_true rfl) (by decide) (fun z1 p2 => ?_)
  subst p2
  refine ex_istore ok_X12_arrive (mi 11 rfl) ?_
  refine ex_aload_n ok_X12_arrive (mi 12 rfl) rfl ?_
  refine ex_getRx ok_X12_arrive (mi 13 rfl) rfl rfl (fk (MI_s I) 0 rfl) (fr (MI_s I) 51 rfl) (fk (MI_s I) 52 rfl) (by decide) ?_
  refine ex_iload_n ok_X12_arrive (mi 14 rfl) rfl ?_
  refine sm_iald ok_X12_arrive (mi 15 rfl) (fk (MI_s I) 52 rfl) (fn (MI_s I) 52 rfl) rfl (by omega) (by decide) ?_
  obtain ⟨v5, hv5, ev5⟩ := vp_in_of (n := 3) (vb_in mk.2.1 (by decide)) (by decide)
  refine ex_top (w := nI v5) ev5 ?_
  refine ex_istore ok_X12_arrive (mi 16 rfl) ?_
  refine ex_aload_n ok_X12_arrive (mi 17 rfl) rfl ?_
  refine ex_getRx ok_X12_arrive (mi 18 rfl) rfl rfl (fk (MI_s I) 0 rfl) (fr (MI_s I) 0 rfl) (fk (MI_s I) 1 rfl) (by decide) ?_
  refine ex_iload ok_X12_arrive (mi 19 rfl) rfl ?_
  refine sf_Sp (As := [_]) ok_X12_arrive (mi 20 rfl) rfl (x_first0 hst) rfl rfl rfl (by decide) (Nat.le_of_ble_eq_true rfl) (by decide) (fun z6 p7 => ?_)
  subst p7
  refine ex_iload ok_X12_arrive (mi 21 rfl) rfl ?_
  refine ex_iadd ok_X12_arrive (mi 22 rfl) ?_
  refine ex_top (w := (nI (0 + v5))) (nI_add 0 _) ?_
  refine sm_bal ok_X12_arrive (mi 23 rfl) (fk (MI_s I) 1 rfl) (fn (MI_s I) 1 rfl) rfl (by omega) (by decide) ?_
  refine ex_gen (fun w10 => ?_)
  refine ex_if_eq (tgt := 55) ok_X12_arrive (mi 24 rfl) rfl (fun h40 => ?_) (fun h40 => ?_)
  · skip
    refine ex_aload_n ok_X12_arrive (mi 33 rfl) rfl ?_
    refine ex_dup ok_X12_arrive (mi 34 rfl) rfl ?_
    refine ex_getI ok_X12_arrive (mi 35 rfl) rfl rfl (fk (MI_s I) 0 rfl) ?_
    refine ex_gen (fun w11 => ?_)
    refine ex_iconst ok_X12_arrive (mi 36 rfl) ?_
    refine ex_iadd ok_X12_arrive (mi 37 rfl) ?_
    refine ex_gen (fun w12 => ?_)
    refine mf_putI I ok_X12_arrive (mi 38 rfl) rfl rfl (fk (MI_s I) 0 rfl) (by decide) (by decide) (fun g13 J14 K15 => ?_)
    have mk16 := KK_mk K15 mk
    refine ex_aload_n ok_X12_arrive (mi 39 rfl) rfl ?_
    refine ex_getRx ok_X12_arrive (mi 40 rfl) rfl rfl (fk (MI_s J14) 0 rfl) (fr (MI_s J14) 48 rfl) (fk (MI_s J14) 49 rfl) (by decide) ?_
    refine ex_iload_n ok_X12_arrive (mi 41 rfl) rfl ?_
    refine ex_iconst ok_X12_arrive (mi 42 rfl) ?_
    refine mf_on J14 ok_X12_arrive (mi 43 rfl) (fk (MI_s J14) 49 rfl) (fn (MI_s J14) 49 rfl) rfl ht (fun g17 J18 K19 => ?_)
    have mk20 := KK_mk K19 mk16
    refine ex_iload ok_X12_arrive (mi 44 rfl) rfl ?_
    refine ex_if_ne (tgt := 87) ok_X12_arrive (mi 45 rfl) rfl (fun hn => absurd (by decide) hn) (fun _ => ?_)
    refine ex_aload_n ok_X12_arrive (mi 46 rfl) rfl ?_
    refine ex_iload ok_X12_arrive (mi 47 rfl) rfl ?_
    refine ex_iload_n ok_X12_arrive (mi 48 rfl) rfl ?_
    refine sm_V (As := [_, _]) ok_X12_arrive (mi 49 rfl) rfl (s_X12_toLeader_0 hst J18 (by omega) ht mk20) rfl (fk (MI_s J18) 0 rfl) rfl rfl (by decide) (by decide) (Nat.le_of_ble_eq_true rfl) (by decide) SM_no (fun z21 g23 p22 => ?_)
    obtain ⟨u25, eu25, u25p, J24⟩ := p22
    cases eu25
    obtain rfl : z21 = none := u25p
    refine ex_goto (tgt := 126) ok_X12_arrive (mi 50 rfl) rfl ?_
    refine ex_aload_n ok_X12_arrive (mi 71 rfl) rfl ?_
    refine ex_getRx ok_X12_arrive (mi 72 rfl) rfl rfl (fk (MI_s J24) 0 rfl) (fr (MI_s J24) 48 rfl) (fk (MI_s J24) 49 rfl) (by decide) ?_
    refine ex_iload_n ok_X12_arrive (mi 73 rfl) rfl ?_
    refine ex_iconst ok_X12_arrive (mi 74 rfl) ?_
    refine mf_off J24 ok_X12_arrive (mi 75 rfl) (fk (MI_s J24) 49 rfl) (fn (MI_s J24) 49 rfl) rfl ht (fun g26 J27 K28 => ?_)
    refine ex_iload_n ok_X12_arrive (mi 76 rfl) rfl ?_
    refine ex_iret ok_X12_arrive (mi 77 rfl) rfl ?_
    exact ⟨_, rfl, ⟨_, rfl⟩, J27⟩
  · skip
    refine ex_aload_n ok_X12_arrive (mi 25 rfl) rfl ?_
    refine ex_dup ok_X12_arrive (mi 26 rfl) rfl ?_
    refine ex_getI ok_X12_arrive (mi 27 rfl) rfl rfl (fk (MI_s I) 0 rfl) ?_
    refine ex_gen (fun w29 => ?_)
    refine ex_iconst ok_X12_arrive (mi 28 rfl) ?_
    refine ex_iadd ok_X12_arrive (mi 29 rfl) ?_
    refine ex_gen (fun w30 => ?_)
    refine mf_putI I ok_X12_arrive (mi 30 rfl) rfl rfl (fk (MI_s I) 0 rfl) (by decide) (by decide) (fun g31 J32 K33 => ?_)
    have mk34 := KK_mk K33 mk
    refine ex_iload_n ok_X12_arrive (mi 31 rfl) rfl ?_
    refine ex_iret ok_X12_arrive (mi 32 rfl) rfl ?_
    exact ⟨_, rfl, ⟨_, rfl⟩, J32⟩
theorem arrive_1 {G : GE} (hst : (ge_l G).stackTraces = false) {y t m : Nat} {D : UT} {R : Nat → Prop} {g : GT} (I : MI y D 402 R g) (ht : t < 402) (mk : MK y g t 1 m) : ex_W G 7 0 0 M_X12_arrive 13 [(0, .ref y), (2, .int (nI t)), (3, .int (nI 1))] [] g (SM y D 402 R pI) := by
  refine ex_iload_n ok_X12_arrive (mi 9 rfl) rfl ?_
  refine sf_Sp (As := [_]) ok_X12_arrive (mi 10 rfl) rfl (x_sort1 hst) rfl rfl rfl (by decide) (Nat.le_of_ble_eq_true rfl) (by decide) (fun z1 p2 => ?_)
  subst p2
  refine ex_istore ok_X12_arrive (mi 11 rfl) ?_
  refine ex_aload_n ok_X12_arrive (mi 12 rfl) rfl ?_
  refine ex_getRx ok_X12_arrive (mi 13 rfl) rfl rfl (fk (MI_s I) 0 rfl) (fr (MI_s I) 51 rfl) (fk (MI_s I) 52 rfl) (by decide) ?_
  refine ex_iload_n ok_X12_arrive (mi 14 rfl) rfl ?_
  refine sm_iald ok_X12_arrive (mi 15 rfl) (fk (MI_s I) 52 rfl) (fn (MI_s I) 52 rfl) rfl (by omega) (by decide) ?_
  obtain ⟨v5, hv5, ev5⟩ := vp_in_of (n := 9) (vb_in mk.2.1 (by decide)) (by decide)
  refine ex_top (w := nI v5) ev5 ?_
  refine ex_istore ok_X12_arrive (mi 16 rfl) ?_
  refine ex_aload_n ok_X12_arrive (mi 17 rfl) rfl ?_
  refine ex_getRx ok_X12_arrive (mi 18 rfl) rfl rfl (fk (MI_s I) 0 rfl) (fr (MI_s I) 0 rfl) (fk (MI_s I) 1 rfl) (by decide) ?_
  refine ex_iload ok_X12_arrive (mi 19 rfl) rfl ?_
  refine sf_Sp (As := [_]) ok_X12_arrive (mi 20 rfl) rfl (x_first1 hst) rfl rfl rfl (by decide) (Nat.le_of_ble_eq_true rfl) (by decide) (fun z6 p7 => ?_)
  subst p7
  refine ex_iload ok_X12_arrive (mi 21 rfl) rfl ?_
  refine ex_iadd ok_X12_arrive (mi 22 rfl) ?_
  refine ex_top (w := (nI (3 + v5))) (nI_add 3 _) ?_
  refine sm_bal ok_X12_arrive (mi 23 rfl) (fk (MI_s I) 1 rfl) (fn (MI_s I) 1 rfl) rfl (by omega) (by decide) ?_
  refine ex_gen (fun w10 => ?_)
  refine ex_if_eq (tgt := 55) ok_X12_arrive (mi 24 rfl) rfl (fun h40 => ?_) (fun h40 => ?_)
  · skip
    refine ex_aload_n ok_X12_arrive (mi 33 rfl) rfl ?_
    refine ex_dup ok_X12_arrive (mi 34 rfl) rfl ?_
    refine ex_getI ok_X12_arrive (mi 35 rfl) rfl rfl (fk (MI_s I) 0 rfl) ?_
    refine ex_gen (fun w11 => ?_)
    refine ex_iconst ok_X12_arrive (mi 36 rfl) ?_
    refine ex_iadd ok_X12_arrive (mi 37 rfl) ?_
    refine ex_gen (fun w12 => ?_)
    refine mf_putI I ok_X12_arrive (mi 38 rfl) rfl rfl (fk (MI_s I) 0 rfl) (by decide) (by decide) (fun g13 J14 K15 => ?_)
    have mk16 := KK_mk K15 mk
    refine ex_aload_n ok_X12_arrive (mi 39 rfl) rfl ?_
    refine ex_getRx ok_X12_arrive (mi 40 rfl) rfl rfl (fk (MI_s J14) 0 rfl) (fr (MI_s J14) 48 rfl) (fk (MI_s J14) 49 rfl) (by decide) ?_
    refine ex_iload_n ok_X12_arrive (mi 41 rfl) rfl ?_
    refine ex_iconst ok_X12_arrive (mi 42 rfl) ?_
    refine mf_on J14 ok_X12_arrive (mi 43 rfl) (fk (MI_s J14) 49 rfl) (fn (MI_s J14) 49 rfl) rfl ht (fun g17 J18 K19 => ?_)
    have mk20 := KK_mk K19 mk16
    refine ex_iload ok_X12_arrive (mi 44 rfl) rfl ?_
    refine ex_if_ne (tgt := 87) ok_X12_arrive (mi 45 rfl) rfl (fun _ => ?_) (fun hn => absurd hn (by decide))
    refine ex_iload ok_X12_arrive (mi 51 rfl) rfl ?_
    refine ex_iconst ok_X12_arrive (mi 52 rfl) ?_
    refine ex_icmp_ne (tgt := 103) ok_X12_arrive (mi 53 rfl) rfl (fun hn => absurd (by decide) hn) (fun _ => ?_)
    refine ex_aload_n ok_X12_arrive (mi 54 rfl) rfl ?_
    refine ex_iload ok_X12_arrive (mi 55 rfl) rfl ?_
    refine ex_iload_n ok_X12_arrive (mi 56 rfl) rfl ?_
    refine sm_V (As := [_, _]) ok_X12_arrive (mi 57 rfl) rfl (s_X12_toKeeper_1 hst J18 (by omega) ht mk20) rfl (fk (MI_s J18) 0 rfl) rfl rfl (by decide) (by decide) (Nat.le_of_ble_eq_true rfl) (by decide) SM_no (fun z21 g23 p22 => ?_)
    obtain ⟨u25, eu25, u25p, J24⟩ := p22
    cases eu25
    obtain rfl : z21 = none := u25p
    refine ex_goto (tgt := 126) ok_X12_arrive (mi 58 rfl) rfl ?_
    refine ex_aload_n ok_X12_arrive (mi 71 rfl) rfl ?_
    refine ex_getRx ok_X12_arrive (mi 72 rfl) rfl rfl (fk (MI_s J24) 0 rfl) (fr (MI_s J24) 48 rfl) (fk (MI_s J24) 49 rfl) (by decide) ?_
    refine ex_iload_n ok_X12_arrive (mi 73 rfl) rfl ?_
    refine ex_iconst ok_X12_arrive (mi 74 rfl) ?_
    refine mf_off J24 ok_X12_arrive (mi 75 rfl) (fk (MI_s J24) 49 rfl) (fn (MI_s J24) 49 rfl) rfl ht (fun g26 J27 K28 => ?_)
    refine ex_iload_n ok_X12_arrive (mi 76 rfl) rfl ?_
    refine ex_iret ok_X12_arrive (mi 77 rfl) rfl ?_
    exact ⟨_, rfl, ⟨_, rfl⟩, J27⟩
  · skip
    refine ex_aload_n ok_X12_arrive (mi 25 rfl) rfl ?_
    refine ex_dup ok_X12_arrive (mi 26 rfl) rfl ?_
    refine ex_getI ok_X12_arrive (mi 27 rfl) rfl rfl (fk (MI_s I) 0 rfl) ?_
    refine ex_gen (fun w29 => ?_)
    refine ex_iconst ok_X12_arrive (mi 28 rfl) ?_
    refine ex_iadd ok_X12_arrive (mi 29 rfl) ?_
    refine ex_gen (fun w30 => ?_)
    refine mf_putI I ok_X12_arrive (mi 30 rfl) rfl rfl (fk (MI_s I) 0 rfl) (by decide) (by decide) (fun g31 J32 K33 => ?_)
    have mk34 := KK_mk K33 mk
    refine ex_iload_n ok_X12_arrive (mi 31 rfl) rfl ?_
    refine ex_iret ok_X12_arrive (mi 32 rfl) rfl ?_
    exact ⟨_, rfl, ⟨_, rfl⟩, J32⟩
theorem arrive_2 {G : GE} (hst : (ge_l G).stackTraces = false) {y t m : Nat} {D : UT} {R : Nat → Prop} {g : GT} (I : MI y D 402 R g) (ht : t < 402) (mk : MK y g t 2 m) : ex_W G 7 0 0 M_X12_arrive 13 [(0, .ref y), (2, .int (nI t)), (3, .int (nI 2))] [] g (SM y D 402 R pI) := by
  refine ex_iload_n ok_X12_arrive (mi 9 rfl) rfl ?_
  refine sf_Sp (As := [_]) ok_X12_arrive (mi 10 rfl) rfl (x_sort2 hst) rfl rfl rfl (by decide) (Nat.le_of_ble_eq_true rfl) (by decide) (fun z1 p2 => ?_)
  subst p2
  refine ex_istore ok_X12_arrive (mi 11 rfl) ?_
  refine ex_aload_n ok_X12_arrive (mi 12 rfl) rfl ?_
  refine ex_getRx ok_X12_arrive (mi 13 rfl) rfl rfl (fk (MI_s I) 0 rfl) (fr (MI_s I) 51 rfl) (fk (MI_s I) 52 rfl) (by decide) ?_
  refine ex_iload_n ok_X12_arrive (mi 14 rfl) rfl ?_
  refine sm_iald ok_X12_arrive (mi 15 rfl) (fk (MI_s I) 52 rfl) (fn (MI_s I) 52 rfl) rfl (by omega) (by decide) ?_
  obtain ⟨v5, hv5, ev5⟩ := vp_in_of (n := 3) (vb_in mk.2.1 (by decide)) (by decide)
  refine ex_top (w := nI v5) ev5 ?_
  refine ex_istore ok_X12_arrive (mi 16 rfl) ?_
  refine ex_aload_n ok_X12_arrive (mi 17 rfl) rfl ?_
  refine ex_getRx ok_X12_arrive (mi 18 rfl) rfl rfl (fk (MI_s I) 0 rfl) (fr (MI_s I) 0 rfl) (fk (MI_s I) 1 rfl) (by decide) ?_
  refine ex_iload ok_X12_arrive (mi 19 rfl) rfl ?_
  refine sf_Sp (As := [_]) ok_X12_arrive (mi 20 rfl) rfl (x_first0 hst) rfl rfl rfl (by decide) (Nat.le_of_ble_eq_true rfl) (by decide) (fun z6 p7 => ?_)
  subst p7
  refine ex_iload ok_X12_arrive (mi 21 rfl) rfl ?_
  refine ex_iadd ok_X12_arrive (mi 22 rfl) ?_
  refine ex_top (w := (nI (0 + v5))) (nI_add 0 _) ?_
  refine sm_bal ok_X12_arrive (mi 23 rfl) (fk (MI_s I) 1 rfl) (fn (MI_s I) 1 rfl) rfl (by omega) (by decide) ?_
  refine ex_gen (fun w10 => ?_)
  refine ex_if_eq (tgt := 55) ok_X12_arrive (mi 24 rfl) rfl (fun h40 => ?_) (fun h40 => ?_)
  · skip
    refine ex_aload_n ok_X12_arrive (mi 33 rfl) rfl ?_
    refine ex_dup ok_X12_arrive (mi 34 rfl) rfl ?_
    refine ex_getI ok_X12_arrive (mi 35 rfl) rfl rfl (fk (MI_s I) 0 rfl) ?_
    refine ex_gen (fun w11 => ?_)
    refine ex_iconst ok_X12_arrive (mi 36 rfl) ?_
    refine ex_iadd ok_X12_arrive (mi 37 rfl) ?_
    refine ex_gen (fun w12 => ?_)
    refine mf_putI I ok_X12_arrive (mi 38 rfl) rfl rfl (fk (MI_s I) 0 rfl) (by decide) (by decide) (fun g13 J14 K15 => ?_)
    have mk16 := KK_mk K15 mk
    refine ex_aload_n ok_X12_arrive (mi 39 rfl) rfl ?_
    refine ex_getRx ok_X12_arrive (mi 40 rfl) rfl rfl (fk (MI_s J14) 0 rfl) (fr (MI_s J14) 48 rfl) (fk (MI_s J14) 49 rfl) (by decide) ?_
    refine ex_iload_n ok_X12_arrive (mi 41 rfl) rfl ?_
    refine ex_iconst ok_X12_arrive (mi 42 rfl) ?_
    refine mf_on J14 ok_X12_arrive (mi 43 rfl) (fk (MI_s J14) 49 rfl) (fn (MI_s J14) 49 rfl) rfl ht (fun g17 J18 K19 => ?_)
    have mk20 := KK_mk K19 mk16
    refine ex_iload ok_X12_arrive (mi 44 rfl) rfl ?_
    refine ex_if_ne (tgt := 87) ok_X12_arrive (mi 45 rfl) rfl (fun hn => absurd (by decide) hn) (fun _ => ?_)
    refine ex_aload_n ok_X12_arrive (mi 46 rfl) rfl ?_
    refine ex_iload ok_X12_arrive (mi 47 rfl) rfl ?_
    refine ex_iload_n ok_X12_arrive (mi 48 rfl) rfl ?_
    refine sm_V (As := [_, _]) ok_X12_arrive (mi 49 rfl) rfl (s_X12_toLeader_2 hst J18 (by omega) ht mk20) rfl (fk (MI_s J18) 0 rfl) rfl rfl (by decide) (by decide) (Nat.le_of_ble_eq_true rfl) (by decide) SM_no (fun z21 g23 p22 => ?_)
    obtain ⟨u25, eu25, u25p, J24⟩ := p22
    cases eu25
    obtain rfl : z21 = none := u25p
    refine ex_goto (tgt := 126) ok_X12_arrive (mi 50 rfl) rfl ?_
    refine ex_aload_n ok_X12_arrive (mi 71 rfl) rfl ?_
    refine ex_getRx ok_X12_arrive (mi 72 rfl) rfl rfl (fk (MI_s J24) 0 rfl) (fr (MI_s J24) 48 rfl) (fk (MI_s J24) 49 rfl) (by decide) ?_
    refine ex_iload_n ok_X12_arrive (mi 73 rfl) rfl ?_
    refine ex_iconst ok_X12_arrive (mi 74 rfl) ?_
    refine mf_off J24 ok_X12_arrive (mi 75 rfl) (fk (MI_s J24) 49 rfl) (fn (MI_s J24) 49 rfl) rfl ht (fun g26 J27 K28 => ?_)
    refine ex_iload_n ok_X12_arrive (mi 76 rfl) rfl ?_
    refine ex_iret ok_X12_arrive (mi 77 rfl) rfl ?_
    exact ⟨_, rfl, ⟨_, rfl⟩, J27⟩
  · skip
    refine ex_aload_n ok_X12_arrive (mi 25 rfl) rfl ?_
    refine ex_dup ok_X12_arrive (mi 26 rfl) rfl ?_
    refine ex_getI ok_X12_arrive (mi 27 rfl) rfl rfl (fk (MI_s I) 0 rfl) ?_
    refine ex_gen (fun w29 => ?_)
    refine ex_iconst ok_X12_arrive (mi 28 rfl) ?_
    refine ex_iadd ok_X12_arrive (mi 29 rfl) ?_
    refine ex_gen (fun w30 => ?_)
    refine mf_putI I ok_X12_arrive (mi 30 rfl) rfl rfl (fk (MI_s I) 0 rfl) (by decide) (by decide) (fun g31 J32 K33 => ?_)
    have mk34 := KK_mk K33 mk
    refine ex_iload_n ok_X12_arrive (mi 31 rfl) rfl ?_
    refine ex_iret ok_X12_arrive (mi 32 rfl) rfl ?_
    exact ⟨_, rfl, ⟨_, rfl⟩, J32⟩
theorem arrive_3 {G : GE} (hst : (ge_l G).stackTraces = false) {y t m : Nat} {D : UT} {R : Nat → Prop} {g : GT} (I : MI y D 402 R g) (ht : t < 402) (mk : MK y g t 3 m) : ex_W G 7 0 0 M_X12_arrive 13 [(0, .ref y), (2, .int (nI t)), (3, .int (nI 3))] [] g (SM y D 402 R pI) := by
  refine ex_iload_n ok_X12_arrive (mi 9 rfl) rfl ?_
  refine sf_Sp (As := [_]) ok_X12_arrive (mi 10 rfl) rfl (x_sort3 hst) rfl rfl rfl (by decide) (Nat.le_of_ble_eq_true rfl) (by decide) (fun z1 p2 => ?_)
  subst p2
  refine ex_istore ok_X12_arrive (mi 11 rfl) ?_
  refine ex_aload_n ok_X12_arrive (mi 12 rfl) rfl ?_
  refine ex_getRx ok_X12_arrive (mi 13 rfl) rfl rfl (fk (MI_s I) 0 rfl) (fr (MI_s I) 51 rfl) (fk (MI_s I) 52 rfl) (by decide) ?_
  refine ex_iload_n ok_X12_arrive (mi 14 rfl) rfl ?_
  refine sm_iald ok_X12_arrive (mi 15 rfl) (fk (MI_s I) 52 rfl) (fn (MI_s I) 52 rfl) rfl (by omega) (by decide) ?_
  obtain ⟨v5, hv5, ev5⟩ := vp_in_of (n := 12) (vb_in mk.2.1 (by decide)) (by decide)
  refine ex_top (w := nI v5) ev5 ?_
  refine ex_istore ok_X12_arrive (mi 16 rfl) ?_
  refine ex_aload_n ok_X12_arrive (mi 17 rfl) rfl ?_
  refine ex_getRx ok_X12_arrive (mi 18 rfl) rfl rfl (fk (MI_s I) 0 rfl) (fr (MI_s I) 0 rfl) (fk (MI_s I) 1 rfl) (by decide) ?_
  refine ex_iload ok_X12_arrive (mi 19 rfl) rfl ?_
  refine sf_Sp (As := [_]) ok_X12_arrive (mi 20 rfl) rfl (x_first2 hst) rfl rfl rfl (by decide) (Nat.le_of_ble_eq_true rfl) (by decide) (fun z6 p7 => ?_)
  subst p7
  refine ex_iload ok_X12_arrive (mi 21 rfl) rfl ?_
  refine ex_iadd ok_X12_arrive (mi 22 rfl) ?_
  refine ex_top (w := (nI (12 + v5))) (nI_add 12 _) ?_
  refine sm_bal ok_X12_arrive (mi 23 rfl) (fk (MI_s I) 1 rfl) (fn (MI_s I) 1 rfl) rfl (by omega) (by decide) ?_
  refine ex_gen (fun w10 => ?_)
  refine ex_if_eq (tgt := 55) ok_X12_arrive (mi 24 rfl) rfl (fun h40 => ?_) (fun h40 => ?_)
  · skip
    refine ex_aload_n ok_X12_arrive (mi 33 rfl) rfl ?_
    refine ex_dup ok_X12_arrive (mi 34 rfl) rfl ?_
    refine ex_getI ok_X12_arrive (mi 35 rfl) rfl rfl (fk (MI_s I) 0 rfl) ?_
    refine ex_gen (fun w11 => ?_)
    refine ex_iconst ok_X12_arrive (mi 36 rfl) ?_
    refine ex_iadd ok_X12_arrive (mi 37 rfl) ?_
    refine ex_gen (fun w12 => ?_)
    refine mf_putI I ok_X12_arrive (mi 38 rfl) rfl rfl (fk (MI_s I) 0 rfl) (by decide) (by decide) (fun g13 J14 K15 => ?_)
    have mk16 := KK_mk K15 mk
    refine ex_aload_n ok_X12_arrive (mi 39 rfl) rfl ?_
    refine ex_getRx ok_X12_arrive (mi 40 rfl) rfl rfl (fk (MI_s J14) 0 rfl) (fr (MI_s J14) 48 rfl) (fk (MI_s J14) 49 rfl) (by decide) ?_
    refine ex_iload_n ok_X12_arrive (mi 41 rfl) rfl ?_
    refine ex_iconst ok_X12_arrive (mi 42 rfl) ?_
    refine mf_on J14 ok_X12_arrive (mi 43 rfl) (fk (MI_s J14) 49 rfl) (fn (MI_s J14) 49 rfl) rfl ht (fun g17 J18 K19 => ?_)
    have mk20 := KK_mk K19 mk16
    refine ex_iload ok_X12_arrive (mi 44 rfl) rfl ?_
    refine ex_if_ne (tgt := 87) ok_X12_arrive (mi 45 rfl) rfl (fun _ => ?_) (fun hn => absurd hn (by decide))
    refine ex_iload ok_X12_arrive (mi 51 rfl) rfl ?_
    refine ex_iconst ok_X12_arrive (mi 52 rfl) ?_
    refine ex_icmp_ne (tgt := 103) ok_X12_arrive (mi 53 rfl) rfl (fun _ => ?_) (fun hn => absurd hn (by decide))
    refine ex_iload ok_X12_arrive (mi 59 rfl) rfl ?_
    refine ex_iconst ok_X12_arrive (mi 60 rfl) ?_
    refine ex_icmp_ne (tgt := 119) ok_X12_arrive (mi 61 rfl) rfl (fun hn => absurd (by decide) hn) (fun _ => ?_)
    refine ex_aload_n ok_X12_arrive (mi 62 rfl) rfl ?_
    refine ex_iload ok_X12_arrive (mi 63 rfl) rfl ?_
    refine ex_iload_n ok_X12_arrive (mi 64 rfl) rfl ?_
    refine sm_V (As := [_, _]) ok_X12_arrive (mi 65 rfl) rfl (s_X12_toVoter_3 hst J18 (by omega) ht mk20) rfl (fk (MI_s J18) 0 rfl) rfl rfl (by decide) (by decide) (Nat.le_of_ble_eq_true rfl) (by decide) SM_no (fun z21 g23 p22 => ?_)
    obtain ⟨u25, eu25, u25p, J24⟩ := p22
    cases eu25
    obtain rfl : z21 = none := u25p
    refine ex_goto (tgt := 126) ok_X12_arrive (mi 66 rfl) rfl ?_
    refine ex_aload_n ok_X12_arrive (mi 71 rfl) rfl ?_
    refine ex_getRx ok_X12_arrive (mi 72 rfl) rfl rfl (fk (MI_s J24) 0 rfl) (fr (MI_s J24) 48 rfl) (fk (MI_s J24) 49 rfl) (by decide) ?_
    refine ex_iload_n ok_X12_arrive (mi 73 rfl) rfl ?_
    refine ex_iconst ok_X12_arrive (mi 74 rfl) ?_
    refine mf_off J24 ok_X12_arrive (mi 75 rfl) (fk (MI_s J24) 49 rfl) (fn (MI_s J24) 49 rfl) rfl ht (fun g26 J27 K28 => ?_)
    refine ex_iload_n ok_X12_arrive (mi 76 rfl) rfl ?_
    refine ex_iret ok_X12_arrive (mi 77 rfl) rfl ?_
    exact ⟨_, rfl, ⟨_, rfl⟩, J27⟩
  · skip
    refine ex_aload_n ok_X12_arrive (mi 25 rfl) rfl ?_
    refine ex_dup ok_X12_arrive (mi 26 rfl) rfl ?_
    refine ex_getI ok_X12_arrive (mi 27 rfl) rfl rfl (fk (MI_s I) 0 rfl) ?_
    refine ex_gen (fun w29 => ?_)
    refine ex_iconst ok_X12_arrive (mi 28 rfl) ?_
    refine ex_iadd ok_X12_arrive (mi 29 rfl) ?_
    refine ex_gen (fun w30 => ?_)
    refine mf_putI I ok_X12_arrive (mi 30 rfl) rfl rfl (fk (MI_s I) 0 rfl) (by decide) (by decide) (fun g31 J32 K33 => ?_)
    have mk34 := KK_mk K33 mk
    refine ex_iload_n ok_X12_arrive (mi 31 rfl) rfl ?_
    refine ex_iret ok_X12_arrive (mi 32 rfl) rfl ?_
    exact ⟨_, rfl, ⟨_, rfl⟩, J32⟩
theorem arrive_4 {G : GE} (hst : (ge_l G).stackTraces = false) {y t m : Nat} {D : UT} {R : Nat → Prop} {g : GT} (I : MI y D 402 R g) (ht : t < 402) (mk : MK y g t 4 m) : ex_W G 7 0 0 M_X12_arrive 13 [(0, .ref y), (2, .int (nI t)), (3, .int (nI 4))] [] g (SM y D 402 R pI) := by
  refine ex_iload_n ok_X12_arrive (mi 9 rfl) rfl ?_
  refine sf_Sp (As := [_]) ok_X12_arrive (mi 10 rfl) rfl (x_sort4 hst) rfl rfl rfl (by decide) (Nat.le_of_ble_eq_true rfl) (by decide) (fun z1 p2 => ?_)
  subst p2
  refine ex_istore ok_X12_arrive (mi 11 rfl) ?_
  refine ex_aload_n ok_X12_arrive (mi 12 rfl) rfl ?_
  refine ex_getRx ok_X12_arrive (mi 13 rfl) rfl rfl (fk (MI_s I) 0 rfl) (fr (MI_s I) 51 rfl) (fk (MI_s I) 52 rfl) (by decide) ?_
  refine ex_iload_n ok_X12_arrive (mi 14 rfl) rfl ?_
  refine sm_iald ok_X12_arrive (mi 15 rfl) (fk (MI_s I) 52 rfl) (fn (MI_s I) 52 rfl) rfl (by omega) (by decide) ?_
  obtain ⟨v5, hv5, ev5⟩ := vp_in_of (n := 3) (vb_in mk.2.1 (by decide)) (by decide)
  refine ex_top (w := nI v5) ev5 ?_
  refine ex_istore ok_X12_arrive (mi 16 rfl) ?_
  refine ex_aload_n ok_X12_arrive (mi 17 rfl) rfl ?_
  refine ex_getRx ok_X12_arrive (mi 18 rfl) rfl rfl (fk (MI_s I) 0 rfl) (fr (MI_s I) 0 rfl) (fk (MI_s I) 1 rfl) (by decide) ?_
  refine ex_iload ok_X12_arrive (mi 19 rfl) rfl ?_
  refine sf_Sp (As := [_]) ok_X12_arrive (mi 20 rfl) rfl (x_first0 hst) rfl rfl rfl (by decide) (Nat.le_of_ble_eq_true rfl) (by decide) (fun z6 p7 => ?_)
  subst p7
  refine ex_iload ok_X12_arrive (mi 21 rfl) rfl ?_
  refine ex_iadd ok_X12_arrive (mi 22 rfl) ?_
  refine ex_top (w := (nI (0 + v5))) (nI_add 0 _) ?_
  refine sm_bal ok_X12_arrive (mi 23 rfl) (fk (MI_s I) 1 rfl) (fn (MI_s I) 1 rfl) rfl (by omega) (by decide) ?_
  refine ex_gen (fun w10 => ?_)
  refine ex_if_eq (tgt := 55) ok_X12_arrive (mi 24 rfl) rfl (fun h40 => ?_) (fun h40 => ?_)
  · skip
    refine ex_aload_n ok_X12_arrive (mi 33 rfl) rfl ?_
    refine ex_dup ok_X12_arrive (mi 34 rfl) rfl ?_
    refine ex_getI ok_X12_arrive (mi 35 rfl) rfl rfl (fk (MI_s I) 0 rfl) ?_
    refine ex_gen (fun w11 => ?_)
    refine ex_iconst ok_X12_arrive (mi 36 rfl) ?_
    refine ex_iadd ok_X12_arrive (mi 37 rfl) ?_
    refine ex_gen (fun w12 => ?_)
    refine mf_putI I ok_X12_arrive (mi 38 rfl) rfl rfl (fk (MI_s I) 0 rfl) (by decide) (by decide) (fun g13 J14 K15 => ?_)
    have mk16 := KK_mk K15 mk
    refine ex_aload_n ok_X12_arrive (mi 39 rfl) rfl ?_
    refine ex_getRx ok_X12_arrive (mi 40 rfl) rfl rfl (fk (MI_s J14) 0 rfl) (fr (MI_s J14) 48 rfl) (fk (MI_s J14) 49 rfl) (by decide) ?_
    refine ex_iload_n ok_X12_arrive (mi 41 rfl) rfl ?_
    refine ex_iconst ok_X12_arrive (mi 42 rfl) ?_
    refine mf_on J14 ok_X12_arrive (mi 43 rfl) (fk (MI_s J14) 49 rfl) (fn (MI_s J14) 49 rfl) rfl ht (fun g17 J18 K19 => ?_)
    have mk20 := KK_mk K19 mk16
    refine ex_iload ok_X12_arrive (mi 44 rfl) rfl ?_
    refine ex_if_ne (tgt := 87) ok_X12_arrive (mi 45 rfl) rfl (fun hn => absurd (by decide) hn) (fun _ => ?_)
    refine ex_aload_n ok_X12_arrive (mi 46 rfl) rfl ?_
    refine ex_iload ok_X12_arrive (mi 47 rfl) rfl ?_
    refine ex_iload_n ok_X12_arrive (mi 48 rfl) rfl ?_
    refine sm_V (As := [_, _]) ok_X12_arrive (mi 49 rfl) rfl (s_X12_toLeader_4 hst J18 (by omega) ht mk20) rfl (fk (MI_s J18) 0 rfl) rfl rfl (by decide) (by decide) (Nat.le_of_ble_eq_true rfl) (by decide) SM_no (fun z21 g23 p22 => ?_)
    obtain ⟨u25, eu25, u25p, J24⟩ := p22
    cases eu25
    obtain rfl : z21 = none := u25p
    refine ex_goto (tgt := 126) ok_X12_arrive (mi 50 rfl) rfl ?_
    refine ex_aload_n ok_X12_arrive (mi 71 rfl) rfl ?_
    refine ex_getRx ok_X12_arrive (mi 72 rfl) rfl rfl (fk (MI_s J24) 0 rfl) (fr (MI_s J24) 48 rfl) (fk (MI_s J24) 49 rfl) (by decide) ?_
    refine ex_iload_n ok_X12_arrive (mi 73 rfl) rfl ?_
    refine ex_iconst ok_X12_arrive (mi 74 rfl) ?_
    refine mf_off J24 ok_X12_arrive (mi 75 rfl) (fk (MI_s J24) 49 rfl) (fn (MI_s J24) 49 rfl) rfl ht (fun g26 J27 K28 => ?_)
    refine ex_iload_n ok_X12_arrive (mi 76 rfl) rfl ?_
    refine ex_iret ok_X12_arrive (mi 77 rfl) rfl ?_
    exact ⟨_, rfl, ⟨_, rfl⟩, J27⟩
  · skip
    refine ex_aload_n ok_X12_arrive (mi 25 rfl) rfl ?_
    refine ex_dup ok_X12_arrive (mi 26 rfl) rfl ?_
    refine ex_getI ok_X12_arrive (mi 27 rfl) rfl rfl (fk (MI_s I) 0 rfl) ?_
    refine ex_gen (fun w29 => ?_)
    refine ex_iconst ok_X12_arrive (mi 28 rfl) ?_
    refine ex_iadd ok_X12_arrive (mi 29 rfl) ?_
    refine ex_gen (fun w30 => ?_)
    refine mf_putI I ok_X12_arrive (mi 30 rfl) rfl rfl (fk (MI_s I) 0 rfl) (by decide) (by decide) (fun g31 J32 K33 => ?_)
    have mk34 := KK_mk K33 mk
    refine ex_iload_n ok_X12_arrive (mi 31 rfl) rfl ?_
    refine ex_iret ok_X12_arrive (mi 32 rfl) rfl ?_
    exact ⟨_, rfl, ⟨_, rfl⟩, J32⟩
theorem arrive_5 {G : GE} (hst : (ge_l G).stackTraces = false) {y t m : Nat} {D : UT} {R : Nat → Prop} {g : GT} (I : MI y D 402 R g) (ht : t < 402) (mk : MK y g t 5 m) : ex_W G 7 0 0 M_X12_arrive 13 [(0, .ref y), (2, .int (nI t)), (3, .int (nI 5))] [] g (SM y D 402 R pI) := by
  refine ex_iload_n ok_X12_arrive (mi 9 rfl) rfl ?_
  refine sf_Sp (As := [_]) ok_X12_arrive (mi 10 rfl) rfl (x_sort5 hst) rfl rfl rfl (by decide) (Nat.le_of_ble_eq_true rfl) (by decide) (fun z1 p2 => ?_)
  subst p2
  refine ex_istore ok_X12_arrive (mi 11 rfl) ?_
  refine ex_aload_n ok_X12_arrive (mi 12 rfl) rfl ?_
  refine ex_getRx ok_X12_arrive (mi 13 rfl) rfl rfl (fk (MI_s I) 0 rfl) (fr (MI_s I) 51 rfl) (fk (MI_s I) 52 rfl) (by decide) ?_
  refine ex_iload_n ok_X12_arrive (mi 14 rfl) rfl ?_
  refine sm_iald ok_X12_arrive (mi 15 rfl) (fk (MI_s I) 52 rfl) (fn (MI_s I) 52 rfl) rfl (by omega) (by decide) ?_
  obtain ⟨v5, hv5, ev5⟩ := vp_in_of (n := 12) (vb_in mk.2.1 (by decide)) (by decide)
  refine ex_top (w := nI v5) ev5 ?_
  refine ex_istore ok_X12_arrive (mi 16 rfl) ?_
  refine ex_aload_n ok_X12_arrive (mi 17 rfl) rfl ?_
  refine ex_getRx ok_X12_arrive (mi 18 rfl) rfl rfl (fk (MI_s I) 0 rfl) (fr (MI_s I) 0 rfl) (fk (MI_s I) 1 rfl) (by decide) ?_
  refine ex_iload ok_X12_arrive (mi 19 rfl) rfl ?_
  refine sf_Sp (As := [_]) ok_X12_arrive (mi 20 rfl) rfl (x_first2 hst) rfl rfl rfl (by decide) (Nat.le_of_ble_eq_true rfl) (by decide) (fun z6 p7 => ?_)
  subst p7
  refine ex_iload ok_X12_arrive (mi 21 rfl) rfl ?_
  refine ex_iadd ok_X12_arrive (mi 22 rfl) ?_
  refine ex_top (w := (nI (12 + v5))) (nI_add 12 _) ?_
  refine sm_bal ok_X12_arrive (mi 23 rfl) (fk (MI_s I) 1 rfl) (fn (MI_s I) 1 rfl) rfl (by omega) (by decide) ?_
  refine ex_gen (fun w10 => ?_)
  refine ex_if_eq (tgt := 55) ok_X12_arrive (mi 24 rfl) rfl (fun h40 => ?_) (fun h40 => ?_)
  · skip
    refine ex_aload_n ok_X12_arrive (mi 33 rfl) rfl ?_
    refine ex_dup ok_X12_arrive (mi 34 rfl) rfl ?_
    refine ex_getI ok_X12_arrive (mi 35 rfl) rfl rfl (fk (MI_s I) 0 rfl) ?_
    refine ex_gen (fun w11 => ?_)
    refine ex_iconst ok_X12_arrive (mi 36 rfl) ?_
    refine ex_iadd ok_X12_arrive (mi 37 rfl) ?_
    refine ex_gen (fun w12 => ?_)
    refine mf_putI I ok_X12_arrive (mi 38 rfl) rfl rfl (fk (MI_s I) 0 rfl) (by decide) (by decide) (fun g13 J14 K15 => ?_)
    have mk16 := KK_mk K15 mk
    refine ex_aload_n ok_X12_arrive (mi 39 rfl) rfl ?_
    refine ex_getRx ok_X12_arrive (mi 40 rfl) rfl rfl (fk (MI_s J14) 0 rfl) (fr (MI_s J14) 48 rfl) (fk (MI_s J14) 49 rfl) (by decide) ?_
    refine ex_iload_n ok_X12_arrive (mi 41 rfl) rfl ?_
    refine ex_iconst ok_X12_arrive (mi 42 rfl) ?_
    refine mf_on J14 ok_X12_arrive (mi 43 rfl) (fk (MI_s J14) 49 rfl) (fn (MI_s J14) 49 rfl) rfl ht (fun g17 J18 K19 => ?_)
    have mk20 := KK_mk K19 mk16
    refine ex_iload ok_X12_arrive (mi 44 rfl) rfl ?_
    refine ex_if_ne (tgt := 87) ok_X12_arrive (mi 45 rfl) rfl (fun _ => ?_) (fun hn => absurd hn (by decide))
    refine ex_iload ok_X12_arrive (mi 51 rfl) rfl ?_
    refine ex_iconst ok_X12_arrive (mi 52 rfl) ?_
    refine ex_icmp_ne (tgt := 103) ok_X12_arrive (mi 53 rfl) rfl (fun _ => ?_) (fun hn => absurd hn (by decide))
    refine ex_iload ok_X12_arrive (mi 59 rfl) rfl ?_
    refine ex_iconst ok_X12_arrive (mi 60 rfl) ?_
    refine ex_icmp_ne (tgt := 119) ok_X12_arrive (mi 61 rfl) rfl (fun hn => absurd (by decide) hn) (fun _ => ?_)
    refine ex_aload_n ok_X12_arrive (mi 62 rfl) rfl ?_
    refine ex_iload ok_X12_arrive (mi 63 rfl) rfl ?_
    refine ex_iload_n ok_X12_arrive (mi 64 rfl) rfl ?_
    refine sm_V (As := [_, _]) ok_X12_arrive (mi 65 rfl) rfl (s_X12_toVoter_5 hst J18 (by omega) ht mk20) rfl (fk (MI_s J18) 0 rfl) rfl rfl (by decide) (by decide) (Nat.le_of_ble_eq_true rfl) (by decide) SM_no (fun z21 g23 p22 => ?_)
    obtain ⟨u25, eu25, u25p, J24⟩ := p22
    cases eu25
    obtain rfl : z21 = none := u25p
    refine ex_goto (tgt := 126) ok_X12_arrive (mi 66 rfl) rfl ?_
    refine ex_aload_n ok_X12_arrive (mi 71 rfl) rfl ?_
    refine ex_getRx ok_X12_arrive (mi 72 rfl) rfl rfl (fk (MI_s J24) 0 rfl) (fr (MI_s J24) 48 rfl) (fk (MI_s J24) 49 rfl) (by decide) ?_
    refine ex_iload_n ok_X12_arrive (mi 73 rfl) rfl ?_
    refine ex_iconst ok_X12_arrive (mi 74 rfl) ?_
    refine mf_off J24 ok_X12_arrive (mi 75 rfl) (fk (MI_s J24) 49 rfl) (fn (MI_s J24) 49 rfl) rfl ht (fun g26 J27 K28 => ?_)
    refine ex_iload_n ok_X12_arrive (mi 76 rfl) rfl ?_
    refine ex_iret ok_X12_arrive (mi 77 rfl) rfl ?_
    exact ⟨_, rfl, ⟨_, rfl⟩, J27⟩
  · skip
    refine ex_aload_n ok_X12_arrive (mi 25 rfl) rfl ?_
    refine ex_dup ok_X12_arrive (mi 26 rfl) rfl ?_
    refine ex_getI ok_X12_arrive (mi 27 rfl) rfl rfl (fk (MI_s I) 0 rfl) ?_
    refine ex_gen (fun w29 => ?_)
    refine ex_iconst ok_X12_arrive (mi 28 rfl) ?_
    refine ex_iadd ok_X12_arrive (mi 29 rfl) ?_
    refine ex_gen (fun w30 => ?_)
    refine mf_putI I ok_X12_arrive (mi 30 rfl) rfl rfl (fk (MI_s I) 0 rfl) (by decide) (by decide) (fun g31 J32 K33 => ?_)
    have mk34 := KK_mk K33 mk
    refine ex_iload_n ok_X12_arrive (mi 31 rfl) rfl ?_
    refine ex_iret ok_X12_arrive (mi 32 rfl) rfl ?_
    exact ⟨_, rfl, ⟨_, rfl⟩, J32⟩
theorem arrive_6 {G : GE} (hst : (ge_l G).stackTraces = false) {y t m : Nat} {D : UT} {R : Nat → Prop} {g : GT} (I : MI y D 402 R g) (ht : t < 402) (mk : MK y g t 6 m) : ex_W G 7 0 0 M_X12_arrive 13 [(0, .ref y), (2, .int (nI t)), (3, .int (nI 6))] [] g (SM y D 402 R pI) := by
  refine ex_iload_n ok_X12_arrive (mi 9 rfl) rfl ?_
  refine sf_Sp (As := [_]) ok_X12_arrive (mi 10 rfl) rfl (x_sort6 hst) rfl rfl rfl (by decide) (Nat.le_of_ble_eq_true rfl) (by decide) (fun z1 p2 => ?_)
  subst p2
  refine ex_istore ok_X12_arrive (mi 11 rfl) ?_
  refine ex_aload_n ok_X12_arrive (mi 12 rfl) rfl ?_
  refine ex_getRx ok_X12_arrive (mi 13 rfl) rfl rfl (fk (MI_s I) 0 rfl) (fr (MI_s I) 51 rfl) (fk (MI_s I) 52 rfl) (by decide) ?_
  refine ex_iload_n ok_X12_arrive (mi 14 rfl) rfl ?_
  refine sm_iald ok_X12_arrive (mi 15 rfl) (fk (MI_s I) 52 rfl) (fn (MI_s I) 52 rfl) rfl (by omega) (by decide) ?_
  obtain ⟨v5, hv5, ev5⟩ := vp_in_of (n := 3) (vb_in mk.2.1 (by decide)) (by decide)
  refine ex_top (w := nI v5) ev5 ?_
  refine ex_istore ok_X12_arrive (mi 16 rfl) ?_
  refine ex_aload_n ok_X12_arrive (mi 17 rfl) rfl ?_
  refine ex_getRx ok_X12_arrive (mi 18 rfl) rfl rfl (fk (MI_s I) 0 rfl) (fr (MI_s I) 0 rfl) (fk (MI_s I) 1 rfl) (by decide) ?_
  refine ex_iload ok_X12_arrive (mi 19 rfl) rfl ?_
  refine sf_Sp (As := [_]) ok_X12_arrive (mi 20 rfl) rfl (x_first0 hst) rfl rfl rfl (by decide) (Nat.le_of_ble_eq_true rfl) (by decide) (fun z6 p7 => ?_)
  subst p7
  refine ex_iload ok_X12_arrive (mi 21 rfl) rfl ?_
  refine ex_iadd ok_X12_arrive (mi 22 rfl) ?_
  refine ex_top (w := (nI (0 + v5))) (nI_add 0 _) ?_
  refine sm_bal ok_X12_arrive (mi 23 rfl) (fk (MI_s I) 1 rfl) (fn (MI_s I) 1 rfl) rfl (by omega) (by decide) ?_
  refine ex_gen (fun w10 => ?_)
  refine ex_if_eq (tgt := 55) ok_X12_arrive (mi 24 rfl) rfl (fun h40 => ?_) (fun h40 => ?_)
  · skip
    refine ex_aload_n ok_X12_arrive (mi 33 rfl) rfl ?_
    refine ex_dup ok_X12_arrive (mi 34 rfl) rfl ?_
    refine ex_getI ok_X12_arrive (mi 35 rfl) rfl rfl (fk (MI_s I) 0 rfl) ?_
    refine ex_gen (fun w11 => ?_)
    refine ex_iconst ok_X12_arrive (mi 36 rfl) ?_
    refine ex_iadd ok_X12_arrive (mi 37 rfl) ?_
    refine ex_gen (fun w12 => ?_)
    refine mf_putI I ok_X12_arrive (mi 38 rfl) rfl rfl (fk (MI_s I) 0 rfl) (by decide) (by decide) (fun g13 J14 K15 => ?_)
    have mk16 := KK_mk K15 mk
    refine ex_aload_n ok_X12_arrive (mi 39 rfl) rfl ?_
    refine ex_getRx ok_X12_arrive (mi 40 rfl) rfl rfl (fk (MI_s J14) 0 rfl) (fr (MI_s J14) 48 rfl) (fk (MI_s J14) 49 rfl) (by decide) ?_
    refine ex_iload_n ok_X12_arrive (mi 41 rfl) rfl ?_
    refine ex_iconst ok_X12_arrive (mi 42 rfl) ?_
    refine mf_on J14 ok_X12_arrive (mi 43 rfl) (fk (MI_s J14) 49 rfl) (fn (MI_s J14) 49 rfl) rfl ht (fun g17 J18 K19 => ?_)
    have mk20 := KK_mk K19 mk16
    refine ex_iload ok_X12_arrive (mi 44 rfl) rfl ?_
    refine ex_if_ne (tgt := 87) ok_X12_arrive (mi 45 rfl) rfl (fun hn => absurd (by decide) hn) (fun _ => ?_)
    refine ex_aload_n ok_X12_arrive (mi 46 rfl) rfl ?_
    refine ex_iload ok_X12_arrive (mi 47 rfl) rfl ?_
    refine ex_iload_n ok_X12_arrive (mi 48 rfl) rfl ?_
    refine sm_V (As := [_, _]) ok_X12_arrive (mi 49 rfl) rfl (s_X12_toLeader_6 hst J18 (by omega) ht mk20) rfl (fk (MI_s J18) 0 rfl) rfl rfl (by decide) (by decide) (Nat.le_of_ble_eq_true rfl) (by decide) SM_no (fun z21 g23 p22 => ?_)
    obtain ⟨u25, eu25, u25p, J24⟩ := p22
    cases eu25
    obtain rfl : z21 = none := u25p
    refine ex_goto (tgt := 126) ok_X12_arrive (mi 50 rfl) rfl ?_
    refine ex_aload_n ok_X12_arrive (mi 71 rfl) rfl ?_
    refine ex_getRx ok_X12_arrive (mi 72 rfl) rfl rfl (fk (MI_s J24) 0 rfl) (fr (MI_s J24) 48 rfl) (fk (MI_s J24) 49 rfl) (by decide) ?_
    refine ex_iload_n ok_X12_arrive (mi 73 rfl) rfl ?_
    refine ex_iconst ok_X12_arrive (mi 74 rfl) ?_
    refine mf_off J24 ok_X12_arrive (mi 75 rfl) (fk (MI_s J24) 49 rfl) (fn (MI_s J24) 49 rfl) rfl ht (fun g26 J27 K28 => ?_)
    refine ex_iload_n ok_X12_arrive (mi 76 rfl) rfl ?_
    refine ex_iret ok_X12_arrive (mi 77 rfl) rfl ?_
    exact ⟨_, rfl, ⟨_, rfl⟩, J27⟩
  · skip
    refine ex_aload_n ok_X12_arrive (mi 25 rfl) rfl ?_
    refine ex_dup ok_X12_arrive (mi 26 rfl) rfl ?_
    refine ex_getI ok_X12_arrive (mi 27 rfl) rfl rfl (fk (MI_s I) 0 rfl) ?_
    refine ex_gen (fun w29 => ?_)
    refine ex_iconst ok_X12_arrive (mi 28 rfl) ?_
    refine ex_iadd ok_X12_arrive (mi 29 rfl) ?_
    refine ex_gen (fun w30 => ?_)
    refine mf_putI I ok_X12_arrive (mi 30 rfl) rfl rfl (fk (MI_s I) 0 rfl) (by decide) (by decide) (fun g31 J32 K33 => ?_)
    have mk34 := KK_mk K33 mk
    refine ex_iload_n ok_X12_arrive (mi 31 rfl) rfl ?_
    refine ex_iret ok_X12_arrive (mi 32 rfl) rfl ?_
    exact ⟨_, rfl, ⟨_, rfl⟩, J32⟩
theorem arrive_7 {G : GE} (hst : (ge_l G).stackTraces = false) {y t m : Nat} {D : UT} {R : Nat → Prop} {g : GT} (I : MI y D 402 R g) (ht : t < 402) (mk : MK y g t 7 m) : ex_W G 7 0 0 M_X12_arrive 13 [(0, .ref y), (2, .int (nI t)), (3, .int (nI 7))] [] g (SM y D 402 R pI) := by
  refine ex_iload_n ok_X12_arrive (mi 9 rfl) rfl ?_
  refine sf_Sp (As := [_]) ok_X12_arrive (mi 10 rfl) rfl (x_sort7 hst) rfl rfl rfl (by decide) (Nat.le_of_ble_eq_true rfl) (by decide) (fun z1 p2 => ?_)
  subst p2
  refine ex_istore ok_X12_arrive (mi 11 rfl) ?_
  refine ex_aload_n ok_X12_arrive (mi 12 rfl) rfl ?_
  refine ex_getRx ok_X12_arrive (mi 13 rfl) rfl rfl (fk (MI_s I) 0 rfl) (fr (MI_s I) 51 rfl) (fk (MI_s I) 52 rfl) (by decide) ?_
  refine ex_iload_n ok_X12_arrive (mi 14 rfl) rfl ?_
  refine sm_iald ok_X12_arrive (mi 15 rfl) (fk (MI_s I) 52 rfl) (fn (MI_s I) 52 rfl) rfl (by omega) (by decide) ?_
  obtain ⟨v5, hv5, ev5⟩ := vp_in_of (n := 3) (vb_in mk.2.1 (by decide)) (by decide)
  refine ex_top (w := nI v5) ev5 ?_
  refine ex_istore ok_X12_arrive (mi 16 rfl) ?_
  refine ex_aload_n ok_X12_arrive (mi 17 rfl) rfl ?_
  refine ex_getRx ok_X12_arrive (mi 18 rfl) rfl rfl (fk (MI_s I) 0 rfl) (fr (MI_s I) 0 rfl) (fk (MI_s I) 1 rfl) (by decide) ?_
  refine ex_iload ok_X12_arrive (mi 19 rfl) rfl ?_
  refine sf_Sp (As := [_]) ok_X12_arrive (mi 20 rfl) rfl (x_first3 hst) rfl rfl rfl (by decide) (Nat.le_of_ble_eq_true rfl) (by decide) (fun z6 p7 => ?_)
  subst p7
  refine ex_iload ok_X12_arrive (mi 21 rfl) rfl ?_
  refine ex_iadd ok_X12_arrive (mi 22 rfl) ?_
  refine ex_top (w := (nI (24 + v5))) (nI_add 24 _) ?_
  refine sm_bal ok_X12_arrive (mi 23 rfl) (fk (MI_s I) 1 rfl) (fn (MI_s I) 1 rfl) rfl (by omega) (by decide) ?_
  refine ex_gen (fun w10 => ?_)
  refine ex_if_eq (tgt := 55) ok_X12_arrive (mi 24 rfl) rfl (fun h40 => ?_) (fun h40 => ?_)
  · skip
    refine ex_aload_n ok_X12_arrive (mi 33 rfl) rfl ?_
    refine ex_dup ok_X12_arrive (mi 34 rfl) rfl ?_
    refine ex_getI ok_X12_arrive (mi 35 rfl) rfl rfl (fk (MI_s I) 0 rfl) ?_
    refine ex_gen (fun w11 => ?_)
    refine ex_iconst ok_X12_arrive (mi 36 rfl) ?_
    refine ex_iadd ok_X12_arrive (mi 37 rfl) ?_
    refine ex_gen (fun w12 => ?_)
    refine mf_putI I ok_X12_arrive (mi 38 rfl) rfl rfl (fk (MI_s I) 0 rfl) (by decide) (by decide) (fun g13 J14 K15 => ?_)
    have mk16 := KK_mk K15 mk
    refine ex_aload_n ok_X12_arrive (mi 39 rfl) rfl ?_
    refine ex_getRx ok_X12_arrive (mi 40 rfl) rfl rfl (fk (MI_s J14) 0 rfl) (fr (MI_s J14) 48 rfl) (fk (MI_s J14) 49 rfl) (by decide) ?_
    refine ex_iload_n ok_X12_arrive (mi 41 rfl) rfl ?_
    refine ex_iconst ok_X12_arrive (mi 42 rfl) ?_
    refine mf_on J14 ok_X12_arrive (mi 43 rfl) (fk (MI_s J14) 49 rfl) (fn (MI_s J14) 49 rfl) rfl ht (fun g17 J18 K19 => ?_)
    have mk20 := KK_mk K19 mk16
    refine ex_iload ok_X12_arrive (mi 44 rfl) rfl ?_
    refine ex_if_ne (tgt := 87) ok_X12_arrive (mi 45 rfl) rfl (fun _ => ?_) (fun hn => absurd hn (by decide))
    refine ex_iload ok_X12_arrive (mi 51 rfl) rfl ?_
    refine ex_iconst ok_X12_arrive (mi 52 rfl) ?_
    refine ex_icmp_ne (tgt := 103) ok_X12_arrive (mi 53 rfl) rfl (fun _ => ?_) (fun hn => absurd hn (by decide))
    refine ex_iload ok_X12_arrive (mi 59 rfl) rfl ?_
    refine ex_iconst ok_X12_arrive (mi 60 rfl) ?_
    refine ex_icmp_ne (tgt := 119) ok_X12_arrive (mi 61 rfl) rfl (fun _ => ?_) (fun hn => absurd hn (by decide))
    refine ex_aload_n ok_X12_arrive (mi 67 rfl) rfl ?_
    refine ex_iload ok_X12_arrive (mi 68 rfl) rfl ?_
    refine ex_iload_n ok_X12_arrive (mi 69 rfl) rfl ?_
    refine sm_V (As := [_, _]) ok_X12_arrive (mi 70 rfl) rfl (s_X12_toCopy hst J18 (by omega) ht mk20) rfl (fk (MI_s J18) 0 rfl) rfl rfl (by decide) (by decide) (Nat.le_of_ble_eq_true rfl) (by decide) SM_no (fun z21 g23 p22 => ?_)
    obtain ⟨u25, eu25, u25p, J24⟩ := p22
    cases eu25
    obtain rfl : z21 = none := u25p
    refine ex_aload_n ok_X12_arrive (mi 71 rfl) rfl ?_
    refine ex_getRx ok_X12_arrive (mi 72 rfl) rfl rfl (fk (MI_s J24) 0 rfl) (fr (MI_s J24) 48 rfl) (fk (MI_s J24) 49 rfl) (by decide) ?_
    refine ex_iload_n ok_X12_arrive (mi 73 rfl) rfl ?_
    refine ex_iconst ok_X12_arrive (mi 74 rfl) ?_
    refine mf_off J24 ok_X12_arrive (mi 75 rfl) (fk (MI_s J24) 49 rfl) (fn (MI_s J24) 49 rfl) rfl ht (fun g26 J27 K28 => ?_)
    refine ex_iload_n ok_X12_arrive (mi 76 rfl) rfl ?_
    refine ex_iret ok_X12_arrive (mi 77 rfl) rfl ?_
    exact ⟨_, rfl, ⟨_, rfl⟩, J27⟩
  · skip
    refine ex_aload_n ok_X12_arrive (mi 25 rfl) rfl ?_
    refine ex_dup ok_X12_arrive (mi 26 rfl) rfl ?_
    refine ex_getI ok_X12_arrive (mi 27 rfl) rfl rfl (fk (MI_s I) 0 rfl) ?_
    refine ex_gen (fun w29 => ?_)
    refine ex_iconst ok_X12_arrive (mi 28 rfl) ?_
    refine ex_iadd ok_X12_arrive (mi 29 rfl) ?_
    refine ex_gen (fun w30 => ?_)
    refine mf_putI I ok_X12_arrive (mi 30 rfl) rfl rfl (fk (MI_s I) 0 rfl) (by decide) (by decide) (fun g31 J32 K33 => ?_)
    have mk34 := KK_mk K33 mk
    refine ex_iload_n ok_X12_arrive (mi 31 rfl) rfl ?_
    refine ex_iret ok_X12_arrive (mi 32 rfl) rfl ?_
    exact ⟨_, rfl, ⟨_, rfl⟩, J32⟩
theorem arrive_8 {G : GE} (hst : (ge_l G).stackTraces = false) {y t m : Nat} {D : UT} {R : Nat → Prop} {g : GT} (I : MI y D 402 R g) (ht : t < 402) (mk : MK y g t 8 m) : ex_W G 7 0 0 M_X12_arrive 13 [(0, .ref y), (2, .int (nI t)), (3, .int (nI 8))] [] g (SM y D 402 R pI) := by
  refine ex_iload_n ok_X12_arrive (mi 9 rfl) rfl ?_
  refine sf_Sp (As := [_]) ok_X12_arrive (mi 10 rfl) rfl (x_sort8 hst) rfl rfl rfl (by decide) (Nat.le_of_ble_eq_true rfl) (by decide) (fun z1 p2 => ?_)
  subst p2
  refine ex_istore ok_X12_arrive (mi 11 rfl) ?_
  refine ex_aload_n ok_X12_arrive (mi 12 rfl) rfl ?_
  refine ex_getRx ok_X12_arrive (mi 13 rfl) rfl rfl (fk (MI_s I) 0 rfl) (fr (MI_s I) 51 rfl) (fk (MI_s I) 52 rfl) (by decide) ?_
  refine ex_iload_n ok_X12_arrive (mi 14 rfl) rfl ?_
  refine sm_iald ok_X12_arrive (mi 15 rfl) (fk (MI_s I) 52 rfl) (fn (MI_s I) 52 rfl) rfl (by omega) (by decide) ?_
  obtain ⟨v5, hv5, ev5⟩ := vp_in_of (n := 3) (vb_in mk.2.1 (by decide)) (by decide)
  refine ex_top (w := nI v5) ev5 ?_
  refine ex_istore ok_X12_arrive (mi 16 rfl) ?_
  refine ex_aload_n ok_X12_arrive (mi 17 rfl) rfl ?_
  refine ex_getRx ok_X12_arrive (mi 18 rfl) rfl rfl (fk (MI_s I) 0 rfl) (fr (MI_s I) 0 rfl) (fk (MI_s I) 1 rfl) (by decide) ?_
  refine ex_iload ok_X12_arrive (mi 19 rfl) rfl ?_
  refine sf_Sp (As := [_]) ok_X12_arrive (mi 20 rfl) rfl (x_first0 hst) rfl rfl rfl (by decide) (Nat.le_of_ble_eq_true rfl) (by decide) (fun z6 p7 => ?_)
  subst p7
  refine ex_iload ok_X12_arrive (mi 21 rfl) rfl ?_
  refine ex_iadd ok_X12_arrive (mi 22 rfl) ?_
  refine ex_top (w := (nI (0 + v5))) (nI_add 0 _) ?_
  refine sm_bal ok_X12_arrive (mi 23 rfl) (fk (MI_s I) 1 rfl) (fn (MI_s I) 1 rfl) rfl (by omega) (by decide) ?_
  refine ex_gen (fun w10 => ?_)
  refine ex_if_eq (tgt := 55) ok_X12_arrive (mi 24 rfl) rfl (fun h40 => ?_) (fun h40 => ?_)
  · skip
    refine ex_aload_n ok_X12_arrive (mi 33 rfl) rfl ?_
    refine ex_dup ok_X12_arrive (mi 34 rfl) rfl ?_
    refine ex_getI ok_X12_arrive (mi 35 rfl) rfl rfl (fk (MI_s I) 0 rfl) ?_
    refine ex_gen (fun w11 => ?_)
    refine ex_iconst ok_X12_arrive (mi 36 rfl) ?_
    refine ex_iadd ok_X12_arrive (mi 37 rfl) ?_
    refine ex_gen (fun w12 => ?_)
    refine mf_putI I ok_X12_arrive (mi 38 rfl) rfl rfl (fk (MI_s I) 0 rfl) (by decide) (by decide) (fun g13 J14 K15 => ?_)
    have mk16 := KK_mk K15 mk
    refine ex_aload_n ok_X12_arrive (mi 39 rfl) rfl ?_
    refine ex_getRx ok_X12_arrive (mi 40 rfl) rfl rfl (fk (MI_s J14) 0 rfl) (fr (MI_s J14) 48 rfl) (fk (MI_s J14) 49 rfl) (by decide) ?_
    refine ex_iload_n ok_X12_arrive (mi 41 rfl) rfl ?_
    refine ex_iconst ok_X12_arrive (mi 42 rfl) ?_
    refine mf_on J14 ok_X12_arrive (mi 43 rfl) (fk (MI_s J14) 49 rfl) (fn (MI_s J14) 49 rfl) rfl ht (fun g17 J18 K19 => ?_)
    have mk20 := KK_mk K19 mk16
    refine ex_iload ok_X12_arrive (mi 44 rfl) rfl ?_
    refine ex_if_ne (tgt := 87) ok_X12_arrive (mi 45 rfl) rfl (fun hn => absurd (by decide) hn) (fun _ => ?_)
    refine ex_aload_n ok_X12_arrive (mi 46 rfl) rfl ?_
    refine ex_iload ok_X12_arrive (mi 47 rfl) rfl ?_
    refine ex_iload_n ok_X12_arrive (mi 48 rfl) rfl ?_
    refine sm_V (As := [_, _]) ok_X12_arrive (mi 49 rfl) rfl (s_X12_toLeader_8 hst J18 (by omega) ht mk20) rfl (fk (MI_s J18) 0 rfl) rfl rfl (by decide) (by decide) (Nat.le_of_ble_eq_true rfl) (by decide) SM_no (fun z21 g23 p22 => ?_)
    obtain ⟨u25, eu25, u25p, J24⟩ := p22
    cases eu25
    obtain rfl : z21 = none := u25p
    refine ex_goto (tgt := 126) ok_X12_arrive (mi 50 rfl) rfl ?_
    refine ex_aload_n ok_X12_arrive (mi 71 rfl) rfl ?_
    refine ex_getRx ok_X12_arrive (mi 72 rfl) rfl rfl (fk (MI_s J24) 0 rfl) (fr (MI_s J24) 48 rfl) (fk (MI_s J24) 49 rfl) (by decide) ?_
    refine ex_iload_n ok_X12_arrive (mi 73 rfl) rfl ?_
    refine ex_iconst ok_X12_arrive (mi 74 rfl) ?_
    refine mf_off J24 ok_X12_arrive (mi 75 rfl) (fk (MI_s J24) 49 rfl) (fn (MI_s J24) 49 rfl) rfl ht (fun g26 J27 K28 => ?_)
    refine ex_iload_n ok_X12_arrive (mi 76 rfl) rfl ?_
    refine ex_iret ok_X12_arrive (mi 77 rfl) rfl ?_
    exact ⟨_, rfl, ⟨_, rfl⟩, J27⟩
  · skip
    refine ex_aload_n ok_X12_arrive (mi 25 rfl) rfl ?_
    refine ex_dup ok_X12_arrive (mi 26 rfl) rfl ?_
    refine ex_getI ok_X12_arrive (mi 27 rfl) rfl rfl (fk (MI_s I) 0 rfl) ?_
    refine ex_gen (fun w29 => ?_)
    refine ex_iconst ok_X12_arrive (mi 28 rfl) ?_
    refine ex_iadd ok_X12_arrive (mi 29 rfl) ?_
    refine ex_gen (fun w30 => ?_)
    refine mf_putI I ok_X12_arrive (mi 30 rfl) rfl rfl (fk (MI_s I) 0 rfl) (by decide) (by decide) (fun g31 J32 K33 => ?_)
    have mk34 := KK_mk K33 mk
    refine ex_iload_n ok_X12_arrive (mi 31 rfl) rfl ?_
    refine ex_iret ok_X12_arrive (mi 32 rfl) rfl ?_
    exact ⟨_, rfl, ⟨_, rfl⟩, J32⟩
theorem arrive_9 {G : GE} (hst : (ge_l G).stackTraces = false) {y t m : Nat} {D : UT} {R : Nat → Prop} {g : GT} (I : MI y D 402 R g) (ht : t < 402) (mk : MK y g t 9 m) : ex_W G 7 0 0 M_X12_arrive 13 [(0, .ref y), (2, .int (nI t)), (3, .int (nI 9))] [] g (SM y D 402 R pI) := by
  refine ex_iload_n ok_X12_arrive (mi 9 rfl) rfl ?_
  refine sf_Sp (As := [_]) ok_X12_arrive (mi 10 rfl) rfl (x_sort9 hst) rfl rfl rfl (by decide) (Nat.le_of_ble_eq_true rfl) (by decide) (fun z1 p2 => ?_)
  subst p2
  refine ex_istore ok_X12_arrive (mi 11 rfl) ?_
  refine ex_aload_n ok_X12_arrive (mi 12 rfl) rfl ?_
  refine ex_getRx ok_X12_arrive (mi 13 rfl) rfl rfl (fk (MI_s I) 0 rfl) (fr (MI_s I) 51 rfl) (fk (MI_s I) 52 rfl) (by decide) ?_
  refine ex_iload_n ok_X12_arrive (mi 14 rfl) rfl ?_
  refine sm_iald ok_X12_arrive (mi 15 rfl) (fk (MI_s I) 52 rfl) (fn (MI_s I) 52 rfl) rfl (by omega) (by decide) ?_
  obtain ⟨v5, hv5, ev5⟩ := vp_in_of (n := 12) (vb_in mk.2.1 (by decide)) (by decide)
  refine ex_top (w := nI v5) ev5 ?_
  refine ex_istore ok_X12_arrive (mi 16 rfl) ?_
  refine ex_aload_n ok_X12_arrive (mi 17 rfl) rfl ?_
  refine ex_getRx ok_X12_arrive (mi 18 rfl) rfl rfl (fk (MI_s I) 0 rfl) (fr (MI_s I) 0 rfl) (fk (MI_s I) 1 rfl) (by decide) ?_
  refine ex_iload ok_X12_arrive (mi 19 rfl) rfl ?_
  refine sf_Sp (As := [_]) ok_X12_arrive (mi 20 rfl) rfl (x_first2 hst) rfl rfl rfl (by decide) (Nat.le_of_ble_eq_true rfl) (by decide) (fun z6 p7 => ?_)
  subst p7
  refine ex_iload ok_X12_arrive (mi 21 rfl) rfl ?_
  refine ex_iadd ok_X12_arrive (mi 22 rfl) ?_
  refine ex_top (w := (nI (12 + v5))) (nI_add 12 _) ?_
  refine sm_bal ok_X12_arrive (mi 23 rfl) (fk (MI_s I) 1 rfl) (fn (MI_s I) 1 rfl) rfl (by omega) (by decide) ?_
  refine ex_gen (fun w10 => ?_)
  refine ex_if_eq (tgt := 55) ok_X12_arrive (mi 24 rfl) rfl (fun h40 => ?_) (fun h40 => ?_)
  · skip
    refine ex_aload_n ok_X12_arrive (mi 33 rfl) rfl ?_
    refine ex_dup ok_X12_arrive (mi 34 rfl) rfl ?_
    refine ex_getI ok_X12_arrive (mi 35 rfl) rfl rfl (fk (MI_s I) 0 rfl) ?_
    refine ex_gen (fun w11 => ?_)
    refine ex_iconst ok_X12_arrive (mi 36 rfl) ?_
    refine ex_iadd ok_X12_arrive (mi 37 rfl) ?_
    refine ex_gen (fun w12 => ?_)
    refine mf_putI I ok_X12_arrive (mi 38 rfl) rfl rfl (fk (MI_s I) 0 rfl) (by decide) (by decide) (fun g13 J14 K15 => ?_)
    have mk16 := KK_mk K15 mk
    refine ex_aload_n ok_X12_arrive (mi 39 rfl) rfl ?_
    refine ex_getRx ok_X12_arrive (mi 40 rfl) rfl rfl (fk (MI_s J14) 0 rfl) (fr (MI_s J14) 48 rfl) (fk (MI_s J14) 49 rfl) (by decide) ?_
    refine ex_iload_n ok_X12_arrive (mi 41 rfl) rfl ?_
    refine ex_iconst ok_X12_arrive (mi 42 rfl) ?_
    refine mf_on J14 ok_X12_arrive (mi 43 rfl) (fk (MI_s J14) 49 rfl) (fn (MI_s J14) 49 rfl) rfl ht (fun g17 J18 K19 => ?_)
    have mk20 := KK_mk K19 mk16
    refine ex_iload ok_X12_arrive (mi 44 rfl) rfl ?_
    refine ex_if_ne (tgt := 87) ok_X12_arrive (mi 45 rfl) rfl (fun _ => ?_) (fun hn => absurd hn (by decide))
    refine ex_iload ok_X12_arrive (mi 51 rfl) rfl ?_
    refine ex_iconst ok_X12_arrive (mi 52 rfl) ?_
    refine ex_icmp_ne (tgt := 103) ok_X12_arrive (mi 53 rfl) rfl (fun _ => ?_) (fun hn => absurd hn (by decide))
    refine ex_iload ok_X12_arrive (mi 59 rfl) rfl ?_
    refine ex_iconst ok_X12_arrive (mi 60 rfl) ?_
    refine ex_icmp_ne (tgt := 119) ok_X12_arrive (mi 61 rfl) rfl (fun hn => absurd (by decide) hn) (fun _ => ?_)
    refine ex_aload_n ok_X12_arrive (mi 62 rfl) rfl ?_
    refine ex_iload ok_X12_arrive (mi 63 rfl) rfl ?_
    refine ex_iload_n ok_X12_arrive (mi 64 rfl) rfl ?_
    refine sm_V (As := [_, _]) ok_X12_arrive (mi 65 rfl) rfl (s_X12_toVoter_9 hst J18 (by omega) ht mk20) rfl (fk (MI_s J18) 0 rfl) rfl rfl (by decide) (by decide) (Nat.le_of_ble_eq_true rfl) (by decide) SM_no (fun z21 g23 p22 => ?_)
    obtain ⟨u25, eu25, u25p, J24⟩ := p22
    cases eu25
    obtain rfl : z21 = none := u25p
    refine ex_goto (tgt := 126) ok_X12_arrive (mi 66 rfl) rfl ?_
    refine ex_aload_n ok_X12_arrive (mi 71 rfl) rfl ?_
    refine ex_getRx ok_X12_arrive (mi 72 rfl) rfl rfl (fk (MI_s J24) 0 rfl) (fr (MI_s J24) 48 rfl) (fk (MI_s J24) 49 rfl) (by decide) ?_
    refine ex_iload_n ok_X12_arrive (mi 73 rfl) rfl ?_
    refine ex_iconst ok_X12_arrive (mi 74 rfl) ?_
    refine mf_off J24 ok_X12_arrive (mi 75 rfl) (fk (MI_s J24) 49 rfl) (fn (MI_s J24) 49 rfl) rfl ht (fun g26 J27 K28 => ?_)
    refine ex_iload_n ok_X12_arrive (mi 76 rfl) rfl ?_
    refine ex_iret ok_X12_arrive (mi 77 rfl) rfl ?_
    exact ⟨_, rfl, ⟨_, rfl⟩, J27⟩
  · skip
    refine ex_aload_n ok_X12_arrive (mi 25 rfl) rfl ?_
    refine ex_dup ok_X12_arrive (mi 26 rfl) rfl ?_
    refine ex_getI ok_X12_arrive (mi 27 rfl) rfl rfl (fk (MI_s I) 0 rfl) ?_
    refine ex_gen (fun w29 => ?_)
    refine ex_iconst ok_X12_arrive (mi 28 rfl) ?_
    refine ex_iadd ok_X12_arrive (mi 29 rfl) ?_
    refine ex_gen (fun w30 => ?_)
    refine mf_putI I ok_X12_arrive (mi 30 rfl) rfl rfl (fk (MI_s I) 0 rfl) (by decide) (by decide) (fun g31 J32 K33 => ?_)
    have mk34 := KK_mk K33 mk
    refine ex_iload_n ok_X12_arrive (mi 31 rfl) rfl ?_
    refine ex_iret ok_X12_arrive (mi 32 rfl) rfl ?_
    exact ⟨_, rfl, ⟨_, rfl⟩, J32⟩
theorem arrive_10 {G : GE} (hst : (ge_l G).stackTraces = false) {y t m : Nat} {D : UT} {R : Nat → Prop} {g : GT} (I : MI y D 402 R g) (ht : t < 402) (mk : MK y g t 10 m) : ex_W G 7 0 0 M_X12_arrive 13 [(0, .ref y), (2, .int (nI t)), (3, .int (nI 10))] [] g (SM y D 402 R pI) := by
  refine ex_iload_n ok_X12_arrive (mi 9 rfl) rfl ?_
  refine sf_Sp (As := [_]) ok_X12_arrive (mi 10 rfl) rfl (x_sort10 hst) rfl rfl rfl (by decide) (Nat.le_of_ble_eq_true rfl) (by decide) (fun z1 p2 => ?_)
  subst p2
  refine ex_istore ok_X12_arrive (mi 11 rfl) ?_
  refine ex_aload_n ok_X12_arrive (mi 12 rfl) rfl ?_
  refine ex_getRx ok_X12_arrive (mi 13 rfl) rfl rfl (fk (MI_s I) 0 rfl) (fr (MI_s I) 51 rfl) (fk (MI_s I) 52 rfl) (by decide) ?_
  refine ex_iload_n ok_X12_arrive (mi 14 rfl) rfl ?_
  refine sm_iald ok_X12_arrive (mi 15 rfl) (fk (MI_s I) 52 rfl) (fn (MI_s I) 52 rfl) rfl (by omega) (by decide) ?_
  obtain ⟨v5, hv5, ev5⟩ := vp_in_of (n := 3) (vb_in mk.2.1 (by decide)) (by decide)
  refine ex_top (w := nI v5) ev5 ?_
  refine ex_istore ok_X12_arrive (mi 16 rfl) ?_
  refine ex_aload_n ok_X12_arrive (mi 17 rfl) rfl ?_
  refine ex_getRx ok_X12_arrive (mi 18 rfl) rfl rfl (fk (MI_s I) 0 rfl) (fr (MI_s I) 0 rfl) (fk (MI_s I) 1 rfl) (by decide) ?_
  refine ex_iload ok_X12_arrive (mi 19 rfl) rfl ?_
  refine sf_Sp (As := [_]) ok_X12_arrive (mi 20 rfl) rfl (x_first0 hst) rfl rfl rfl (by decide) (Nat.le_of_ble_eq_true rfl) (by decide) (fun z6 p7 => ?_)
  subst p7
  refine ex_iload ok_X12_arrive (mi 21 rfl) rfl ?_
  refine ex_iadd ok_X12_arrive (mi 22 rfl) ?_
  refine ex_top (w := (nI (0 + v5))) (nI_add 0 _) ?_
  refine sm_bal ok_X12_arrive (mi 23 rfl) (fk (MI_s I) 1 rfl) (fn (MI_s I) 1 rfl) rfl (by omega) (by decide) ?_
  refine ex_gen (fun w10 => ?_)
  refine ex_if_eq (tgt := 55) ok_X12_arrive (mi 24 rfl) rfl (fun h40 => ?_) (fun h40 => ?_)
  · skip
    refine ex_aload_n ok_X12_arrive (mi 33 rfl) rfl ?_
    refine ex_dup ok_X12_arrive (mi 34 rfl) rfl ?_
    refine ex_getI ok_X12_arrive (mi 35 rfl) rfl rfl (fk (MI_s I) 0 rfl) ?_
    refine ex_gen (fun w11 => ?_)
    refine ex_iconst ok_X12_arrive (mi 36 rfl) ?_
    refine ex_iadd ok_X12_arrive (mi 37 rfl) ?_
    refine ex_gen (fun w12 => ?_)
    refine mf_putI I ok_X12_arrive (mi 38 rfl) rfl rfl (fk (MI_s I) 0 rfl) (by decide) (by decide) (fun g13 J14 K15 => ?_)
    have mk16 := KK_mk K15 mk
    refine ex_aload_n ok_X12_arrive (mi 39 rfl) rfl ?_
    refine ex_getRx ok_X12_arrive (mi 40 rfl) rfl rfl (fk (MI_s J14) 0 rfl) (fr (MI_s J14) 48 rfl) (fk (MI_s J14) 49 rfl) (by decide) ?_
    refine ex_iload_n ok_X12_arrive (mi 41 rfl) rfl ?_
    refine ex_iconst ok_X12_arrive (mi 42 rfl) ?_
    refine mf_on J14 ok_X12_arrive (mi 43 rfl) (fk (MI_s J14) 49 rfl) (fn (MI_s J14) 49 rfl) rfl ht (fun g17 J18 K19 => ?_)
    have mk20 := KK_mk K19 mk16
    refine ex_iload ok_X12_arrive (mi 44 rfl) rfl ?_
    refine ex_if_ne (tgt := 87) ok_X12_arrive (mi 45 rfl) rfl (fun hn => absurd (by decide) hn) (fun _ => ?_)
    refine ex_aload_n ok_X12_arrive (mi 46 rfl) rfl ?_
    refine ex_iload ok_X12_arrive (mi 47 rfl) rfl ?_
    refine ex_iload_n ok_X12_arrive (mi 48 rfl) rfl ?_
    refine sm_V (As := [_, _]) ok_X12_arrive (mi 49 rfl) rfl (s_X12_toLeader_10 hst J18 (by omega) ht mk20) rfl (fk (MI_s J18) 0 rfl) rfl rfl (by decide) (by decide) (Nat.le_of_ble_eq_true rfl) (by decide) SM_no (fun z21 g23 p22 => ?_)
    obtain ⟨u25, eu25, u25p, J24⟩ := p22
    cases eu25
    obtain rfl : z21 = none := u25p
    refine ex_goto (tgt := 126) ok_X12_arrive (mi 50 rfl) rfl ?_
    refine ex_aload_n ok_X12_arrive (mi 71 rfl) rfl ?_
    refine ex_getRx ok_X12_arrive (mi 72 rfl) rfl rfl (fk (MI_s J24) 0 rfl) (fr (MI_s J24) 48 rfl) (fk (MI_s J24) 49 rfl) (by decide) ?_
    refine ex_iload_n ok_X12_arrive (mi 73 rfl) rfl ?_
    refine ex_iconst ok_X12_arrive (mi 74 rfl) ?_
    refine mf_off J24 ok_X12_arrive (mi 75 rfl) (fk (MI_s J24) 49 rfl) (fn (MI_s J24) 49 rfl) rfl ht (fun g26 J27 K28 => ?_)
    refine ex_iload_n ok_X12_arrive (mi 76 rfl) rfl ?_
    refine ex_iret ok_X12_arrive (mi 77 rfl) rfl ?_
    exact ⟨_, rfl, ⟨_, rfl⟩, J27⟩
  · skip
    refine ex_aload_n ok_X12_arrive (mi 25 rfl) rfl ?_
    refine ex_dup ok_X12_arrive (mi 26 rfl) rfl ?_
    refine ex_getI ok_X12_arrive (mi 27 rfl) rfl rfl (fk (MI_s I) 0 rfl) ?_
    refine ex_gen (fun w29 => ?_)
    refine ex_iconst ok_X12_arrive (mi 28 rfl) ?_
    refine ex_iadd ok_X12_arrive (mi 29 rfl) ?_
    refine ex_gen (fun w30 => ?_)
    refine mf_putI I ok_X12_arrive (mi 30 rfl) rfl rfl (fk (MI_s I) 0 rfl) (by decide) (by decide) (fun g31 J32 K33 => ?_)
    have mk34 := KK_mk K33 mk
    refine ex_iload_n ok_X12_arrive (mi 31 rfl) rfl ?_
    refine ex_iret ok_X12_arrive (mi 32 rfl) rfl ?_
    exact ⟨_, rfl, ⟨_, rfl⟩, J32⟩
theorem arrive_11 {G : GE} (hst : (ge_l G).stackTraces = false) {y t m : Nat} {D : UT} {R : Nat → Prop} {g : GT} (I : MI y D 402 R g) (ht : t < 402) (mk : MK y g t 11 m) : ex_W G 7 0 0 M_X12_arrive 13 [(0, .ref y), (2, .int (nI t)), (3, .int (nI 11))] [] g (SM y D 402 R pI) := by
  refine ex_iload_n ok_X12_arrive (mi 9 rfl) rfl ?_
  refine sf_Sp (As := [_]) ok_X12_arrive (mi 10 rfl) rfl (x_sort11 hst) rfl rfl rfl (by decide) (Nat.le_of_ble_eq_true rfl) (by decide) (fun z1 p2 => ?_)
  subst p2
  refine ex_istore ok_X12_arrive (mi 11 rfl) ?_
  refine ex_aload_n ok_X12_arrive (mi 12 rfl) rfl ?_
  refine ex_getRx ok_X12_arrive (mi 13 rfl) rfl rfl (fk (MI_s I) 0 rfl) (fr (MI_s I) 51 rfl) (fk (MI_s I) 52 rfl) (by decide) ?_
  refine ex_iload_n ok_X12_arrive (mi 14 rfl) rfl ?_
  refine sm_iald ok_X12_arrive (mi 15 rfl) (fk (MI_s I) 52 rfl) (fn (MI_s I) 52 rfl) rfl (by omega) (by decide) ?_
  obtain ⟨v5, hv5, ev5⟩ := vp_in_of (n := 9) (vb_in mk.2.1 (by decide)) (by decide)
  refine ex_top (w := nI v5) ev5 ?_
  refine ex_istore ok_X12_arrive (mi 16 rfl) ?_
  refine ex_aload_n ok_X12_arrive (mi 17 rfl) rfl ?_
  refine ex_getRx ok_X12_arrive (mi 18 rfl) rfl rfl (fk (MI_s I) 0 rfl) (fr (MI_s I) 0 rfl) (fk (MI_s I) 1 rfl) (by decide) ?_
  refine ex_iload ok_X12_arrive (mi 19 rfl) rfl ?_
  refine sf_Sp (As := [_]) ok_X12_arrive (mi 20 rfl) rfl (x_first1 hst) rfl rfl rfl (by decide) (Nat.le_of_ble_eq_true rfl) (by decide) (fun z6 p7 => ?_)
  subst p7
  refine ex_iload ok_X12_arrive (mi 21 rfl) rfl ?_
  refine ex_iadd ok_X12_arrive (mi 22 rfl) ?_
  refine ex_top (w := (nI (3 + v5))) (nI_add 3 _) ?_
  refine sm_bal ok_X12_arrive (mi 23 rfl) (fk (MI_s I) 1 rfl) (fn (MI_s I) 1 rfl) rfl (by omega) (by decide) ?_
  refine ex_gen (fun w10 => ?_)
  refine ex_if_eq (tgt := 55) ok_X12_arrive (mi 24 rfl) rfl (fun h40 => ?_) (fun h40 => ?_)
  · skip
    refine ex_aload_n ok_X12_arrive (mi 33 rfl) rfl ?_
    refine ex_dup ok_X12_arrive (mi 34 rfl) rfl ?_
    refine ex_getI ok_X12_arrive (mi 35 rfl) rfl rfl (fk (MI_s I) 0 rfl) ?_
    refine ex_gen (fun w11 => ?_)
    refine ex_iconst ok_X12_arrive (mi 36 rfl) ?_
    refine ex_iadd ok_X12_arrive (mi 37 rfl) ?_
    refine ex_gen (fun w12 => ?_)
    refine mf_putI I ok_X12_arrive (mi 38 rfl) rfl rfl (fk (MI_s I) 0 rfl) (by decide) (by decide) (fun g13 J14 K15 => ?_)
    have mk16 := KK_mk K15 mk
    refine ex_aload_n ok_X12_arrive (mi 39 rfl) rfl ?_
    refine ex_getRx ok_X12_arrive (mi 40 rfl) rfl rfl (fk (MI_s J14) 0 rfl) (fr (MI_s J14) 48 rfl) (fk (MI_s J14) 49 rfl) (by decide) ?_
    refine ex_iload_n ok_X12_arrive (mi 41 rfl) rfl ?_
    refine ex_iconst ok_X12_arrive (mi 42 rfl) ?_
    refine mf_on J14 ok_X12_arrive (mi 43 rfl) (fk (MI_s J14) 49 rfl) (fn (MI_s J14) 49 rfl) rfl ht (fun g17 J18 K19 => ?_)
    have mk20 := KK_mk K19 mk16
    refine ex_iload ok_X12_arrive (mi 44 rfl) rfl ?_
    refine ex_if_ne (tgt := 87) ok_X12_arrive (mi 45 rfl) rfl (fun _ => ?_) (fun hn => absurd hn (by decide))
    refine ex_iload ok_X12_arrive (mi 51 rfl) rfl ?_
    refine ex_iconst ok_X12_arrive (mi 52 rfl) ?_
    refine ex_icmp_ne (tgt := 103) ok_X12_arrive (mi 53 rfl) rfl (fun hn => absurd (by decide) hn) (fun _ => ?_)
    refine ex_aload_n ok_X12_arrive (mi 54 rfl) rfl ?_
    refine ex_iload ok_X12_arrive (mi 55 rfl) rfl ?_
    refine ex_iload_n ok_X12_arrive (mi 56 rfl) rfl ?_
    refine sm_V (As := [_, _]) ok_X12_arrive (mi 57 rfl) rfl (s_X12_toKeeper_11 hst J18 (by omega) ht mk20) rfl (fk (MI_s J18) 0 rfl) rfl rfl (by decide) (by decide) (Nat.le_of_ble_eq_true rfl) (by decide) SM_no (fun z21 g23 p22 => ?_)
    obtain ⟨u25, eu25, u25p, J24⟩ := p22
    cases eu25
    obtain rfl : z21 = none := u25p
    refine ex_goto (tgt := 126) ok_X12_arrive (mi 58 rfl) rfl ?_
    refine ex_aload_n ok_X12_arrive (mi 71 rfl) rfl ?_
    refine ex_getRx ok_X12_arrive (mi 72 rfl) rfl rfl (fk (MI_s J24) 0 rfl) (fr (MI_s J24) 48 rfl) (fk (MI_s J24) 49 rfl) (by decide) ?_
    refine ex_iload_n ok_X12_arrive (mi 73 rfl) rfl ?_
    refine ex_iconst ok_X12_arrive (mi 74 rfl) ?_
    refine mf_off J24 ok_X12_arrive (mi 75 rfl) (fk (MI_s J24) 49 rfl) (fn (MI_s J24) 49 rfl) rfl ht (fun g26 J27 K28 => ?_)
    refine ex_iload_n ok_X12_arrive (mi 76 rfl) rfl ?_
    refine ex_iret ok_X12_arrive (mi 77 rfl) rfl ?_
    exact ⟨_, rfl, ⟨_, rfl⟩, J27⟩
  · skip
    refine ex_aload_n ok_X12_arrive (mi 25 rfl) rfl ?_
    refine ex_dup ok_X12_arrive (mi 26 rfl) rfl ?_
    refine ex_getI ok_X12_arrive (mi 27 rfl) rfl rfl (fk (MI_s I) 0 rfl) ?_
    refine ex_gen (fun w29 => ?_)
    refine ex_iconst ok_X12_arrive (mi 28 rfl) ?_
    refine ex_iadd ok_X12_arrive (mi 29 rfl) ?_
    refine ex_gen (fun w30 => ?_)
    refine mf_putI I ok_X12_arrive (mi 30 rfl) rfl rfl (fk (MI_s I) 0 rfl) (by decide) (by decide) (fun g31 J32 K33 => ?_)
    have mk34 := KK_mk K33 mk
    refine ex_iload_n ok_X12_arrive (mi 31 rfl) rfl ?_
    refine ex_iret ok_X12_arrive (mi 32 rfl) rfl ?_
    exact ⟨_, rfl, ⟨_, rfl⟩, J32⟩
theorem arrive_12 {G : GE} (hst : (ge_l G).stackTraces = false) {y t m : Nat} {D : UT} {R : Nat → Prop} {g : GT} (I : MI y D 402 R g) (ht : t < 402) (mk : MK y g t 12 m) : ex_W G 7 0 0 M_X12_arrive 13 [(0, .ref y), (2, .int (nI t)), (3, .int (nI 12))] [] g (SM y D 402 R pI) := by
  refine ex_iload_n ok_X12_arrive (mi 9 rfl) rfl ?_
  refine sf_Sp (As := [_]) ok_X12_arrive (mi 10 rfl) rfl (x_sort12 hst) rfl rfl rfl (by decide) (Nat.le_of_ble_eq_true rfl) (by decide) (fun z1 p2 => ?_)
  subst p2
  refine ex_istore ok_X12_arrive (mi 11 rfl) ?_
  refine ex_aload_n ok_X12_arrive (mi 12 rfl) rfl ?_
  refine ex_getRx ok_X12_arrive (mi 13 rfl) rfl rfl (fk (MI_s I) 0 rfl) (fr (MI_s I) 51 rfl) (fk (MI_s I) 52 rfl) (by decide) ?_
  refine ex_iload_n ok_X12_arrive (mi 14 rfl) rfl ?_
  refine sm_iald ok_X12_arrive (mi 15 rfl) (fk (MI_s I) 52 rfl) (fn (MI_s I) 52 rfl) rfl (by omega) (by decide) ?_
  obtain ⟨v5, hv5, ev5⟩ := vp_in_of (n := 3) (vb_in mk.2.1 (by decide)) (by decide)
  refine ex_top (w := nI v5) ev5 ?_
  refine ex_istore ok_X12_arrive (mi 16 rfl) ?_
  refine ex_aload_n ok_X12_arrive (mi 17 rfl) rfl ?_
  refine ex_getRx ok_X12_arrive (mi 18 rfl) rfl rfl (fk (MI_s I) 0 rfl) (fr (MI_s I) 0 rfl) (fk (MI_s I) 1 rfl) (by decide) ?_
  refine ex_iload ok_X12_arrive (mi 19 rfl) rfl ?_
  refine sf_Sp (As := [_]) ok_X12_arrive (mi 20 rfl) rfl (x_first0 hst) rfl rfl rfl (by decide) (Nat.le_of_ble_eq_true rfl) (by decide) (fun z6 p7 => ?_)
  subst p7
  refine ex_iload ok_X12_arrive (mi 21 rfl) rfl ?_
  refine ex_iadd ok_X12_arrive (mi 22 rfl) ?_
  refine ex_top (w := (nI (0 + v5))) (nI_add 0 _) ?_
  refine sm_bal ok_X12_arrive (mi 23 rfl) (fk (MI_s I) 1 rfl) (fn (MI_s I) 1 rfl) rfl (by omega) (by decide) ?_
  refine ex_gen (fun w10 => ?_)
  refine ex_if_eq (tgt := 55) ok_X12_arrive (mi 24 rfl) rfl (fun h40 => ?_) (fun h40 => ?_)
  · skip
    refine ex_aload_n ok_X12_arrive (mi 33 rfl) rfl ?_
    refine ex_dup ok_X12_arrive (mi 34 rfl) rfl ?_
    refine ex_getI ok_X12_arrive (mi 35 rfl) rfl rfl (fk (MI_s I) 0 rfl) ?_
    refine ex_gen (fun w11 => ?_)
    refine ex_iconst ok_X12_arrive (mi 36 rfl) ?_
    refine ex_iadd ok_X12_arrive (mi 37 rfl) ?_
    refine ex_gen (fun w12 => ?_)
    refine mf_putI I ok_X12_arrive (mi 38 rfl) rfl rfl (fk (MI_s I) 0 rfl) (by decide) (by decide) (fun g13 J14 K15 => ?_)
    have mk16 := KK_mk K15 mk
    refine ex_aload_n ok_X12_arrive (mi 39 rfl) rfl ?_
    refine ex_getRx ok_X12_arrive (mi 40 rfl) rfl rfl (fk (MI_s J14) 0 rfl) (fr (MI_s J14) 48 rfl) (fk (MI_s J14) 49 rfl) (by decide) ?_
    refine ex_iload_n ok_X12_arrive (mi 41 rfl) rfl ?_
    refine ex_iconst ok_X12_arrive (mi 42 rfl) ?_
    refine mf_on J14 ok_X12_arrive (mi 43 rfl) (fk (MI_s J14) 49 rfl) (fn (MI_s J14) 49 rfl) rfl ht (fun g17 J18 K19 => ?_)
    have mk20 := KK_mk K19 mk16
    refine ex_iload ok_X12_arrive (mi 44 rfl) rfl ?_
    refine ex_if_ne (tgt := 87) ok_X12_arrive (mi 45 rfl) rfl (fun hn => absurd (by decide) hn) (fun _ => ?_)
    refine ex_aload_n ok_X12_arrive (mi 46 rfl) rfl ?_
    refine ex_iload ok_X12_arrive (mi 47 rfl) rfl ?_
    refine ex_iload_n ok_X12_arrive (mi 48 rfl) rfl ?_
    refine sm_V (As := [_, _]) ok_X12_arrive (mi 49 rfl) rfl (s_X12_toLeader_12 hst J18 (by omega) ht mk20) rfl (fk (MI_s J18) 0 rfl) rfl rfl (by decide) (by decide) (Nat.le_of_ble_eq_true rfl) (by decide) SM_no (fun z21 g23 p22 => ?_)
    obtain ⟨u25, eu25, u25p, J24⟩ := p22
    cases eu25
    obtain rfl : z21 = none := u25p
    refine ex_goto (tgt := 126) ok_X12_arrive (mi 50 rfl) rfl ?_
    refine ex_aload_n ok_X12_arrive (mi 71 rfl) rfl ?_
    refine ex_getRx ok_X12_arrive (mi 72 rfl) rfl rfl (fk (MI_s J24) 0 rfl) (fr (MI_s J24) 48 rfl) (fk (MI_s J24) 49 rfl) (by decide) ?_
    refine ex_iload_n ok_X12_arrive (mi 73 rfl) rfl ?_
    refine ex_iconst ok_X12_arrive (mi 74 rfl) ?_
    refine mf_off J24 ok_X12_arrive (mi 75 rfl) (fk (MI_s J24) 49 rfl) (fn (MI_s J24) 49 rfl) rfl ht (fun g26 J27 K28 => ?_)
    refine ex_iload_n ok_X12_arrive (mi 76 rfl) rfl ?_
    refine ex_iret ok_X12_arrive (mi 77 rfl) rfl ?_
    exact ⟨_, rfl, ⟨_, rfl⟩, J27⟩
  · skip
    refine ex_aload_n ok_X12_arrive (mi 25 rfl) rfl ?_
    refine ex_dup ok_X12_arrive (mi 26 rfl) rfl ?_
    refine ex_getI ok_X12_arrive (mi 27 rfl) rfl rfl (fk (MI_s I) 0 rfl) ?_
    refine ex_gen (fun w29 => ?_)
    refine ex_iconst ok_X12_arrive (mi 28 rfl) ?_
    refine ex_iadd ok_X12_arrive (mi 29 rfl) ?_
    refine ex_gen (fun w30 => ?_)
    refine mf_putI I ok_X12_arrive (mi 30 rfl) rfl rfl (fk (MI_s I) 0 rfl) (by decide) (by decide) (fun g31 J32 K33 => ?_)
    have mk34 := KK_mk K33 mk
    refine ex_iload_n ok_X12_arrive (mi 31 rfl) rfl ?_
    refine ex_iret ok_X12_arrive (mi 32 rfl) rfl ?_
    exact ⟨_, rfl, ⟨_, rfl⟩, J32⟩
theorem arrive_13 {G : GE} (hst : (ge_l G).stackTraces = false) {y t m : Nat} {D : UT} {R : Nat → Prop} {g : GT} (I : MI y D 402 R g) (ht : t < 402) (mk : MK y g t 13 m) : ex_W G 7 0 0 M_X12_arrive 13 [(0, .ref y), (2, .int (nI t)), (3, .int (nI 13))] [] g (SM y D 402 R pI) := by
  refine ex_iload_n ok_X12_arrive (mi 9 rfl) rfl ?_
  refine sf_Sp (As := [_]) ok_X12_arrive (mi 10 rfl) rfl (x_sort13 hst) rfl rfl rfl (by decide) (Nat.le_of_ble_eq_true rfl) (by decide) (fun z1 p2 => ?_)
  subst p2
  refine ex_istore ok_X12_arrive (mi 11 rfl) ?_
  refine ex_aload_n ok_X12_arrive (mi 12 rfl) rfl ?_
  refine ex_getRx ok_X12_arrive (mi 13 rfl) rfl rfl (fk (MI_s I) 0 rfl) (fr (MI_s I) 51 rfl) (fk (MI_s I) 52 rfl) (by decide) ?_
  refine ex_iload_n ok_X12_arrive (mi 14 rfl) rfl ?_
  refine sm_iald ok_X12_arrive (mi 15 rfl) (fk (MI_s I) 52 rfl) (fn (MI_s I) 52 rfl) rfl (by omega) (by decide) ?_
  obtain ⟨v5, hv5, ev5⟩ := vp_in_of (n := 12) (vb_in mk.2.1 (by decide)) (by decide)
  refine ex_top (w := nI v5) ev5 ?_
  refine ex_istore ok_X12_arrive (mi 16 rfl) ?_
  refine ex_aload_n ok_X12_arrive (mi 17 rfl) rfl ?_
  refine ex_getRx ok_X12_arrive (mi 18 rfl) rfl rfl (fk (MI_s I) 0 rfl) (fr (MI_s I) 0 rfl) (fk (MI_s I) 1 rfl) (by decide) ?_
  refine ex_iload ok_X12_arrive (mi 19 rfl) rfl ?_
  refine sf_Sp (As := [_]) ok_X12_arrive (mi 20 rfl) rfl (x_first2 hst) rfl rfl rfl (by decide) (Nat.le_of_ble_eq_true rfl) (by decide) (fun z6 p7 => ?_)
  subst p7
  refine ex_iload ok_X12_arrive (mi 21 rfl) rfl ?_
  refine ex_iadd ok_X12_arrive (mi 22 rfl) ?_
  refine ex_top (w := (nI (12 + v5))) (nI_add 12 _) ?_
  refine sm_bal ok_X12_arrive (mi 23 rfl) (fk (MI_s I) 1 rfl) (fn (MI_s I) 1 rfl) rfl (by omega) (by decide) ?_
  refine ex_gen (fun w10 => ?_)
  refine ex_if_eq (tgt := 55) ok_X12_arrive (mi 24 rfl) rfl (fun h40 => ?_) (fun h40 => ?_)
  · skip
    refine ex_aload_n ok_X12_arrive (mi 33 rfl) rfl ?_
    refine ex_dup ok_X12_arrive (mi 34 rfl) rfl ?_
    refine ex_getI ok_X12_arrive (mi 35 rfl) rfl rfl (fk (MI_s I) 0 rfl) ?_
    refine ex_gen (fun w11 => ?_)
    refine ex_iconst ok_X12_arrive (mi 36 rfl) ?_
    refine ex_iadd ok_X12_arrive (mi 37 rfl) ?_
    refine ex_gen (fun w12 => ?_)
    refine mf_putI I ok_X12_arrive (mi 38 rfl) rfl rfl (fk (MI_s I) 0 rfl) (by decide) (by decide) (fun g13 J14 K15 => ?_)
    have mk16 := KK_mk K15 mk
    refine ex_aload_n ok_X12_arrive (mi 39 rfl) rfl ?_
    refine ex_getRx ok_X12_arrive (mi 40 rfl) rfl rfl (fk (MI_s J14) 0 rfl) (fr (MI_s J14) 48 rfl) (fk (MI_s J14) 49 rfl) (by decide) ?_
    refine ex_iload_n ok_X12_arrive (mi 41 rfl) rfl ?_
    refine ex_iconst ok_X12_arrive (mi 42 rfl) ?_
    refine mf_on J14 ok_X12_arrive (mi 43 rfl) (fk (MI_s J14) 49 rfl) (fn (MI_s J14) 49 rfl) rfl ht (fun g17 J18 K19 => ?_)
    have mk20 := KK_mk K19 mk16
    refine ex_iload ok_X12_arrive (mi 44 rfl) rfl ?_
    refine ex_if_ne (tgt := 87) ok_X12_arrive (mi 45 rfl) rfl (fun _ => ?_) (fun hn => absurd hn (by decide))
    refine ex_iload ok_X12_arrive (mi 51 rfl) rfl ?_
    refine ex_iconst ok_X12_arrive (mi 52 rfl) ?_
    refine ex_icmp_ne (tgt := 103) ok_X12_arrive (mi 53 rfl) rfl (fun _ => ?_) (fun hn => absurd hn (by decide))
    refine ex_iload ok_X12_arrive (mi 59 rfl) rfl ?_
    refine ex_iconst ok_X12_arrive (mi 60 rfl) ?_
    refine ex_icmp_ne (tgt := 119) ok_X12_arrive (mi 61 rfl) rfl (fun hn => absurd (by decide) hn) (fun _ => ?_)
    refine ex_aload_n ok_X12_arrive (mi 62 rfl) rfl ?_
    refine ex_iload ok_X12_arrive (mi 63 rfl) rfl ?_
    refine ex_iload_n ok_X12_arrive (mi 64 rfl) rfl ?_
    refine sm_V (As := [_, _]) ok_X12_arrive (mi 65 rfl) rfl (s_X12_toVoter_13 hst J18 (by omega) ht mk20) rfl (fk (MI_s J18) 0 rfl) rfl rfl (by decide) (by decide) (Nat.le_of_ble_eq_true rfl) (by decide) SM_no (fun z21 g23 p22 => ?_)
    obtain ⟨u25, eu25, u25p, J24⟩ := p22
    cases eu25
    obtain rfl : z21 = none := u25p
    refine ex_goto (tgt := 126) ok_X12_arrive (mi 66 rfl) rfl ?_
    refine ex_aload_n ok_X12_arrive (mi 71 rfl) rfl ?_
    refine ex_getRx ok_X12_arrive (mi 72 rfl) rfl rfl (fk (MI_s J24) 0 rfl) (fr (MI_s J24) 48 rfl) (fk (MI_s J24) 49 rfl) (by decide) ?_
    refine ex_iload_n ok_X12_arrive (mi 73 rfl) rfl ?_
    refine ex_iconst ok_X12_arrive (mi 74 rfl) ?_
    refine mf_off J24 ok_X12_arrive (mi 75 rfl) (fk (MI_s J24) 49 rfl) (fn (MI_s J24) 49 rfl) rfl ht (fun g26 J27 K28 => ?_)
    refine ex_iload_n ok_X12_arrive (mi 76 rfl) rfl ?_
    refine ex_iret ok_X12_arrive (mi 77 rfl) rfl ?_
    exact ⟨_, rfl, ⟨_, rfl⟩, J27⟩
  · skip
    refine ex_aload_n ok_X12_arrive (mi 25 rfl) rfl ?_
    refine ex_dup ok_X12_arrive (mi 26 rfl) rfl ?_
    refine ex_getI ok_X12_arrive (mi 27 rfl) rfl rfl (fk (MI_s I) 0 rfl) ?_
    refine ex_gen (fun w29 => ?_)
    refine ex_iconst ok_X12_arrive (mi 28 rfl) ?_
    refine ex_iadd ok_X12_arrive (mi 29 rfl) ?_
    refine ex_gen (fun w30 => ?_)
    refine mf_putI I ok_X12_arrive (mi 30 rfl) rfl rfl (fk (MI_s I) 0 rfl) (by decide) (by decide) (fun g31 J32 K33 => ?_)
    have mk34 := KK_mk K33 mk
    refine ex_iload_n ok_X12_arrive (mi 31 rfl) rfl ?_
    refine ex_iret ok_X12_arrive (mi 32 rfl) rfl ?_
    exact ⟨_, rfl, ⟨_, rfl⟩, J32⟩
theorem arrive_14 {G : GE} (hst : (ge_l G).stackTraces = false) {y t m : Nat} {D : UT} {R : Nat → Prop} {g : GT} (I : MI y D 402 R g) (ht : t < 402) (mk : MK y g t 14 m) : ex_W G 7 0 0 M_X12_arrive 13 [(0, .ref y), (2, .int (nI t)), (3, .int (nI 14))] [] g (SM y D 402 R pI) := by
  refine ex_iload_n ok_X12_arrive (mi 9 rfl) rfl ?_
  refine sf_Sp (As := [_]) ok_X12_arrive (mi 10 rfl) rfl (x_sort14 hst) rfl rfl rfl (by decide) (Nat.le_of_ble_eq_true rfl) (by decide) (fun z1 p2 => ?_)
  subst p2
  refine ex_istore ok_X12_arrive (mi 11 rfl) ?_
  refine ex_aload_n ok_X12_arrive (mi 12 rfl) rfl ?_
  refine ex_getRx ok_X12_arrive (mi 13 rfl) rfl rfl (fk (MI_s I) 0 rfl) (fr (MI_s I) 51 rfl) (fk (MI_s I) 52 rfl) (by decide) ?_
  refine ex_iload_n ok_X12_arrive (mi 14 rfl) rfl ?_
  refine sm_iald ok_X12_arrive (mi 15 rfl) (fk (MI_s I) 52 rfl) (fn (MI_s I) 52 rfl) rfl (by omega) (by decide) ?_
  obtain ⟨v5, hv5, ev5⟩ := vp_in_of (n := 3) (vb_in mk.2.1 (by decide)) (by decide)
  refine ex_top (w := nI v5) ev5 ?_
  refine ex_istore ok_X12_arrive (mi 16 rfl) ?_
  refine ex_aload_n ok_X12_arrive (mi 17 rfl) rfl ?_
  refine ex_getRx ok_X12_arrive (mi 18 rfl) rfl rfl (fk (MI_s I) 0 rfl) (fr (MI_s I) 0 rfl) (fk (MI_s I) 1 rfl) (by decide) ?_
  refine ex_iload ok_X12_arrive (mi 19 rfl) rfl ?_
  refine sf_Sp (As := [_]) ok_X12_arrive (mi 20 rfl) rfl (x_first0 hst) rfl rfl rfl (by decide) (Nat.le_of_ble_eq_true rfl) (by decide) (fun z6 p7 => ?_)
  subst p7
  refine ex_iload ok_X12_arrive (mi 21 rfl) rfl ?_
  refine ex_iadd ok_X12_arrive (mi 22 rfl) ?_
  refine ex_top (w := (nI (0 + v5))) (nI_add 0 _) ?_
  refine sm_bal ok_X12_arrive (mi 23 rfl) (fk (MI_s I) 1 rfl) (fn (MI_s I) 1 rfl) rfl (by omega) (by decide) ?_
  refine ex_gen (fun w10 => ?_)
  refine ex_if_eq (tgt := 55) ok_X12_arrive (mi 24 rfl) rfl (fun h40 => ?_) (fun h40 => ?_)
  · skip
    refine ex_aload_n ok_X12_arrive (mi 33 rfl) rfl ?_
    refine ex_dup ok_X12_arrive (mi 34 rfl) rfl ?_
    refine ex_getI ok_X12_arrive (mi 35 rfl) rfl rfl (fk (MI_s I) 0 rfl) ?_
    refine ex_gen (fun w11 => ?_)
    refine ex_iconst ok_X12_arrive (mi 36 rfl) ?_
    refine ex_iadd ok_X12_arrive (mi 37 rfl) ?_
    refine ex_gen (fun w12 => ?_)
    refine mf_putI I ok_X12_arrive (mi 38 rfl) rfl rfl (fk (MI_s I) 0 rfl) (by decide) (by decide) (fun g13 J14 K15 => ?_)
    have mk16 := KK_mk K15 mk
    refine ex_aload_n ok_X12_arrive (mi 39 rfl) rfl ?_
    refine ex_getRx ok_X12_arrive (mi 40 rfl) rfl rfl (fk (MI_s J14) 0 rfl) (fr (MI_s J14) 48 rfl) (fk (MI_s J14) 49 rfl) (by decide) ?_
    refine ex_iload_n ok_X12_arrive (mi 41 rfl) rfl ?_
    refine ex_iconst ok_X12_arrive (mi 42 rfl) ?_
    refine mf_on J14 ok_X12_arrive (mi 43 rfl) (fk (MI_s J14) 49 rfl) (fn (MI_s J14) 49 rfl) rfl ht (fun g17 J18 K19 => ?_)
    have mk20 := KK_mk K19 mk16
    refine ex_iload ok_X12_arrive (mi 44 rfl) rfl ?_
    refine ex_if_ne (tgt := 87) ok_X12_arrive (mi 45 rfl) rfl (fun hn => absurd (by decide) hn) (fun _ => ?_)
    refine ex_aload_n ok_X12_arrive (mi 46 rfl) rfl ?_
    refine ex_iload ok_X12_arrive (mi 47 rfl) rfl ?_
    refine ex_iload_n ok_X12_arrive (mi 48 rfl) rfl ?_
    refine sm_V (As := [_, _]) ok_X12_arrive (mi 49 rfl) rfl (s_X12_toLeader_14 hst J18 (by omega) ht mk20) rfl (fk (MI_s J18) 0 rfl) rfl rfl (by decide) (by decide) (Nat.le_of_ble_eq_true rfl) (by decide) SM_no (fun z21 g23 p22 => ?_)
    obtain ⟨u25, eu25, u25p, J24⟩ := p22
    cases eu25
    obtain rfl : z21 = none := u25p
    refine ex_goto (tgt := 126) ok_X12_arrive (mi 50 rfl) rfl ?_
    refine ex_aload_n ok_X12_arrive (mi 71 rfl) rfl ?_
    refine ex_getRx ok_X12_arrive (mi 72 rfl) rfl rfl (fk (MI_s J24) 0 rfl) (fr (MI_s J24) 48 rfl) (fk (MI_s J24) 49 rfl) (by decide) ?_
    refine ex_iload_n ok_X12_arrive (mi 73 rfl) rfl ?_
    refine ex_iconst ok_X12_arrive (mi 74 rfl) ?_
    refine mf_off J24 ok_X12_arrive (mi 75 rfl) (fk (MI_s J24) 49 rfl) (fn (MI_s J24) 49 rfl) rfl ht (fun g26 J27 K28 => ?_)
    refine ex_iload_n ok_X12_arrive (mi 76 rfl) rfl ?_
    refine ex_iret ok_X12_arrive (mi 77 rfl) rfl ?_
    exact ⟨_, rfl, ⟨_, rfl⟩, J27⟩
  · skip
    refine ex_aload_n ok_X12_arrive (mi 25 rfl) rfl ?_
    refine ex_dup ok_X12_arrive (mi 26 rfl) rfl ?_
    refine ex_getI ok_X12_arrive (mi 27 rfl) rfl rfl (fk (MI_s I) 0 rfl) ?_
    refine ex_gen (fun w29 => ?_)
    refine ex_iconst ok_X12_arrive (mi 28 rfl) ?_
    refine ex_iadd ok_X12_arrive (mi 29 rfl) ?_
    refine ex_gen (fun w30 => ?_)
    refine mf_putI I ok_X12_arrive (mi 30 rfl) rfl rfl (fk (MI_s I) 0 rfl) (by decide) (by decide) (fun g31 J32 K33 => ?_)
    have mk34 := KK_mk K33 mk
    refine ex_iload_n ok_X12_arrive (mi 31 rfl) rfl ?_
    refine ex_iret ok_X12_arrive (mi 32 rfl) rfl ?_
    exact ⟨_, rfl, ⟨_, rfl⟩, J32⟩
theorem arrive_15 {G : GE} (hst : (ge_l G).stackTraces = false) {y t m : Nat} {D : UT} {R : Nat → Prop} {g : GT} (I : MI y D 402 R g) (ht : t < 402) (mk : MK y g t 15 m) : ex_W G 7 0 0 M_X12_arrive 13 [(0, .ref y), (2, .int (nI t)), (3, .int (nI 15))] [] g (SM y D 402 R pI) := by
  refine ex_iload_n ok_X12_arrive (mi 9 rfl) rfl ?_
  refine sf_Sp (As := [_]) ok_X12_arrive (mi 10 rfl) rfl (x_sort15 hst) rfl rfl rfl (by decide) (Nat.le_of_ble_eq_true rfl) (by decide) (fun z1 p2 => ?_)
  subst p2
  refine ex_istore ok_X12_arrive (mi 11 rfl) ?_
  refine ex_aload_n ok_X12_arrive (mi 12 rfl) rfl ?_
  refine ex_getRx ok_X12_arrive (mi 13 rfl) rfl rfl (fk (MI_s I) 0 rfl) (fr (MI_s I) 51 rfl) (fk (MI_s I) 52 rfl) (by decide) ?_
  refine ex_iload_n ok_X12_arrive (mi 14 rfl) rfl ?_
  refine sm_iald ok_X12_arrive (mi 15 rfl) (fk (MI_s I) 52 rfl) (fn (MI_s I) 52 rfl) rfl (by omega) (by decide) ?_
  obtain ⟨v5, hv5, ev5⟩ := vp_in_of (n := 3) (vb_in mk.2.1 (by decide)) (by decide)
  refine ex_top (w := nI v5) ev5 ?_
  refine ex_istore ok_X12_arrive (mi 16 rfl) ?_
  refine ex_aload_n ok_X12_arrive (mi 17 rfl) rfl ?_
  refine ex_getRx ok_X12_arrive (mi 18 rfl) rfl rfl (fk (MI_s I) 0 rfl) (fr (MI_s I) 0 rfl) (fk (MI_s I) 1 rfl) (by decide) ?_
  refine ex_iload ok_X12_arrive (mi 19 rfl) rfl ?_
  refine sf_Sp (As := [_]) ok_X12_arrive (mi 20 rfl) rfl (x_first0 hst) rfl rfl rfl (by decide) (Nat.le_of_ble_eq_true rfl) (by decide) (fun z6 p7 => ?_)
  subst p7
  refine ex_iload ok_X12_arrive (mi 21 rfl) rfl ?_
  refine ex_iadd ok_X12_arrive (mi 22 rfl) ?_
  refine ex_top (w := (nI (0 + v5))) (nI_add 0 _) ?_
  refine sm_bal ok_X12_arrive (mi 23 rfl) (fk (MI_s I) 1 rfl) (fn (MI_s I) 1 rfl) rfl (by omega) (by decide) ?_
  refine ex_gen (fun w10 => ?_)
  refine ex_if_eq (tgt := 55) ok_X12_arrive (mi 24 rfl) rfl (fun h40 => ?_) (fun h40 => ?_)
  · skip
    refine ex_aload_n ok_X12_arrive (mi 33 rfl) rfl ?_
    refine ex_dup ok_X12_arrive (mi 34 rfl) rfl ?_
    refine ex_getI ok_X12_arrive (mi 35 rfl) rfl rfl (fk (MI_s I) 0 rfl) ?_
    refine ex_gen (fun w11 => ?_)
    refine ex_iconst ok_X12_arrive (mi 36 rfl) ?_
    refine ex_iadd ok_X12_arrive (mi 37 rfl) ?_
    refine ex_gen (fun w12 => ?_)
    refine mf_putI I ok_X12_arrive (mi 38 rfl) rfl rfl (fk (MI_s I) 0 rfl) (by decide) (by decide) (fun g13 J14 K15 => ?_)
    have mk16 := KK_mk K15 mk
    refine ex_aload_n ok_X12_arrive (mi 39 rfl) rfl ?_
    refine ex_getRx ok_X12_arrive (mi 40 rfl) rfl rfl (fk (MI_s J14) 0 rfl) (fr (MI_s J14) 48 rfl) (fk (MI_s J14) 49 rfl) (by decide) ?_
    refine ex_iload_n ok_X12_arrive (mi 41 rfl) rfl ?_
    refine ex_iconst ok_X12_arrive (mi 42 rfl) ?_
    refine mf_on J14 ok_X12_arrive (mi 43 rfl) (fk (MI_s J14) 49 rfl) (fn (MI_s J14) 49 rfl) rfl ht (fun g17 J18 K19 => ?_)
    have mk20 := KK_mk K19 mk16
    refine ex_iload ok_X12_arrive (mi 44 rfl) rfl ?_
    refine ex_if_ne (tgt := 87) ok_X12_arrive (mi 45 rfl) rfl (fun hn => absurd (by decide) hn) (fun _ => ?_)
    refine ex_aload_n ok_X12_arrive (mi 46 rfl) rfl ?_
    refine ex_iload ok_X12_arrive (mi 47 rfl) rfl ?_
    refine ex_iload_n ok_X12_arrive (mi 48 rfl) rfl ?_
    refine sm_V (As := [_, _]) ok_X12_arrive (mi 49 rfl) rfl (s_X12_toLeader_15 hst J18 (by omega) ht mk20) rfl (fk (MI_s J18) 0 rfl) rfl rfl (by decide) (by decide) (Nat.le_of_ble_eq_true rfl) (by decide) SM_no (fun z21 g23 p22 => ?_)
    obtain ⟨u25, eu25, u25p, J24⟩ := p22
    cases eu25
    obtain rfl : z21 = none := u25p
    refine ex_goto (tgt := 126) ok_X12_arrive (mi 50 rfl) rfl ?_
    refine ex_aload_n ok_X12_arrive (mi 71 rfl) rfl ?_
    refine ex_getRx ok_X12_arrive (mi 72 rfl) rfl rfl (fk (MI_s J24) 0 rfl) (fr (MI_s J24) 48 rfl) (fk (MI_s J24) 49 rfl) (by decide) ?_
    refine ex_iload_n ok_X12_arrive (mi 73 rfl) rfl ?_
    refine ex_iconst ok_X12_arrive (mi 74 rfl) ?_
    refine mf_off J24 ok_X12_arrive (mi 75 rfl) (fk (MI_s J24) 49 rfl) (fn (MI_s J24) 49 rfl) rfl ht (fun g26 J27 K28 => ?_)
    refine ex_iload_n ok_X12_arrive (mi 76 rfl) rfl ?_
    refine ex_iret ok_X12_arrive (mi 77 rfl) rfl ?_
    exact ⟨_, rfl, ⟨_, rfl⟩, J27⟩
  · skip
    refine ex_aload_n ok_X12_arrive (mi 25 rfl) rfl ?_
    refine ex_dup ok_X12_arrive (mi 26 rfl) rfl ?_
    refine ex_getI ok_X12_arrive (mi 27 rfl) rfl rfl (fk (MI_s I) 0 rfl) ?_
    refine ex_gen (fun w29 => ?_)
    refine ex_iconst ok_X12_arrive (mi 28 rfl) ?_
    refine ex_iadd ok_X12_arrive (mi 29 rfl) ?_
    refine ex_gen (fun w30 => ?_)
    refine mf_putI I ok_X12_arrive (mi 30 rfl) rfl rfl (fk (MI_s I) 0 rfl) (by decide) (by decide) (fun g31 J32 K33 => ?_)
    have mk34 := KK_mk K33 mk
    refine ex_iload_n ok_X12_arrive (mi 31 rfl) rfl ?_
    refine ex_iret ok_X12_arrive (mi 32 rfl) rfl ?_
    exact ⟨_, rfl, ⟨_, rfl⟩, J32⟩
theorem arrive_16 {G : GE} (hst : (ge_l G).stackTraces = false) {y t m : Nat} {D : UT} {R : Nat → Prop} {g : GT} (I : MI y D 402 R g) (ht : t < 402) (mk : MK y g t 16 m) : ex_W G 7 0 0 M_X12_arrive 13 [(0, .ref y), (2, .int (nI t)), (3, .int (nI 16))] [] g (SM y D 402 R pI) := by
  refine ex_iload_n ok_X12_arrive (mi 9 rfl) rfl ?_
  refine sf_Sp (As := [_]) ok_X12_arrive (mi 10 rfl) rfl (x_sort16 hst) rfl rfl rfl (by decide) (Nat.le_of_ble_eq_true rfl) (by decide) (fun z1 p2 => ?_)
  subst p2
  refine ex_istore ok_X12_arrive (mi 11 rfl) ?_
  refine ex_aload_n ok_X12_arrive (mi 12 rfl) rfl ?_
  refine ex_getRx ok_X12_arrive (mi 13 rfl) rfl rfl (fk (MI_s I) 0 rfl) (fr (MI_s I) 51 rfl) (fk (MI_s I) 52 rfl) (by decide) ?_
  refine ex_iload_n ok_X12_arrive (mi 14 rfl) rfl ?_
  refine sm_iald ok_X12_arrive (mi 15 rfl) (fk (MI_s I) 52 rfl) (fn (MI_s I) 52 rfl) rfl (by omega) (by decide) ?_
  obtain ⟨v5, hv5, ev5⟩ := vp_in_of (n := 9) (vb_in mk.2.1 (by decide)) (by decide)
  refine ex_top (w := nI v5) ev5 ?_
  refine ex_istore ok_X12_arrive (mi 16 rfl) ?_
  refine ex_aload_n ok_X12_arrive (mi 17 rfl) rfl ?_
  refine ex_getRx ok_X12_arrive (mi 18 rfl) rfl rfl (fk (MI_s I) 0 rfl) (fr (MI_s I) 0 rfl) (fk (MI_s I) 1 rfl) (by decide) ?_
  refine ex_iload ok_X12_arrive (mi 19 rfl) rfl ?_
  refine sf_Sp (As := [_]) ok_X12_arrive (mi 20 rfl) rfl (x_first1 hst) rfl rfl rfl (by decide) (Nat.le_of_ble_eq_true rfl) (by decide) (fun z6 p7 => ?_)
  subst p7
  refine ex_iload ok_X12_arrive (mi 21 rfl) rfl ?_
  refine ex_iadd ok_X12_arrive (mi 22 rfl) ?_
  refine ex_top (w := (nI (3 + v5))) (nI_add 3 _) ?_
  refine sm_bal ok_X12_arrive (mi 23 rfl) (fk (MI_s I) 1 rfl) (fn (MI_s I) 1 rfl) rfl (by omega) (by decide) ?_
  refine ex_gen (fun w10 => ?_)
  refine ex_if_eq (tgt := 55) ok_X12_arrive (mi 24 rfl) rfl (fun h40 => ?_) (fun h40 => ?_)
  · skip
    refine ex_aload_n ok_X12_arrive (mi 33 rfl) rfl ?_
    refine ex_dup ok_X12_arrive (mi 34 rfl) rfl ?_
    refine ex_getI ok_X12_arrive (mi 35 rfl) rfl rfl (fk (MI_s I) 0 rfl) ?_
    refine ex_gen (fun w11 => ?_)
    refine ex_iconst ok_X12_arrive (mi 36 rfl) ?_
    refine ex_iadd ok_X12_arrive (mi 37 rfl) ?_
    refine ex_gen (fun w12 => ?_)
    refine mf_putI I ok_X12_arrive (mi 38 rfl) rfl rfl (fk (MI_s I) 0 rfl) (by decide) (by decide) (fun g13 J14 K15 => ?_)
    have mk16 := KK_mk K15 mk
    refine ex_aload_n ok_X12_arrive (mi 39 rfl) rfl ?_
    refine ex_getRx ok_X12_arrive (mi 40 rfl) rfl rfl (fk (MI_s J14) 0 rfl) (fr (MI_s J14) 48 rfl) (fk (MI_s J14) 49 rfl) (by decide) ?_
    refine ex_iload_n ok_X12_arrive (mi 41 rfl) rfl ?_
    refine ex_iconst ok_X12_arrive (mi 42 rfl) ?_
    refine mf_on J14 ok_X12_arrive (mi 43 rfl) (fk (MI_s J14) 49 rfl) (fn (MI_s J14) 49 rfl) rfl ht (fun g17 J18 K19 => ?_)
    have mk20 := KK_mk K19 mk16
    refine ex_iload ok_X12_arrive (mi 44 rfl) rfl ?_
    refine ex_if_ne (tgt := 87) ok_X12_arrive (mi 45 rfl) rfl (fun _ => ?_) (fun hn => absurd hn (by decide))
    refine ex_iload ok_X12_arrive (mi 51 rfl) rfl ?_
    refine ex_iconst ok_X12_arrive (mi 52 rfl) ?_
    refine ex_icmp_ne (tgt := 103) ok_X12_arrive (mi 53 rfl) rfl (fun hn => absurd (by decide) hn) (fun _ => ?_)
    refine ex_aload_n ok_X12_arrive (mi 54 rfl) rfl ?_
    refine ex_iload ok_X12_arrive (mi 55 rfl) rfl ?_
    refine ex_iload_n ok_X12_arrive (mi 56 rfl) rfl ?_
    refine sm_V (As := [_, _]) ok_X12_arrive (mi 57 rfl) rfl (s_X12_toKeeper_16 hst J18 (by omega) ht mk20) rfl (fk (MI_s J18) 0 rfl) rfl rfl (by decide) (by decide) (Nat.le_of_ble_eq_true rfl) (by decide) SM_no (fun z21 g23 p22 => ?_)
    obtain ⟨u25, eu25, u25p, J24⟩ := p22
    cases eu25
    obtain rfl : z21 = none := u25p
    refine ex_goto (tgt := 126) ok_X12_arrive (mi 58 rfl) rfl ?_
    refine ex_aload_n ok_X12_arrive (mi 71 rfl) rfl ?_
    refine ex_getRx ok_X12_arrive (mi 72 rfl) rfl rfl (fk (MI_s J24) 0 rfl) (fr (MI_s J24) 48 rfl) (fk (MI_s J24) 49 rfl) (by decide) ?_
    refine ex_iload_n ok_X12_arrive (mi 73 rfl) rfl ?_
    refine ex_iconst ok_X12_arrive (mi 74 rfl) ?_
    refine mf_off J24 ok_X12_arrive (mi 75 rfl) (fk (MI_s J24) 49 rfl) (fn (MI_s J24) 49 rfl) rfl ht (fun g26 J27 K28 => ?_)
    refine ex_iload_n ok_X12_arrive (mi 76 rfl) rfl ?_
    refine ex_iret ok_X12_arrive (mi 77 rfl) rfl ?_
    exact ⟨_, rfl, ⟨_, rfl⟩, J27⟩
  · skip
    refine ex_aload_n ok_X12_arrive (mi 25 rfl) rfl ?_
    refine ex_dup ok_X12_arrive (mi 26 rfl) rfl ?_
    refine ex_getI ok_X12_arrive (mi 27 rfl) rfl rfl (fk (MI_s I) 0 rfl) ?_
    refine ex_gen (fun w29 => ?_)
    refine ex_iconst ok_X12_arrive (mi 28 rfl) ?_
    refine ex_iadd ok_X12_arrive (mi 29 rfl) ?_
    refine ex_gen (fun w30 => ?_)
    refine mf_putI I ok_X12_arrive (mi 30 rfl) rfl rfl (fk (MI_s I) 0 rfl) (by decide) (by decide) (fun g31 J32 K33 => ?_)
    have mk34 := KK_mk K33 mk
    refine ex_iload_n ok_X12_arrive (mi 31 rfl) rfl ?_
    refine ex_iret ok_X12_arrive (mi 32 rfl) rfl ?_
    exact ⟨_, rfl, ⟨_, rfl⟩, J32⟩
theorem arrive_17 {G : GE} (hst : (ge_l G).stackTraces = false) {y t m : Nat} {D : UT} {R : Nat → Prop} {g : GT} (I : MI y D 402 R g) (ht : t < 402) (mk : MK y g t 17 m) : ex_W G 7 0 0 M_X12_arrive 13 [(0, .ref y), (2, .int (nI t)), (3, .int (nI 17))] [] g (SM y D 402 R pI) := by
  refine ex_iload_n ok_X12_arrive (mi 9 rfl) rfl ?_
  refine sf_Sp (As := [_]) ok_X12_arrive (mi 10 rfl) rfl (x_sort17 hst) rfl rfl rfl (by decide) (Nat.le_of_ble_eq_true rfl) (by decide) (fun z1 p2 => ?_)
  subst p2
  refine ex_istore ok_X12_arrive (mi 11 rfl) ?_
  refine ex_aload_n ok_X12_arrive (mi 12 rfl) rfl ?_
  refine ex_getRx ok_X12_arrive (mi 13 rfl) rfl rfl (fk (MI_s I) 0 rfl) (fr (MI_s I) 51 rfl) (fk (MI_s I) 52 rfl) (by decide) ?_
  refine ex_iload_n ok_X12_arrive (mi 14 rfl) rfl ?_
  refine sm_iald ok_X12_arrive (mi 15 rfl) (fk (MI_s I) 52 rfl) (fn (MI_s I) 52 rfl) rfl (by omega) (by decide) ?_
  obtain ⟨v5, hv5, ev5⟩ := vp_in_of (n := 3) (vb_in mk.2.1 (by decide)) (by decide)
  refine ex_top (w := nI v5) ev5 ?_
  refine ex_istore ok_X12_arrive (mi 16 rfl) ?_
  refine ex_aload_n ok_X12_arrive (mi 17 rfl) rfl ?_
  refine ex_getRx ok_X12_arrive (mi 18 rfl) rfl rfl (fk (MI_s I) 0 rfl) (fr (MI_s I) 0 rfl) (fk (MI_s I) 1 rfl) (by decide) ?_
  refine ex_iload ok_X12_arrive (mi 19 rfl) rfl ?_
  refine sf_Sp (As := [_]) ok_X12_arrive (mi 20 rfl) rfl (x_first0 hst) rfl rfl rfl (by decide) (Nat.le_of_ble_eq_true rfl) (by decide) (fun z6 p7 => ?_)
  subst p7
  refine ex_iload ok_X12_arrive (mi 21 rfl) rfl ?_
  refine ex_iadd ok_X12_arrive (mi 22 rfl) ?_
  refine ex_top (w := (nI (0 + v5))) (nI_add 0 _) ?_
  refine sm_bal ok_X12_arrive (mi 23 rfl) (fk (MI_s I) 1 rfl) (fn (MI_s I) 1 rfl) rfl (by omega) (by decide) ?_
  refine ex_gen (fun w10 => ?_)
  refine ex_if_eq (tgt := 55) ok_X12_arrive (mi 24 rfl) rfl (fun h40 => ?_) (fun h40 => ?_)
  · skip
    refine ex_aload_n ok_X12_arrive (mi 33 rfl) rfl ?_
    refine ex_dup ok_X12_arrive (mi 34 rfl) rfl ?_
    refine ex_getI ok_X12_arrive (mi 35 rfl) rfl rfl (fk (MI_s I) 0 rfl) ?_
    refine ex_gen (fun w11 => ?_)
    refine ex_iconst ok_X12_arrive (mi 36 rfl) ?_
    refine ex_iadd ok_X12_arrive (mi 37 rfl) ?_
    refine ex_gen (fun w12 => ?_)
    refine mf_putI I ok_X12_arrive (mi 38 rfl) rfl rfl (fk (MI_s I) 0 rfl) (by decide) (by decide) (fun g13 J14 K15 => ?_)
    have mk16 := KK_mk K15 mk
    refine ex_aload_n ok_X12_arrive (mi 39 rfl) rfl ?_
    refine ex_getRx ok_X12_arrive (mi 40 rfl) rfl rfl (fk (MI_s J14) 0 rfl) (fr (MI_s J14) 48 rfl) (fk (MI_s J14) 49 rfl) (by decide) ?_
    refine ex_iload_n ok_X12_arrive (mi 41 rfl) rfl ?_
    refine ex_iconst ok_X12_arrive (mi 42 rfl) ?_
    refine mf_on J14 ok_X12_arrive (mi 43 rfl) (fk (MI_s J14) 49 rfl) (fn (MI_s J14) 49 rfl) rfl ht (fun g17 J18 K19 => ?_)
    have mk20 := KK_mk K19 mk16
    refine ex_iload ok_X12_arrive (mi 44 rfl) rfl ?_
    refine ex_if_ne (tgt := 87) ok_X12_arrive (mi 45 rfl) rfl (fun hn => absurd (by decide) hn) (fun _ => ?_)
    refine ex_aload_n ok_X12_arrive (mi 46 rfl) rfl ?_
    refine ex_iload ok_X12_arrive (mi 47 rfl) rfl ?_
    refine ex_iload_n ok_X12_arrive (mi 48 rfl) rfl ?_
    refine sm_V (As := [_, _]) ok_X12_arrive (mi 49 rfl) rfl (s_X12_toLeader_17 hst J18 (by omega) ht mk20) rfl (fk (MI_s J18) 0 rfl) rfl rfl (by decide) (by decide) (Nat.le_of_ble_eq_true rfl) (by decide) SM_no (fun z21 g23 p22 => ?_)
    obtain ⟨u25, eu25, u25p, J24⟩ := p22
    cases eu25
    obtain rfl : z21 = none := u25p
    refine ex_goto (tgt := 126) ok_X12_arrive (mi 50 rfl) rfl ?_
    refine ex_aload_n ok_X12_arrive (mi 71 rfl) rfl ?_
    refine ex_getRx ok_X12_arrive (mi 72 rfl) rfl rfl (fk (MI_s J24) 0 rfl) (fr (MI_s J24) 48 rfl) (fk (MI_s J24) 49 rfl) (by decide) ?_
    refine ex_iload_n ok_X12_arrive (mi 73 rfl) rfl ?_
    refine ex_iconst ok_X12_arrive (mi 74 rfl) ?_
    refine mf_off J24 ok_X12_arrive (mi 75 rfl) (fk (MI_s J24) 49 rfl) (fn (MI_s J24) 49 rfl) rfl ht (fun g26 J27 K28 => ?_)
    refine ex_iload_n ok_X12_arrive (mi 76 rfl) rfl ?_
    refine ex_iret ok_X12_arrive (mi 77 rfl) rfl ?_
    exact ⟨_, rfl, ⟨_, rfl⟩, J27⟩
  · skip
    refine ex_aload_n ok_X12_arrive (mi 25 rfl) rfl ?_
    refine ex_dup ok_X12_arrive (mi 26 rfl) rfl ?_
    refine ex_getI ok_X12_arrive (mi 27 rfl) rfl rfl (fk (MI_s I) 0 rfl) ?_
    refine ex_gen (fun w29 => ?_)
    refine ex_iconst ok_X12_arrive (mi 28 rfl) ?_
    refine ex_iadd ok_X12_arrive (mi 29 rfl) ?_
    refine ex_gen (fun w30 => ?_)
    refine mf_putI I ok_X12_arrive (mi 30 rfl) rfl rfl (fk (MI_s I) 0 rfl) (by decide) (by decide) (fun g31 J32 K33 => ?_)
    have mk34 := KK_mk K33 mk
    refine ex_iload_n ok_X12_arrive (mi 31 rfl) rfl ?_
    refine ex_iret ok_X12_arrive (mi 32 rfl) rfl ?_
    exact ⟨_, rfl, ⟨_, rfl⟩, J32⟩
theorem arrive_18 {G : GE} (hst : (ge_l G).stackTraces = false) {y t m : Nat} {D : UT} {R : Nat → Prop} {g : GT} (I : MI y D 402 R g) (ht : t < 402) (mk : MK y g t 18 m) : ex_W G 7 0 0 M_X12_arrive 13 [(0, .ref y), (2, .int (nI t)), (3, .int (nI 18))] [] g (SM y D 402 R pI) := by
  refine ex_iload_n ok_X12_arrive (mi 9 rfl) rfl ?_
  refine sf_Sp (As := [_]) ok_X12_arrive (mi 10 rfl) rfl (x_sort18 hst) rfl rfl rfl (by decide) (Nat.le_of_ble_eq_true rfl) (by decide) (fun z1 p2 => ?_)
  subst p2
  refine ex_istore ok_X12_arrive (mi 11 rfl) ?_
  refine ex_aload_n ok_X12_arrive (mi 12 rfl) rfl ?_
  refine ex_getRx ok_X12_arrive (mi 13 rfl) rfl rfl (fk (MI_s I) 0 rfl) (fr (MI_s I) 51 rfl) (fk (MI_s I) 52 rfl) (by decide) ?_
  refine ex_iload_n ok_X12_arrive (mi 14 rfl) rfl ?_
  refine sm_iald ok_X12_arrive (mi 15 rfl) (fk (MI_s I) 52 rfl) (fn (MI_s I) 52 rfl) rfl (by omega) (by decide) ?_
  obtain ⟨v5, hv5, ev5⟩ := vp_in_of (n := 9) (vb_in mk.2.1 (by decide)) (by decide)
  refine ex_top (w := nI v5) ev5 ?_
  refine ex_istore ok_X12_arrive (mi 16 rfl) ?_
  refine ex_aload_n ok_X12_arrive (mi 17 rfl) rfl ?_
  refine ex_getRx ok_X12_arrive (mi 18 rfl) rfl rfl (fk (MI_s I) 0 rfl) (fr (MI_s I) 0 rfl) (fk (MI_s I) 1 rfl) (by decide) ?_
  refine ex_iload ok_X12_arrive (mi 19 rfl) rfl ?_
  refine sf_Sp (As := [_]) ok_X12_arrive (mi 20 rfl) rfl (x_first1 hst) rfl rfl rfl (by decide) (Nat.le_of_ble_eq_true rfl) (by decide) (fun z6 p7 => ?_)
  subst p7
  refine ex_iload ok_X12_arrive (mi 21 rfl) rfl ?_
  refine ex_iadd ok_X12_arrive (mi 22 rfl) ?_
  refine ex_top (w := (nI (3 + v5))) (nI_add 3 _) ?_
  refine sm_bal ok_X12_arrive (mi 23 rfl) (fk (MI_s I) 1 rfl) (fn (MI_s I) 1 rfl) rfl (by omega) (by decide) ?_
  refine ex_gen (fun w10 => ?_)
  refine ex_if_eq (tgt := 55) ok_X12_arrive (mi 24 rfl) rfl (fun h40 => ?_) (fun h40 => ?_)
  · skip
    refine ex_aload_n ok_X12_arrive (mi 33 rfl) rfl ?_
    refine ex_dup ok_X12_arrive (mi 34 rfl) rfl ?_
    refine ex_getI ok_X12_arrive (mi 35 rfl) rfl rfl (fk (MI_s I) 0 rfl) ?_
    refine ex_gen (fun w11 => ?_)
    refine ex_iconst ok_X12_arrive (mi 36 rfl) ?_
    refine ex_iadd ok_X12_arrive (mi 37 rfl) ?_
    refine ex_gen (fun w12 => ?_)
    refine mf_putI I ok_X12_arrive (mi 38 rfl) rfl rfl (fk (MI_s I) 0 rfl) (by decide) (by decide) (fun g13 J14 K15 => ?_)
    have mk16 := KK_mk K15 mk
    refine ex_aload_n ok_X12_arrive (mi 39 rfl) rfl ?_
    refine ex_getRx ok_X12_arrive (mi 40 rfl) rfl rfl (fk (MI_s J14) 0 rfl) (fr (MI_s J14) 48 rfl) (fk (MI_s J14) 49 rfl) (by decide) ?_
    refine ex_iload_n ok_X12_arrive (mi 41 rfl) rfl ?_
    refine ex_iconst ok_X12_arrive (mi 42 rfl) ?_
    refine mf_on J14 ok_X12_arrive (mi 43 rfl) (fk (MI_s J14) 49 rfl) (fn (MI_s J14) 49 rfl) rfl ht (fun g17 J18 K19 => ?_)
    have mk20 := KK_mk K19 mk16
    refine ex_iload ok_X12_arrive (mi 44 rfl) rfl ?_
    refine ex_if_ne (tgt := 87) ok_X12_arrive (mi 45 rfl) rfl (fun _ => ?_) (fun hn => absurd hn (by decide))
    refine ex_iload ok_X12_arrive (mi 51 rfl) rfl ?_
    refine ex_iconst ok_X12_arrive (mi 52 rfl) ?_
    refine ex_icmp_ne (tgt := 103) ok_X12_arrive (mi 53 rfl) rfl (fun hn => absurd (by decide) hn) (fun _ => ?_)
    refine ex_aload_n ok_X12_arrive (mi 54 rfl) rfl ?_
    refine ex_iload ok_X12_arrive (mi 55 rfl) rfl ?_
    refine ex_iload_n ok_X12_arrive (mi 56 rfl) rfl ?_
    refine sm_V (As := [_, _]) ok_X12_arrive (mi 57 rfl) rfl (s_X12_toKeeper_18 hst J18 (by omega) ht mk20) rfl (fk (MI_s J18) 0 rfl) rfl rfl (by decide) (by decide) (Nat.le_of_ble_eq_true rfl) (by decide) SM_no (fun z21 g23 p22 => ?_)
    obtain ⟨u25, eu25, u25p, J24⟩ := p22
    cases eu25
    obtain rfl : z21 = none := u25p
    refine ex_goto (tgt := 126) ok_X12_arrive (mi 58 rfl) rfl ?_
    refine ex_aload_n ok_X12_arrive (mi 71 rfl) rfl ?_
    refine ex_getRx ok_X12_arrive (mi 72 rfl) rfl rfl (fk (MI_s J24) 0 rfl) (fr (MI_s J24) 48 rfl) (fk (MI_s J24) 49 rfl) (by decide) ?_
    refine ex_iload_n ok_X12_arrive (mi 73 rfl) rfl ?_
    refine ex_iconst ok_X12_arrive (mi 74 rfl) ?_
    refine mf_off J24 ok_X12_arrive (mi 75 rfl) (fk (MI_s J24) 49 rfl) (fn (MI_s J24) 49 rfl) rfl ht (fun g26 J27 K28 => ?_)
    refine ex_iload_n ok_X12_arrive (mi 76 rfl) rfl ?_
    refine ex_iret ok_X12_arrive (mi 77 rfl) rfl ?_
    exact ⟨_, rfl, ⟨_, rfl⟩, J27⟩
  · skip
    refine ex_aload_n ok_X12_arrive (mi 25 rfl) rfl ?_
    refine ex_dup ok_X12_arrive (mi 26 rfl) rfl ?_
    refine ex_getI ok_X12_arrive (mi 27 rfl) rfl rfl (fk (MI_s I) 0 rfl) ?_
    refine ex_gen (fun w29 => ?_)
    refine ex_iconst ok_X12_arrive (mi 28 rfl) ?_
    refine ex_iadd ok_X12_arrive (mi 29 rfl) ?_
    refine ex_gen (fun w30 => ?_)
    refine mf_putI I ok_X12_arrive (mi 30 rfl) rfl rfl (fk (MI_s I) 0 rfl) (by decide) (by decide) (fun g31 J32 K33 => ?_)
    have mk34 := KK_mk K33 mk
    refine ex_iload_n ok_X12_arrive (mi 31 rfl) rfl ?_
    refine ex_iret ok_X12_arrive (mi 32 rfl) rfl ?_
    exact ⟨_, rfl, ⟨_, rfl⟩, J32⟩
theorem arrive_19 {G : GE} (hst : (ge_l G).stackTraces = false) {y t m : Nat} {D : UT} {R : Nat → Prop} {g : GT} (I : MI y D 402 R g) (ht : t < 402) (mk : MK y g t 19 m) : ex_W G 7 0 0 M_X12_arrive 13 [(0, .ref y), (2, .int (nI t)), (3, .int (nI 19))] [] g (SM y D 402 R pI) := by
  refine ex_iload_n ok_X12_arrive (mi 9 rfl) rfl ?_
  refine sf_Sp (As := [_]) ok_X12_arrive (mi 10 rfl) rfl (x_sort19 hst) rfl rfl rfl (by decide) (Nat.le_of_ble_eq_true rfl) (by decide) (fun z1 p2 => ?_)
  subst p2
  refine ex_istore ok_X12_arrive (mi 11 rfl) ?_
  refine ex_aload_n ok_X12_arrive (mi 12 rfl) rfl ?_
  refine ex_getRx ok_X12_arrive (mi 13 rfl) rfl rfl (fk (MI_s I) 0 rfl) (fr (MI_s I) 51 rfl) (fk (MI_s I) 52 rfl) (by decide) ?_
  refine ex_iload_n ok_X12_arrive (mi 14 rfl) rfl ?_
  refine sm_iald ok_X12_arrive (mi 15 rfl) (fk (MI_s I) 52 rfl) (fn (MI_s I) 52 rfl) rfl (by omega) (by decide) ?_
  obtain ⟨v5, hv5, ev5⟩ := vp_in_of (n := 3) (vb_in mk.2.1 (by decide)) (by decide)
  refine ex_top (w := nI v5) ev5 ?_
  refine ex_istore ok_X12_arrive (mi 16 rfl) ?_
  refine ex_aload_n ok_X12_arrive (mi 17 rfl) rfl ?_
  refine ex_getRx ok_X12_arrive (mi 18 rfl) rfl rfl (fk (MI_s I) 0 rfl) (fr (MI_s I) 0 rfl) (fk (MI_s I) 1 rfl) (by decide) ?_
  refine ex_iload ok_X12_arrive (mi 19 rfl) rfl ?_
  refine sf_Sp (As := [_]) ok_X12_arrive (mi 20 rfl) rfl (x_first0 hst) rfl rfl rfl (by decide) (Nat.le_of_ble_eq_true rfl) (by decide) (fun z6 p7 => ?_)
  subst p7
  refine ex_iload ok_X12_arrive (mi 21 rfl) rfl ?_
  refine ex_iadd ok_X12_arrive (mi 22 rfl) ?_
  refine ex_top (w := (nI (0 + v5))) (nI_add 0 _) ?_
  refine sm_bal ok_X12_arrive (mi 23 rfl) (fk (MI_s I) 1 rfl) (fn (MI_s I) 1 rfl) rfl (by omega) (by decide) ?_
  refine ex_gen (fun w10 => ?_)
  refine ex_if_eq (tgt := 55) ok_X12_arrive (mi 24 rfl) rfl (fun h40 => ?_) (fun h40 => ?_)
  · skip
    refine ex_aload_n ok_X12_arrive (mi 33 rfl) rfl ?_
    refine ex_dup ok_X12_arrive (mi 34 rfl) rfl ?_
    refine ex_getI ok_X12_arrive (mi 35 rfl) rfl rfl (fk (MI_s I) 0 rfl) ?_
    refine ex_gen (fun w11 => ?_)
    refine ex_iconst ok_X12_arrive (mi 36 rfl) ?_
    refine ex_iadd ok_X12_arrive (mi 37 rfl) ?_
    refine ex_gen (fun w12 => ?_)
    refine mf_putI I ok_X12_arrive (mi 38 rfl) rfl rfl (fk (MI_s I) 0 rfl) (by decide) (by decide) (fun g13 J14 K15 => ?_)
    have mk16 := KK_mk K15 mk
    refine ex_aload_n ok_X12_arrive (mi 39 rfl) rfl ?_
    refine ex_getRx ok_X12_arrive (mi 40 rfl) rfl rfl (fk (MI_s J14) 0 rfl) (fr (MI_s J14) 48 rfl) (fk (MI_s J14) 49 rfl) (by decide) ?_
    refine ex_iload_n ok_X12_arrive (mi 41 rfl) rfl ?_
    refine ex_iconst ok_X12_arrive (mi 42 rfl) ?_
    refine mf_on J14 ok_X12_arrive (mi 43 rfl) (fk (MI_s J14) 49 rfl) (fn (MI_s J14) 49 rfl) rfl ht (fun g17 J18 K19 => ?_)
    have mk20 := KK_mk K19 mk16
    refine ex_iload ok_X12_arrive (mi 44 rfl) rfl ?_
    refine ex_if_ne (tgt := 87) ok_X12_arrive (mi 45 rfl) rfl (fun hn => absurd (by decide) hn) (fun _ => ?_)
    refine ex_aload_n ok_X12_arrive (mi 46 rfl) rfl ?_
    refine ex_iload ok_X12_arrive (mi 47 rfl) rfl ?_
    refine ex_iload_n ok_X12_arrive (mi 48 rfl) rfl ?_
    refine sm_V (As := [_, _]) ok_X12_arrive (mi 49 rfl) rfl (s_X12_toLeader_19 hst J18 (by omega) ht mk20) rfl (fk (MI_s J18) 0 rfl) rfl rfl (by decide) (by decide) (Nat.le_of_ble_eq_true rfl) (by decide) SM_no (fun z21 g23 p22 => ?_)
    obtain ⟨u25, eu25, u25p, J24⟩ := p22
    cases eu25
    obtain rfl : z21 = none := u25p
    refine ex_goto (tgt := 126) ok_X12_arrive (mi 50 rfl) rfl ?_
    refine ex_aload_n ok_X12_arrive (mi 71 rfl) rfl ?_
    refine ex_getRx ok_X12_arrive (mi 72 rfl) rfl rfl (fk (MI_s J24) 0 rfl) (fr (MI_s J24) 48 rfl) (fk (MI_s J24) 49 rfl) (by decide) ?_
    refine ex_iload_n ok_X12_arrive (mi 73 rfl) rfl ?_
    refine ex_iconst ok_X12_arrive (mi 74 rfl) ?_
    refine mf_off J24 ok_X12_arrive (mi 75 rfl) (fk (MI_s J24) 49 rfl) (fn (MI_s J24) 49 rfl) rfl ht (fun g26 J27 K28 => ?_)
    refine ex_iload_n ok_X12_arrive (mi 76 rfl) rfl ?_
    refine ex_iret ok_X12_arrive (mi 77 rfl) rfl ?_
    exact ⟨_, rfl, ⟨_, rfl⟩, J27⟩
  · skip
    refine ex_aload_n ok_X12_arrive (mi 25 rfl) rfl ?_
    refine ex_dup ok_X12_arrive (mi 26 rfl) rfl ?_
    refine ex_getI ok_X12_arrive (mi 27 rfl) rfl rfl (fk (MI_s I) 0 rfl) ?_
    refine ex_gen (fun w29 => ?_)
    refine ex_iconst ok_X12_arrive (mi 28 rfl) ?_
    refine ex_iadd ok_X12_arrive (mi 29 rfl) ?_
    refine ex_gen (fun w30 => ?_)
    refine mf_putI I ok_X12_arrive (mi 30 rfl) rfl rfl (fk (MI_s I) 0 rfl) (by decide) (by decide) (fun g31 J32 K33 => ?_)
    have mk34 := KK_mk K33 mk
    refine ex_iload_n ok_X12_arrive (mi 31 rfl) rfl ?_
    refine ex_iret ok_X12_arrive (mi 32 rfl) rfl ?_
    exact ⟨_, rfl, ⟨_, rfl⟩, J32⟩
theorem arrive_20 {G : GE} (hst : (ge_l G).stackTraces = false) {y t m : Nat} {D : UT} {R : Nat → Prop} {g : GT} (I : MI y D 402 R g) (ht : t < 402) (mk : MK y g t 20 m) : ex_W G 7 0 0 M_X12_arrive 13 [(0, .ref y), (2, .int (nI t)), (3, .int (nI 20))] [] g (SM y D 402 R pI) := by
  refine ex_iload_n ok_X12_arrive (mi 9 rfl) rfl ?_
  refine sf_Sp (As := [_]) ok_X12_arrive (mi 10 rfl) rfl (x_sort20 hst) rfl rfl rfl (by decide) (Nat.le_of_ble_eq_true rfl) (by decide) (fun z1 p2 => ?_)
  subst p2
  refine ex_istore ok_X12_arrive (mi 11 rfl) ?_
  refine ex_aload_n ok_X12_arrive (mi 12 rfl) rfl ?_
  refine ex_getRx ok_X12_arrive (mi 13 rfl) rfl rfl (fk (MI_s I) 0 rfl) (fr (MI_s I) 51 rfl) (fk (MI_s I) 52 rfl) (by decide) ?_
  refine ex_iload_n ok_X12_arrive (mi 14 rfl) rfl ?_
  refine sm_iald ok_X12_arrive (mi 15 rfl) (fk (MI_s I) 52 rfl) (fn (MI_s I) 52 rfl) rfl (by omega) (by decide) ?_
  obtain ⟨v5, hv5, ev5⟩ := vp_in_of (n := 9) (vb_in mk.2.1 (by decide)) (by decide)
  refine ex_top (w := nI v5) ev5 ?_
  refine ex_istore ok_X12_arrive (mi 16 rfl) ?_
  refine ex_aload_n ok_X12_arrive (mi 17 rfl) rfl ?_
  refine ex_getRx ok_X12_arrive (mi 18 rfl) rfl rfl (fk (MI_s I) 0 rfl) (fr (MI_s I) 0 rfl) (fk (MI_s I) 1 rfl) (by decide) ?_
  refine ex_iload ok_X12_arrive (mi 19 rfl) rfl ?_
  refine sf_Sp (As := [_]) ok_X12_arrive (mi 20 rfl) rfl (x_first1 hst) rfl rfl rfl (by decide) (Nat.le_of_ble_eq_true rfl) (by decide) (fun z6 p7 => ?_)
  subst p7
  refine ex_iload ok_X12_arrive (mi 21 rfl) rfl ?_
  refine ex_iadd ok_X12_arrive (mi 22 rfl) ?_
  refine ex_top (w := (nI (3 + v5))) (nI_add 3 _) ?_
  refine sm_bal ok_X12_arrive (mi 23 rfl) (fk (MI_s I) 1 rfl) (fn (MI_s I) 1 rfl) rfl (by omega) (by decide) ?_
  refine ex_gen (fun w10 => ?_)
  refine ex_if_eq (tgt := 55) ok_X12_arrive (mi 24 rfl) rfl (fun h40 => ?_) (fun h40 => ?_)
  · skip
    refine ex_aload_n ok_X12_arrive (mi 33 rfl) rfl ?_
    refine ex_dup ok_X12_arrive (mi 34 rfl) rfl ?_
    refine ex_getI ok_X12_arrive (mi 35 rfl) rfl rfl (fk (MI_s I) 0 rfl) ?_
    refine ex_gen (fun w11 => ?_)
    refine ex_iconst ok_X12_arrive (mi 36 rfl) ?_
    refine ex_iadd ok_X12_arrive (mi 37 rfl) ?_
    refine ex_gen (fun w12 => ?_)
    refine mf_putI I ok_X12_arrive (mi 38 rfl) rfl rfl (fk (MI_s I) 0 rfl) (by decide) (by decide) (fun g13 J14 K15 => ?_)
    have mk16 := KK_mk K15 mk
    refine ex_aload_n ok_X12_arrive (mi 39 rfl) rfl ?_
    refine ex_getRx ok_X12_arrive (mi 40 rfl) rfl rfl (fk (MI_s J14) 0 rfl) (fr (MI_s J14) 48 rfl) (fk (MI_s J14) 49 rfl) (by decide) ?_
    refine ex_iload_n ok_X12_arrive (mi 41 rfl) rfl ?_
    refine ex_iconst ok_X12_arrive (mi 42 rfl) ?_
    refine mf_on J14 ok_X12_arrive (mi 43 rfl) (fk (MI_s J14) 49 rfl) (fn (MI_s J14) 49 rfl) rfl ht (fun g17 J18 K19 => ?_)
    have mk20 := KK_mk K19 mk16
    refine ex_iload ok_X12_arrive (mi 44 rfl) rfl ?_
    refine ex_if_ne (tgt := 87) ok_X12_arrive (mi 45 rfl) rfl (fun _ => ?_) (fun hn => absurd hn (by decide))
    refine ex_iload ok_X12_arrive (mi 51 rfl) rfl ?_
    refine ex_iconst ok_X12_arrive (mi 52 rfl) ?_
    refine ex_icmp_ne (tgt := 103) ok_X12_arrive (mi 53 rfl) rfl (fun hn => absurd (by decide) hn) (fun _ => ?_)
    refine ex_aload_n ok_X12_arrive (mi 54 rfl) rfl ?_
    refine ex_iload ok_X12_arrive (mi 55 rfl) rfl ?_
    refine ex_iload_n ok_X12_arrive (mi 56 rfl) rfl ?_
    refine sm_V (As := [_, _]) ok_X12_arrive (mi 57 rfl) rfl (s_X12_toKeeper_20 hst J18 (by omega) ht mk20) rfl (fk (MI_s J18) 0 rfl) rfl rfl (by decide) (by decide) (Nat.le_of_ble_eq_true rfl) (by decide) SM_no (fun z21 g23 p22 => ?_)
    obtain ⟨u25, eu25, u25p, J24⟩ := p22
    cases eu25
    obtain rfl : z21 = none := u25p
    refine ex_goto (tgt := 126) ok_X12_arrive (mi 58 rfl) rfl ?_
    refine ex_aload_n ok_X12_arrive (mi 71 rfl) rfl ?_
    refine ex_getRx ok_X12_arrive (mi 72 rfl) rfl rfl (fk (MI_s J24) 0 rfl) (fr (MI_s J24) 48 rfl) (fk (MI_s J24) 49 rfl) (by decide) ?_
    refine ex_iload_n ok_X12_arrive (mi 73 rfl) rfl ?_
    refine ex_iconst ok_X12_arrive (mi 74 rfl) ?_
    refine mf_off J24 ok_X12_arrive (mi 75 rfl) (fk (MI_s J24) 49 rfl) (fn (MI_s J24) 49 rfl) rfl ht (fun g26 J27 K28 => ?_)
    refine ex_iload_n ok_X12_arrive (mi 76 rfl) rfl ?_
    refine ex_iret ok_X12_arrive (mi 77 rfl) rfl ?_
    exact ⟨_, rfl, ⟨_, rfl⟩, J27⟩
  · skip
    refine ex_aload_n ok_X12_arrive (mi 25 rfl) rfl ?_
    refine ex_dup ok_X12_arrive (mi 26 rfl) rfl ?_
    refine ex_getI ok_X12_arrive (mi 27 rfl) rfl rfl (fk (MI_s I) 0 rfl) ?_
    refine ex_gen (fun w29 => ?_)
    refine ex_iconst ok_X12_arrive (mi 28 rfl) ?_
    refine ex_iadd ok_X12_arrive (mi 29 rfl) ?_
    refine ex_gen (fun w30 => ?_)
    refine mf_putI I ok_X12_arrive (mi 30 rfl) rfl rfl (fk (MI_s I) 0 rfl) (by decide) (by decide) (fun g31 J32 K33 => ?_)
    have mk34 := KK_mk K33 mk
    refine ex_iload_n ok_X12_arrive (mi 31 rfl) rfl ?_
    refine ex_iret ok_X12_arrive (mi 32 rfl) rfl ?_
    exact ⟨_, rfl, ⟨_, rfl⟩, J32⟩
theorem arrive_21 {G : GE} (hst : (ge_l G).stackTraces = false) {y t m : Nat} {D : UT} {R : Nat → Prop} {g : GT} (I : MI y D 402 R g) (ht : t < 402) (mk : MK y g t 21 m) : ex_W G 7 0 0 M_X12_arrive 13 [(0, .ref y), (2, .int (nI t)), (3, .int (nI 21))] [] g (SM y D 402 R pI) := by
  refine ex_iload_n ok_X12_arrive (mi 9 rfl) rfl ?_
  refine sf_Sp (As := [_]) ok_X12_arrive (mi 10 rfl) rfl (x_sort21 hst) rfl rfl rfl (by decide) (Nat.le_of_ble_eq_true rfl) (by decide) (fun z1 p2 => ?_)
  subst p2
  refine ex_istore ok_X12_arrive (mi 11 rfl) ?_
  refine ex_aload_n ok_X12_arrive (mi 12 rfl) rfl ?_
  refine ex_getRx ok_X12_arrive (mi 13 rfl) rfl rfl (fk (MI_s I) 0 rfl) (fr (MI_s I) 51 rfl) (fk (MI_s I) 52 rfl) (by decide) ?_
  refine ex_iload_n ok_X12_arrive (mi 14 rfl) rfl ?_
  refine sm_iald ok_X12_arrive (mi 15 rfl) (fk (MI_s I) 52 rfl) (fn (MI_s I) 52 rfl) rfl (by omega) (by decide) ?_
  obtain ⟨v5, hv5, ev5⟩ := vp_in_of (n := 3) (vb_in mk.2.1 (by decide)) (by decide)
  refine ex_top (w := nI v5) ev5 ?_
  refine ex_istore ok_X12_arrive (mi 16 rfl) ?_
  refine ex_aload_n ok_X12_arrive (mi 17 rfl) rfl ?_
  refine ex_getRx ok_X12_arrive (mi 18 rfl) rfl rfl (fk (MI_s I) 0 rfl) (fr (MI_s I) 0 rfl) (fk (MI_s I) 1 rfl) (by decide) ?_
  refine ex_iload ok_X12_arrive (mi 19 rfl) rfl ?_
  refine sf_Sp (As := [_]) ok_X12_arrive (mi 20 rfl) rfl (x_first0 hst) rfl rfl rfl (by decide) (Nat.le_of_ble_eq_true rfl) (by decide) (fun z6 p7 => ?_)
  subst p7
  refine ex_iload ok_X12_arrive (mi 21 rfl) rfl ?_
  refine ex_iadd ok_X12_arrive (mi 22 rfl) ?_
  refine ex_top (w := (nI (0 + v5))) (nI_add 0 _) ?_
  refine sm_bal ok_X12_arrive (mi 23 rfl) (fk (MI_s I) 1 rfl) (fn (MI_s I) 1 rfl) rfl (by omega) (by decide) ?_
  refine ex_gen (fun w10 => ?_)
  refine ex_if_eq (tgt := 55) ok_X12_arrive (mi 24 rfl) rfl (fun h40 => ?_) (fun h40 => ?_)
  · skip
    refine ex_aload_n ok_X12_arrive (mi 33 rfl) rfl ?_
    refine ex_dup ok_X12_arrive (mi 34 rfl) rfl ?_
    refine ex_getI ok_X12_arrive (mi 35 rfl) rfl rfl (fk (MI_s I) 0 rfl) ?_
    refine ex_gen (fun w11 => ?_)
    refine ex_iconst ok_X12_arrive (mi 36 rfl) ?_
    refine ex_iadd ok_X12_arrive (mi 37 rfl) ?_
    refine ex_gen (fun w12 => ?_)
    refine mf_putI I ok_X12_arrive (mi 38 rfl) rfl rfl (fk (MI_s I) 0 rfl) (by decide) (by decide) (fun g13 J14 K15 => ?_)
    have mk16 := KK_mk K15 mk
    refine ex_aload_n ok_X12_arrive (mi 39 rfl) rfl ?_
    refine ex_getRx ok_X12_arrive (mi 40 rfl) rfl rfl (fk (MI_s J14) 0 rfl) (fr (MI_s J14) 48 rfl) (fk (MI_s J14) 49 rfl) (by decide) ?_
    refine ex_iload_n ok_X12_arrive (mi 41 rfl) rfl ?_
    refine ex_iconst ok_X12_arrive (mi 42 rfl) ?_
    refine mf_on J14 ok_X12_arrive (mi 43 rfl) (fk (MI_s J14) 49 rfl) (fn (MI_s J14) 49 rfl) rfl ht (fun g17 J18 K19 => ?_)
    have mk20 := KK_mk K19 mk16
    refine ex_iload ok_X12_arrive (mi 44 rfl) rfl ?_
    refine ex_if_ne (tgt := 87) ok_X12_arrive (mi 45 rfl) rfl (fun hn => absurd (by decide) hn) (fun _ => ?_)
    refine ex_aload_n ok_X12_arrive (mi 46 rfl) rfl ?_
    refine ex_iload ok_X12_arrive (mi 47 rfl) rfl ?_
    refine ex_iload_n ok_X12_arrive (mi 48 rfl) rfl ?_
    refine sm_V (As := [_, _]) ok_X12_arrive (mi 49 rfl) rfl (s_X12_toLeader_21 hst J18 (by omega) ht mk20) rfl (fk (MI_s J18) 0 rfl) rfl rfl (by decide) (by decide) (Nat.le_of_ble_eq_true rfl) (by decide) SM_no (fun z21 g23 p22 => ?_)
    obtain ⟨u25, eu25, u25p, J24⟩ := p22
    cases eu25
    obtain rfl : z21 = none := u25p
    refine ex_goto (tgt := 126) ok_X12_arrive (mi 50 rfl) rfl ?_
    refine ex_aload_n ok_X12_arrive (mi 71 rfl) rfl ?_
    refine ex_getRx ok_X12_arrive (mi 72 rfl) rfl rfl (fk (MI_s J24) 0 rfl) (fr (MI_s J24) 48 rfl) (fk (MI_s J24) 49 rfl) (by decide) ?_
    refine ex_iload_n ok_X12_arrive (mi 73 rfl) rfl ?_
    refine ex_iconst ok_X12_arrive (mi 74 rfl) ?_
    refine mf_off J24 ok_X12_arrive (mi 75 rfl) (fk (MI_s J24) 49 rfl) (fn (MI_s J24) 49 rfl) rfl ht (fun g26 J27 K28 => ?_)
    refine ex_iload_n ok_X12_arrive (mi 76 rfl) rfl ?_
    refine ex_iret ok_X12_arrive (mi 77 rfl) rfl ?_
    exact ⟨_, rfl, ⟨_, rfl⟩, J27⟩
  · skip
    refine ex_aload_n ok_X12_arrive (mi 25 rfl) rfl ?_
    refine ex_dup ok_X12_arrive (mi 26 rfl) rfl ?_
    refine ex_getI ok_X12_arrive (mi 27 rfl) rfl rfl (fk (MI_s I) 0 rfl) ?_
    refine ex_gen (fun w29 => ?_)
    refine ex_iconst ok_X12_arrive (mi 28 rfl) ?_
    refine ex_iadd ok_X12_arrive (mi 29 rfl) ?_
    refine ex_gen (fun w30 => ?_)
    refine mf_putI I ok_X12_arrive (mi 30 rfl) rfl rfl (fk (MI_s I) 0 rfl) (by decide) (by decide) (fun g31 J32 K33 => ?_)
    have mk34 := KK_mk K33 mk
    refine ex_iload_n ok_X12_arrive (mi 31 rfl) rfl ?_
    refine ex_iret ok_X12_arrive (mi 32 rfl) rfl ?_
    exact ⟨_, rfl, ⟨_, rfl⟩, J32⟩
theorem arrive_22 {G : GE} (hst : (ge_l G).stackTraces = false) {y t m : Nat} {D : UT} {R : Nat → Prop} {g : GT} (I : MI y D 402 R g) (ht : t < 402) (mk : MK y g t 22 m) : ex_W G 7 0 0 M_X12_arrive 13 [(0, .ref y), (2, .int (nI t)), (3, .int (nI 22))] [] g (SM y D 402 R pI) := by
  refine ex_iload_n ok_X12_arrive (mi 9 rfl) rfl ?_
  refine sf_Sp (As := [_]) ok_X12_arrive (mi 10 rfl) rfl (x_sort22 hst) rfl rfl rfl (by decide) (Nat.le_of_ble_eq_true rfl) (by decide) (fun z1 p2 => ?_)
  subst p2
  refine ex_istore ok_X12_arrive (mi 11 rfl) ?_
  refine ex_aload_n ok_X12_arrive (mi 12 rfl) rfl ?_
  refine ex_getRx ok_X12_arrive (mi 13 rfl) rfl rfl (fk (MI_s I) 0 rfl) (fr (MI_s I) 51 rfl) (fk (MI_s I) 52 rfl) (by decide) ?_
  refine ex_iload_n ok_X12_arrive (mi 14 rfl) rfl ?_
  refine sm_iald ok_X12_arrive (mi 15 rfl) (fk (MI_s I) 52 rfl) (fn (MI_s I) 52 rfl) rfl (by omega) (by decide) ?_
  obtain ⟨v5, hv5, ev5⟩ := vp_in_of (n := 9) (vb_in mk.2.1 (by decide)) (by decide)
  refine ex_top (w := nI v5) ev5 ?_
  refine ex_istore ok_X12_arrive (mi 16 rfl) ?_
  refine ex_aload_n ok_X12_arrive (mi 17 rfl) rfl ?_
  refine ex_getRx ok_X12_arrive (mi 18 rfl) rfl rfl (fk (MI_s I) 0 rfl) (fr (MI_s I) 0 rfl) (fk (MI_s I) 1 rfl) (by decide) ?_
  refine ex_iload ok_X12_arrive (mi 19 rfl) rfl ?_
  refine sf_Sp (As := [_]) ok_X12_arrive (mi 20 rfl) rfl (x_first1 hst) rfl rfl rfl (by decide) (Nat.le_of_ble_eq_true rfl) (by decide) (fun z6 p7 => ?_)
  subst p7
  refine ex_iload ok_X12_arrive (mi 21 rfl) rfl ?_
  refine ex_iadd ok_X12_arrive (mi 22 rfl) ?_
  refine ex_top (w := (nI (3 + v5))) (nI_add 3 _) ?_
  refine sm_bal ok_X12_arrive (mi 23 rfl) (fk (MI_s I) 1 rfl) (fn (MI_s I) 1 rfl) rfl (by omega) (by decide) ?_
  refine ex_gen (fun w10 => ?_)
  refine ex_if_eq (tgt := 55) ok_X12_arrive (mi 24 rfl) rfl (fun h40 => ?_) (fun h40 => ?_)
  · skip
    refine ex_aload_n ok_X12_arrive (mi 33 rfl) rfl ?_
    refine ex_dup ok_X12_arrive (mi 34 rfl) rfl ?_
    refine ex_getI ok_X12_arrive (mi 35 rfl) rfl rfl (fk (MI_s I) 0 rfl) ?_
    refine ex_gen (fun w11 => ?_)
    refine ex_iconst ok_X12_arrive (mi 36 rfl) ?_
    refine ex_iadd ok_X12_arrive (mi 37 rfl) ?_
    refine ex_gen (fun w12 => ?_)
    refine mf_putI I ok_X12_arrive (mi 38 rfl) rfl rfl (fk (MI_s I) 0 rfl) (by decide) (by decide) (fun g13 J14 K15 => ?_)
    have mk16 := KK_mk K15 mk
    refine ex_aload_n ok_X12_arrive (mi 39 rfl) rfl ?_
    refine ex_getRx ok_X12_arrive (mi 40 rfl) rfl rfl (fk (MI_s J14) 0 rfl) (fr (MI_s J14) 48 rfl) (fk (MI_s J14) 49 rfl) (by decide) ?_
    refine ex_iload_n ok_X12_arrive (mi 41 rfl) rfl ?_
    refine ex_iconst ok_X12_arrive (mi 42 rfl) ?_
    refine mf_on J14 ok_X12_arrive (mi 43 rfl) (fk (MI_s J14) 49 rfl) (fn (MI_s J14) 49 rfl) rfl ht (fun g17 J18 K19 => ?_)
    have mk20 := KK_mk K19 mk16
    refine ex_iload ok_X12_arrive (mi 44 rfl) rfl ?_
    refine ex_if_ne (tgt := 87) ok_X12_arrive (mi 45 rfl) rfl (fun _ => ?_) (fun hn => absurd hn (by decide))
    refine ex_iload ok_X12_arrive (mi 51 rfl) rfl ?_
    refine ex_iconst ok_X12_arrive (mi 52 rfl) ?_
    refine ex_icmp_ne (tgt := 103) ok_X12_arrive (mi 53 rfl) rfl (fun hn => absurd (by decide) hn) (fun _ => ?_)
    refine ex_aload_n ok_X12_arrive (mi 54 rfl) rfl ?_
    refine ex_iload ok_X12_arrive (mi 55 rfl) rfl ?_
    refine ex_iload_n ok_X12_arrive (mi 56 rfl) rfl ?_
    refine sm_V (As := [_, _]) ok_X12_arrive (mi 57 rfl) rfl (s_X12_toKeeper_22 hst J18 (by omega) ht mk20) rfl (fk (MI_s J18) 0 rfl) rfl rfl (by decide) (by decide) (Nat.le_of_ble_eq_true rfl) (by decide) SM_no (fun z21 g23 p22 => ?_)
    obtain ⟨u25, eu25, u25p, J24⟩ := p22
    cases eu25
    obtain rfl : z21 = none := u25p
    refine ex_goto (tgt := 126) ok_X12_arrive (mi 58 rfl) rfl ?_
    refine ex_aload_n ok_X12_arrive (mi 71 rfl) rfl ?_
    refine ex_getRx ok_X12_arrive (mi 72 rfl) rfl rfl (fk (MI_s J24) 0 rfl) (fr (MI_s J24) 48 rfl) (fk (MI_s J24) 49 rfl) (by decide) ?_
    refine ex_iload_n ok_X12_arrive (mi 73 rfl) rfl ?_
    refine ex_iconst ok_X12_arrive (mi 74 rfl) ?_
    refine mf_off J24 ok_X12_arrive (mi 75 rfl) (fk (MI_s J24) 49 rfl) (fn (MI_s J24) 49 rfl) rfl ht (fun g26 J27 K28 => ?_)
    refine ex_iload_n ok_X12_arrive (mi 76 rfl) rfl ?_
    refine ex_iret ok_X12_arrive (mi 77 rfl) rfl ?_
    exact ⟨_, rfl, ⟨_, rfl⟩, J27⟩
  · skip
    refine ex_aload_n ok_X12_arrive (mi 25 rfl) rfl ?_
    refine ex_dup ok_X12_arrive (mi 26 rfl) rfl ?_
    refine ex_getI ok_X12_arrive (mi 27 rfl) rfl rfl (fk (MI_s I) 0 rfl) ?_
    refine ex_gen (fun w29 => ?_)
    refine ex_iconst ok_X12_arrive (mi 28 rfl) ?_
    refine ex_iadd ok_X12_arrive (mi 29 rfl) ?_
    refine ex_gen (fun w30 => ?_)
    refine mf_putI I ok_X12_arrive (mi 30 rfl) rfl rfl (fk (MI_s I) 0 rfl) (by decide) (by decide) (fun g31 J32 K33 => ?_)
    have mk34 := KK_mk K33 mk
    refine ex_iload_n ok_X12_arrive (mi 31 rfl) rfl ?_
    refine ex_iret ok_X12_arrive (mi 32 rfl) rfl ?_
    exact ⟨_, rfl, ⟨_, rfl⟩, J32⟩
theorem arrive_23 {G : GE} (hst : (ge_l G).stackTraces = false) {y t m : Nat} {D : UT} {R : Nat → Prop} {g : GT} (I : MI y D 402 R g) (ht : t < 402) (mk : MK y g t 23 m) : ex_W G 7 0 0 M_X12_arrive 13 [(0, .ref y), (2, .int (nI t)), (3, .int (nI 23))] [] g (SM y D 402 R pI) := by
  refine ex_iload_n ok_X12_arrive (mi 9 rfl) rfl ?_
  refine sf_Sp (As := [_]) ok_X12_arrive (mi 10 rfl) rfl (x_sort23 hst) rfl rfl rfl (by decide) (Nat.le_of_ble_eq_true rfl) (by decide) (fun z1 p2 => ?_)
  subst p2
  refine ex_istore ok_X12_arrive (mi 11 rfl) ?_
  refine ex_aload_n ok_X12_arrive (mi 12 rfl) rfl ?_
  refine ex_getRx ok_X12_arrive (mi 13 rfl) rfl rfl (fk (MI_s I) 0 rfl) (fr (MI_s I) 51 rfl) (fk (MI_s I) 52 rfl) (by decide) ?_
  refine ex_iload_n ok_X12_arrive (mi 14 rfl) rfl ?_
  refine sm_iald ok_X12_arrive (mi 15 rfl) (fk (MI_s I) 52 rfl) (fn (MI_s I) 52 rfl) rfl (by omega) (by decide) ?_
  obtain ⟨v5, hv5, ev5⟩ := vp_in_of (n := 3) (vb_in mk.2.1 (by decide)) (by decide)
  refine ex_top (w := nI v5) ev5 ?_
  refine ex_istore ok_X12_arrive (mi 16 rfl) ?_
  refine ex_aload_n ok_X12_arrive (mi 17 rfl) rfl ?_
  refine ex_getRx ok_X12_arrive (mi 18 rfl) rfl rfl (fk (MI_s I) 0 rfl) (fr (MI_s I) 0 rfl) (fk (MI_s I) 1 rfl) (by decide) ?_
  refine ex_iload ok_X12_arrive (mi 19 rfl) rfl ?_
  refine sf_Sp (As := [_]) ok_X12_arrive (mi 20 rfl) rfl (x_first0 hst) rfl rfl rfl (by decide) (Nat.le_of_ble_eq_true rfl) (by decide) (fun z6 p7 => ?_)
  subst p7
  refine ex_iload ok_X12_arrive (mi 21 rfl) rfl ?_
  refine ex_iadd ok_X12_arrive (mi 22 rfl) ?_
  refine ex_top (w := (nI (0 + v5))) (nI_add 0 _) ?_
  refine sm_bal ok_X12_arrive (mi 23 rfl) (fk (MI_s I) 1 rfl) (fn (MI_s I) 1 rfl) rfl (by omega) (by decide) ?_
  refine ex_gen (fun w10 => ?_)
  refine ex_if_eq (tgt := 55) ok_X12_arrive (mi 24 rfl) rfl (fun h40 => ?_) (fun h40 => ?_)
  · skip
    refine ex_aload_n ok_X12_arrive (mi 33 rfl) rfl ?_
    refine ex_dup ok_X12_arrive (mi 34 rfl) rfl ?_
    refine ex_getI ok_X12_arrive (mi 35 rfl) rfl rfl (fk (MI_s I) 0 rfl) ?_
    refine ex_gen (fun w11 => ?_)
    refine ex_iconst ok_X12_arrive (mi 36 rfl) ?_
    refine ex_iadd ok_X12_arrive (mi 37 rfl) ?_
    refine ex_gen (fun w12 => ?_)
    refine mf_putI I ok_X12_arrive (mi 38 rfl) rfl rfl (fk (MI_s I) 0 rfl) (by decide) (by decide) (fun g13 J14 K15 => ?_)
    have mk16 := KK_mk K15 mk
    refine ex_aload_n ok_X12_arrive (mi 39 rfl) rfl ?_
    refine ex_getRx ok_X12_arrive (mi 40 rfl) rfl rfl (fk (MI_s J14) 0 rfl) (fr (MI_s J14) 48 rfl) (fk (MI_s J14) 49 rfl) (by decide) ?_
    refine ex_iload_n ok_X12_arrive (mi 41 rfl) rfl ?_
    refine ex_iconst ok_X12_arrive (mi 42 rfl) ?_
    refine mf_on J14 ok_X12_arrive (mi 43 rfl) (fk (MI_s J14) 49 rfl) (fn (MI_s J14) 49 rfl) rfl ht (fun g17 J18 K19 => ?_)
    have mk20 := KK_mk K19 mk16
    refine ex_iload ok_X12_arrive (mi 44 rfl) rfl ?_
    refine ex_if_ne (tgt := 87) ok_X12_arrive (mi 45 rfl) rfl (fun hn => absurd (by decide) hn) (fun _ => ?_)
    refine ex_aload_n ok_X12_arrive (mi 46 rfl) rfl ?_
    refine ex_iload ok_X12_arrive (mi 47 rfl) rfl ?_
    refine ex_iload_n ok_X12_arrive (mi 48 rfl) rfl ?_
    refine sm_V (As := [_, _]) ok_X12_arrive (mi 49 rfl) rfl (s_X12_toLeader_23 hst J18 (by omega) ht mk20) rfl (fk (MI_s J18) 0 rfl) rfl rfl (by decide) (by decide) (Nat.le_of_ble_eq_true rfl) (by decide) SM_no (fun z21 g23 p22 => ?_)
    obtain ⟨u25, eu25, u25p, J24⟩ := p22
    cases eu25
    obtain rfl : z21 = none := u25p
    refine ex_goto (tgt := 126) ok_X12_arrive (mi 50 rfl) rfl ?_
    refine ex_aload_n ok_X12_arrive (mi 71 rfl) rfl ?_
    refine ex_getRx ok_X12_arrive (mi 72 rfl) rfl rfl (fk (MI_s J24) 0 rfl) (fr (MI_s J24) 48 rfl) (fk (MI_s J24) 49 rfl) (by decide) ?_
    refine ex_iload_n ok_X12_arrive (mi 73 rfl) rfl ?_
    refine ex_iconst ok_X12_arrive (mi 74 rfl) ?_
    refine mf_off J24 ok_X12_arrive (mi 75 rfl) (fk (MI_s J24) 49 rfl) (fn (MI_s J24) 49 rfl) rfl ht (fun g26 J27 K28 => ?_)
    refine ex_iload_n ok_X12_arrive (mi 76 rfl) rfl ?_
    refine ex_iret ok_X12_arrive (mi 77 rfl) rfl ?_
    exact ⟨_, rfl, ⟨_, rfl⟩, J27⟩
  · skip
    refine ex_aload_n ok_X12_arrive (mi 25 rfl) rfl ?_
    refine ex_dup ok_X12_arrive (mi 26 rfl) rfl ?_
    refine ex_getI ok_X12_arrive (mi 27 rfl) rfl rfl (fk (MI_s I) 0 rfl) ?_
    refine ex_gen (fun w29 => ?_)
    refine ex_iconst ok_X12_arrive (mi 28 rfl) ?_
    refine ex_iadd ok_X12_arrive (mi 29 rfl) ?_
    refine ex_gen (fun w30 => ?_)
    refine mf_putI I ok_X12_arrive (mi 30 rfl) rfl rfl (fk (MI_s I) 0 rfl) (by decide) (by decide) (fun g31 J32 K33 => ?_)
    have mk34 := KK_mk K33 mk
    refine ex_iload_n ok_X12_arrive (mi 31 rfl) rfl ?_
    refine ex_iret ok_X12_arrive (mi 32 rfl) rfl ?_
    exact ⟨_, rfl, ⟨_, rfl⟩, J32⟩
theorem arrive_24 {G : GE} (hst : (ge_l G).stackTraces = false) {y t m : Nat} {D : UT} {R : Nat → Prop} {g : GT} (I : MI y D 402 R g) (ht : t < 402) (mk : MK y g t 24 m) : ex_W G 7 0 0 M_X12_arrive 13 [(0, .ref y), (2, .int (nI t)), (3, .int (nI 24))] [] g (SM y D 402 R pI) := by
  refine ex_iload_n ok_X12_arrive (mi 9 rfl) rfl ?_
  refine sf_Sp (As := [_]) ok_X12_arrive (mi 10 rfl) rfl (x_sort24 hst) rfl rfl rfl (by decide) (Nat.le_of_ble_eq_true rfl) (by decide) (fun z1 p2 => ?_)
  subst p2
  refine ex_istore ok_X12_arrive (mi 11 rfl) ?_
  refine ex_aload_n ok_X12_arrive (mi 12 rfl) rfl ?_
  refine ex_getRx ok_X12_arrive (mi 13 rfl) rfl rfl (fk (MI_s I) 0 rfl) (fr (MI_s I) 51 rfl) (fk (MI_s I) 52 rfl) (by decide) ?_
  refine ex_iload_n ok_X12_arrive (mi 14 rfl) rfl ?_
  refine sm_iald ok_X12_arrive (mi 15 rfl) (fk (MI_s I) 52 rfl) (fn (MI_s I) 52 rfl) rfl (by omega) (by decide) ?_
  obtain ⟨v5, hv5, ev5⟩ := vp_in_of (n := 3) (vb_in mk.2.1 (by decide)) (by decide)
  refine ex_top (w := nI v5) ev5 ?_
  refine ex_istore ok_X12_arrive (mi 16 rfl) ?_
  refine ex_aload_n ok_X12_arrive (mi 17 rfl) rfl ?_
  refine ex_getRx ok_X12_arrive (mi 18 rfl) rfl rfl (fk (MI_s I) 0 rfl) (fr (MI_s I) 0 rfl) (fk (MI_s I) 1 rfl) (by decide) ?_
  refine ex_iload ok_X12_arrive (mi 19 rfl) rfl ?_
  refine sf_Sp (As := [_]) ok_X12_arrive (mi 20 rfl) rfl (x_first0 hst) rfl rfl rfl (by decide) (Nat.le_of_ble_eq_true rfl) (by decide) (fun z6 p7 => ?_)
  subst p7
  refine ex_iload ok_X12_arrive (mi 21 rfl) rfl ?_
  refine ex_iadd ok_X12_arrive (mi 22 rfl) ?_
  refine ex_top (w := (nI (0 + v5))) (nI_add 0 _) ?_
  refine sm_bal ok_X12_arrive (mi 23 rfl) (fk (MI_s I) 1 rfl) (fn (MI_s I) 1 rfl) rfl (by omega) (by decide) ?_
  refine ex_gen (fun w10 => ?_)
  refine ex_if_eq (tgt := 55) ok_X12_arrive (mi 24 rfl) rfl (fun h40 => ?_) (fun h40 => ?_)
  · skip
    refine ex_aload_n ok_X12_arrive (mi 33 rfl) rfl ?_
    refine ex_dup ok_X12_arrive (mi 34 rfl) rfl ?_
    refine ex_getI ok_X12_arrive (mi 35 rfl) rfl rfl (fk (MI_s I) 0 rfl) ?_
    refine ex_gen (fun w11 => ?_)
    refine ex_iconst ok_X12_arrive (mi 36 rfl) ?_
    refine ex_iadd ok_X12_arrive (mi 37 rfl) ?_
    refine ex_gen (fun w12 => ?_)
    refine mf_putI I ok_X12_arrive (mi 38 rfl) rfl rfl (fk (MI_s I) 0 rfl) (by decide) (by decide) (fun g13 J14 K15 => ?_)
    have mk16 := KK_mk K15 mk
    refine ex_aload_n ok_X12_arrive (mi 39 rfl) rfl ?_
    refine ex_getRx ok_X12_arrive (mi 40 rfl) rfl rfl (fk (MI_s J14) 0 rfl) (fr (MI_s J14) 48 rfl) (fk (MI_s J14) 49 rfl) (by decide) ?_
    refine ex_iload_n ok_X12_arrive (mi 41 rfl) rfl ?_
    refine ex_iconst ok_X12_arrive (mi 42 rfl) ?_
    refine mf_on J14 ok_X12_arrive (mi 43 rfl) (fk (MI_s J14) 49 rfl) (fn (MI_s J14) 49 rfl) rfl ht (fun g17 J18 K19 => ?_)
    have mk20 := KK_mk K19 mk16
    refine ex_iload ok_X12_arrive (mi 44 rfl) rfl ?_
    refine ex_if_ne (tgt := 87) ok_X12_arrive (mi 45 rfl) rfl (fun hn => absurd (by decide) hn) (fun _ => ?_)
    refine ex_aload_n ok_X12_arrive (mi 46 rfl) rfl ?_
    refine ex_iload ok_X12_arrive (mi 47 rfl) rfl ?_
    refine ex_iload_n ok_X12_arrive (mi 48 rfl) rfl ?_
    refine sm_V (As := [_, _]) ok_X12_arrive (mi 49 rfl) rfl (s_X12_toLeader_24 hst J18 (by omega) ht mk20) rfl (fk (MI_s J18) 0 rfl) rfl rfl (by decide) (by decide) (Nat.le_of_ble_eq_true rfl) (by decide) SM_no (fun z21 g23 p22 => ?_)
    obtain ⟨u25, eu25, u25p, J24⟩ := p22
    cases eu25
    obtain rfl : z21 = none := u25p
    refine ex_goto (tgt := 126) ok_X12_arrive (mi 50 rfl) rfl ?_
    refine ex_aload_n ok_X12_arrive (mi 71 rfl) rfl ?_
    refine ex_getRx ok_X12_arrive (mi 72 rfl) rfl rfl (fk (MI_s J24) 0 rfl) (fr (MI_s J24) 48 rfl) (fk (MI_s J24) 49 rfl) (by decide) ?_
    refine ex_iload_n ok_X12_arrive (mi 73 rfl) rfl ?_
    refine ex_iconst ok_X12_arrive (mi 74 rfl) ?_
    refine mf_off J24 ok_X12_arrive (mi 75 rfl) (fk (MI_s J24) 49 rfl) (fn (MI_s J24) 49 rfl) rfl ht (fun g26 J27 K28 => ?_)
    refine ex_iload_n ok_X12_arrive (mi 76 rfl) rfl ?_
    refine ex_iret ok_X12_arrive (mi 77 rfl) rfl ?_
    exact ⟨_, rfl, ⟨_, rfl⟩, J27⟩
  · skip
    refine ex_aload_n ok_X12_arrive (mi 25 rfl) rfl ?_
    refine ex_dup ok_X12_arrive (mi 26 rfl) rfl ?_
    refine ex_getI ok_X12_arrive (mi 27 rfl) rfl rfl (fk (MI_s I) 0 rfl) ?_
    refine ex_gen (fun w29 => ?_)
    refine ex_iconst ok_X12_arrive (mi 28 rfl) ?_
    refine ex_iadd ok_X12_arrive (mi 29 rfl) ?_
    refine ex_gen (fun w30 => ?_)
    refine mf_putI I ok_X12_arrive (mi 30 rfl) rfl rfl (fk (MI_s I) 0 rfl) (by decide) (by decide) (fun g31 J32 K33 => ?_)
    have mk34 := KK_mk K33 mk
    refine ex_iload_n ok_X12_arrive (mi 31 rfl) rfl ?_
    refine ex_iret ok_X12_arrive (mi 32 rfl) rfl ?_
    exact ⟨_, rfl, ⟨_, rfl⟩, J32⟩
theorem s_X12_arrive {G : GE} (hst : (ge_l G).stackTraces = false) {y A k : Nat} {D : UT} {R : Nat → Prop} {g : GT} (hA : A ≤ 400) (ha : gx_I g 1248 y = nI A) (h0 : MC y D (fun j => j = 402) (fun _ => False) R (fun p => p < A) g) (hk : k < A) : ex_M G 7 0 0 my_X12_arrive [.ref y, .int (nI k)] g (SM y D 402 R pI) := by
  refine ex_M_of ok_X12_arrive cw_X12_arrive rfl hst (Nat.le_of_ble_eq_true rfl) ?_
  refine ex_aload_n ok_X12_arrive (mi 0 rfl) rfl ?_
  refine ex_iload_n ok_X12_arrive (mi 1 rfl) rfl ?_
  refine sm_V (As := [_]) ok_X12_arrive (mi 2 rfl) rfl (s_X12_take hst hA ha h0 hk) rfl (fk h0.1 0 rfl) rfl rfl (by decide) (by decide) (Nat.le_of_ble_eq_true rfl) (by decide) TK_no (fun v g1 hv => ?_)
  obtain ⟨t, e, ht, I⟩ := hv
  cases e
  refine ex_istore_n ok_X12_arrive (mi 3 rfl) ?_
  refine ex_aload_n ok_X12_arrive (mi 4 rfl) rfl ?_
  refine ex_getRx ok_X12_arrive (mi 5 rfl) rfl rfl (fk (MI_s I) 0 rfl) (fr (MI_s I) 49 rfl) (fk (MI_s I) 50 rfl) (by decide) ?_
  refine ex_iload_n ok_X12_arrive (mi 6 rfl) rfl ?_
  refine sm_iald ok_X12_arrive (mi 7 rfl) (fk (MI_s I) 50 rfl) (fn (MI_s I) 50 rfl) rfl ht (by decide) ?_
  obtain ⟨κ, m, hκ, mk⟩ := MI_mt I ht
  refine ex_top (w := nI κ) mk.1 ?_
  refine ex_istore_n ok_X12_arrive (mi 8 rfl) ?_
  refine ex_ls (ls' := [(0, .ref y), (2, .int (nI t)), (3, .int (nI κ))]) ⟨rfl, rfl, rfl, trivial⟩ ?_
  rcases (by omega : κ = 0 ∨ κ = 1 ∨ κ = 2 ∨ κ = 3 ∨ κ = 4 ∨ κ = 5 ∨ κ = 6 ∨ κ = 7 ∨ κ = 8 ∨ κ = 9 ∨ κ = 10 ∨ κ = 11 ∨ κ = 12 ∨ κ = 13 ∨ κ = 14 ∨ κ = 15 ∨ κ = 16 ∨ κ = 17 ∨ κ = 18 ∨ κ = 19 ∨ κ = 20 ∨ κ = 21 ∨ κ = 22 ∨ κ = 23 ∨ κ = 24) with rfl | rfl | rfl | rfl | rfl | rfl | rfl | rfl | rfl | rfl | rfl | rfl | rfl | rfl | rfl | rfl | rfl | rfl | rfl | rfl | rfl | rfl | rfl | rfl | rfl
  · exact arrive_0 hst I ht mk
  · exact arrive_1 hst I ht mk
  · exact arrive_2 hst I ht mk
  · exact arrive_3 hst I ht mk
  · exact arrive_4 hst I ht mk
  · exact arrive_5 hst I ht mk
  · exact arrive_6 hst I ht mk
  · exact arrive_7 hst I ht mk
  · exact arrive_8 hst I ht mk
  · exact arrive_9 hst I ht mk
  · exact arrive_10 hst I ht mk
  · exact arrive_11 hst I ht mk
  · exact arrive_12 hst I ht mk
  · exact arrive_13 hst I ht mk
  · exact arrive_14 hst I ht mk
  · exact arrive_15 hst I ht mk
  · exact arrive_16 hst I ht mk
  · exact arrive_17 hst I ht mk
  · exact arrive_18 hst I ht mk
  · exact arrive_19 hst I ht mk
  · exact arrive_20 hst I ht mk
  · exact arrive_21 hst I ht mk
  · exact arrive_22 hst I ht mk
  · exact arrive_23 hst I ht mk
  · exact arrive_24 hst I ht mk
