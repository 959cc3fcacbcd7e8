theorem s_X11_agreed {G : GE} (hst : (ge_l G).stackTraces = false) {x : Nat} {U : UT} {g : GT} (I : INV x U g) {p0 : Int32} : ex_M G 2 4 24 my_X11_agreed [.ref x, .int p0] g (SX x U [100] pI) := by
  refine ex_M_of ok_X11_agreed cw_X11_agreed rfl hst (Nat.le_of_ble_eq_true rfl) ?_
  refine ex_iload_n ok_X11_agreed (mi 0 rfl) rfl ?_
  refine ex_bipush ok_X11_agreed (mi 1 rfl) ?_
  refine sf_req (n := 16) ok_X11_agreed (mi 2 rfl) rfl hst (by decide) (by decide) ⟨rfl, rfl, rfl⟩ rfl rfl (by decide) (Nat.le_of_ble_eq_true rfl) (by decide) (fun k => ⟨Or.inr ⟨100, by decide, rfl⟩, INV_Z I⟩) (fun hr1 => ?_)
  refine ex_aload_n ok_X11_agreed (mi 3 rfl) rfl ?_
  refine ex_getRx ok_X11_agreed (mi 4 rfl) rfl rfl (fk I.1 0 rfl) (fr I.1 7 rfl) (fk I.1 4 rfl) (by decide) ?_
  refine ex_getRx ok_X11_agreed (mi 5 rfl) rfl rfl (fk I.1 4 rfl) (fr I.1 5 rfl) (fk I.1 6 rfl) (by decide) ?_
  refine ex_iload_n ok_X11_agreed (mi 6 rfl) rfl ?_
  refine sf_iald ok_X11_agreed (mi 7 rfl) (fk I.1 6 rfl) (fn I.1 6 rfl) hr1 (fun v2 => ?_)
  refine ex_iret ok_X11_agreed (mi 8 rfl) rfl ?_
  exact ⟨Or.inl ⟨_, rfl, ⟨_, rfl⟩⟩, I⟩
theorem s_X11_count {G : GE} (hst : (ge_l G).stackTraces = false) {x : Nat} {U : UT} {g : GT} (I : INV x U g) {p0 : Int32} : ex_M G 2 4 24 my_X11_count [.ref x, .int p0] g (SX x U [100] pI) := by
  refine ex_M_of ok_X11_count cw_X11_count rfl hst (Nat.le_of_ble_eq_true rfl) ?_
  refine ex_iload_n ok_X11_count (mi 0 rfl) rfl ?_
  refine ex_bipush ok_X11_count (mi 1 rfl) ?_
  refine sf_req (n := 6) ok_X11_count (mi 2 rfl) rfl hst (by decide) (by decide) ⟨rfl, rfl, rfl⟩ rfl rfl (by decide) (Nat.le_of_ble_eq_true rfl) (by decide) (fun k => ⟨Or.inr ⟨100, by decide, rfl⟩, INV_Z I⟩) (fun hr1 => ?_)
  refine ex_iload_n ok_X11_count (mi 3 rfl) rfl ?_
  refine sf_table [40, 48, 56, 61, 69, 77] ok_X11_count (mi 4 rfl) (by decide) (by decide) (fun t ht => ?_)
  simp only [List.mem_cons, List.not_mem_nil, or_false] at ht
  rcases ht with rfl | rfl | rfl | rfl | rfl | rfl
  · skip
    refine ex_aload_n ok_X11_count (mi 5 rfl) rfl ?_
    refine ex_getRx ok_X11_count (mi 6 rfl) rfl rfl (fk I.1 0 rfl) (fr I.1 2 rfl) (fk I.1 1 rfl) (by decide) ?_
    refine sf_getSz I ok_X11_count (mi 7 rfl) rfl (fk I.1 1 rfl) (fun hz2 => ?_)
    refine ex_iret ok_X11_count (mi 8 rfl) rfl ?_
    exact ⟨Or.inl ⟨_, rfl, ⟨_, rfl⟩⟩, I⟩
  · skip
    refine ex_aload_n ok_X11_count (mi 9 rfl) rfl ?_
    refine ex_getRx ok_X11_count (mi 10 rfl) rfl rfl (fk I.1 0 rfl) (fr I.1 2 rfl) (fk I.1 1 rfl) (by decide) ?_
    refine sf_getI ok_X11_count (mi 11 rfl) rfl rfl (fk I.1 1 rfl) (fun v3 => ?_)
    refine ex_iret ok_X11_count (mi 12 rfl) rfl ?_
    exact ⟨Or.inl ⟨_, rfl, ⟨_, rfl⟩⟩, I⟩
  · skip
    refine ex_aload_n ok_X11_count (mi 13 rfl) rfl ?_
    refine sf_getI ok_X11_count (mi 14 rfl) rfl rfl (fk I.1 0 rfl) (fun v4 => ?_)
    refine ex_iret ok_X11_count (mi 15 rfl) rfl ?_
    exact ⟨Or.inl ⟨_, rfl, ⟨_, rfl⟩⟩, I⟩
  · skip
    refine ex_aload_n ok_X11_count (mi 16 rfl) rfl ?_
    refine ex_getRx ok_X11_count (mi 17 rfl) rfl rfl (fk I.1 0 rfl) (fr I.1 10 rfl) (fk I.1 7 rfl) (by decide) ?_
    refine sf_getI ok_X11_count (mi 18 rfl) rfl rfl (fk I.1 7 rfl) (fun v5 => ?_)
    refine ex_iret ok_X11_count (mi 19 rfl) rfl ?_
    exact ⟨Or.inl ⟨_, rfl, ⟨_, rfl⟩⟩, I⟩
  · skip
    refine ex_aload_n ok_X11_count (mi 20 rfl) rfl ?_
    refine ex_getRx ok_X11_count (mi 21 rfl) rfl rfl (fk I.1 0 rfl) (fr I.1 7 rfl) (fk I.1 4 rfl) (by decide) ?_
    refine sf_getI ok_X11_count (mi 22 rfl) rfl rfl (fk I.1 4 rfl) (fun v6 => ?_)
    refine ex_iret ok_X11_count (mi 23 rfl) rfl ?_
    exact ⟨Or.inl ⟨_, rfl, ⟨_, rfl⟩⟩, I⟩
  · skip
    refine ex_aload_n ok_X11_count (mi 24 rfl) rfl ?_
    refine sf_getI ok_X11_count (mi 25 rfl) rfl rfl (fk I.1 0 rfl) (fun v7 => ?_)
    refine ex_iret ok_X11_count (mi 26 rfl) rfl ?_
    exact ⟨Or.inl ⟨_, rfl, ⟨_, rfl⟩⟩, I⟩
