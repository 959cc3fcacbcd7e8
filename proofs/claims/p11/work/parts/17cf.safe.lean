theorem s_X5_tellOfLeading {G : GE} (hst : (ge_l G).stackTraces = false) {x : Nat} {U : UT} {g : GT} (I : INV x U g) {a : Nat} (ha : LDR x a) {p0 : Int32} : ex_M G 2 0 0 my_X5_tellOfLeading [.ref a, .int p0] g (SVp g pI) := by
  refine ex_M_of ok_X5_tellOfLeading cw_X5_tellOfLeading rfl hst (Nat.le_of_ble_eq_true rfl) ?_
  refine ex_iload_n ok_X5_tellOfLeading (mi 0 rfl) rfl ?_
  refine sf_table [28, 33, 38, 43] ok_X5_tellOfLeading (mi 1 rfl) (by decide) (by decide) (fun t ht => ?_)
  simp only [List.mem_cons, List.not_mem_nil, or_false] at ht
  rcases ht with rfl | rfl | rfl | rfl
  · skip
    refine ex_aload_n ok_X5_tellOfLeading (mi 2 rfl) rfl ?_
    refine sf_getI ok_X5_tellOfLeading (mi 3 rfl) rfl rfl (fk (INV_5 I ha).1 0 rfl) (fun v1 => ?_)
    refine ex_iret ok_X5_tellOfLeading (mi 4 rfl) rfl ?_
    exact ⟨_, rfl, ⟨_, rfl⟩, rfl⟩
  · skip
    refine ex_aload_n ok_X5_tellOfLeading (mi 5 rfl) rfl ?_
    refine sf_getI ok_X5_tellOfLeading (mi 6 rfl) rfl rfl (fk (INV_5 I ha).1 0 rfl) (fun v2 => ?_)
    refine ex_iret ok_X5_tellOfLeading (mi 7 rfl) rfl ?_
    exact ⟨_, rfl, ⟨_, rfl⟩, rfl⟩
  · skip
    refine ex_aload_n ok_X5_tellOfLeading (mi 8 rfl) rfl ?_
    refine sf_getI ok_X5_tellOfLeading (mi 9 rfl) rfl rfl (fk (INV_5 I ha).1 0 rfl) (fun v3 => ?_)
    refine ex_iret ok_X5_tellOfLeading (mi 10 rfl) rfl ?_
    exact ⟨_, rfl, ⟨_, rfl⟩, rfl⟩
  · skip
    refine ex_aload_n ok_X5_tellOfLeading (mi 11 rfl) rfl ?_
    refine ex_getRx ok_X5_tellOfLeading (mi 12 rfl) rfl rfl (fk (INV_5 I ha).1 0 rfl) (fr (INV_5 I ha).1 1 rfl) (fk (INV_5 I ha).1 5 rfl) (by decide) ?_
    refine sf_Vp (As := []) ok_X5_tellOfLeading (mi 13 rfl) rfl (s_X8_firm hst I (LDR_sl ha)) rfl (fk (INV_5 I ha).1 5 rfl) rfl rfl (by decide) (by decide) (Nat.le_of_ble_eq_true rfl) (by decide) (fun z4 p6 => ?_)
    obtain ⟨v8, rfl⟩ := p6
    refine ex_iret ok_X5_tellOfLeading (mi 14 rfl) rfl ?_
    exact ⟨_, rfl, ⟨_, rfl⟩, rfl⟩
theorem s_X5_tell {G : GE} (hst : (ge_l G).stackTraces = false) {x : Nat} {U : UT} {g : GT} (I : INV x U g) {a : Nat} (ha : LDR x a) {p0 : Int32} : ex_M G 3 0 0 my_X5_tell [.ref a, .int p0] g (SVp g pI) := by
  refine ex_M_of ok_X5_tell cw_X5_tell rfl hst (Nat.le_of_ble_eq_true rfl) ?_
  refine ex_iload_n ok_X5_tell (mi 0 rfl) rfl ?_
  refine sf_table [72, 77, 82, 87, 95, 103, 111, 119, 127, 135, 161] ok_X5_tell (mi 1 rfl) (by decide) (by decide) (fun t ht => ?_)
  simp only [List.mem_cons, List.not_mem_nil, or_false] at ht
  rcases ht with rfl | rfl | rfl | rfl | rfl | rfl | rfl | rfl | rfl | rfl | rfl
  · skip
    refine ex_aload_n ok_X5_tell (mi 2 rfl) rfl ?_
    refine sf_getI ok_X5_tell (mi 3 rfl) rfl rfl (fk (INV_5 I ha).1 0 rfl) (fun v1 => ?_)
    refine ex_iret ok_X5_tell (mi 4 rfl) rfl ?_
    exact ⟨_, rfl, ⟨_, rfl⟩, rfl⟩
  · skip
    refine ex_aload_n ok_X5_tell (mi 5 rfl) rfl ?_
    refine sf_getI ok_X5_tell (mi 6 rfl) rfl rfl (fk (INV_5 I ha).1 0 rfl) (fun v2 => ?_)
    refine ex_iret ok_X5_tell (mi 7 rfl) rfl ?_
    exact ⟨_, rfl, ⟨_, rfl⟩, rfl⟩
  · skip
    refine ex_aload_n ok_X5_tell (mi 8 rfl) rfl ?_
    refine sf_getI ok_X5_tell (mi 9 rfl) rfl rfl (fk (INV_5 I ha).1 0 rfl) (fun v3 => ?_)
    refine ex_iret ok_X5_tell (mi 10 rfl) rfl ?_
    exact ⟨_, rfl, ⟨_, rfl⟩, rfl⟩
  · skip
    refine ex_aload_n ok_X5_tell (mi 11 rfl) rfl ?_
    refine ex_getRx ok_X5_tell (mi 12 rfl) rfl rfl (fk (INV_5 I ha).1 0 rfl) (fr (INV_5 I ha).1 0 rfl) (fk (INV_5 I ha).1 3 rfl) (by decide) ?_
    refine sf_getI ok_X5_tell (mi 13 rfl) rfl rfl (fk (INV_5 I ha).1 3 rfl) (fun v4 => ?_)
    refine ex_iret ok_X5_tell (mi 14 rfl) rfl ?_
    exact ⟨_, rfl, ⟨_, rfl⟩, rfl⟩
  · skip
    refine ex_aload_n ok_X5_tell (mi 15 rfl) rfl ?_
    refine ex_getRx ok_X5_tell (mi 16 rfl) rfl rfl (fk (INV_5 I ha).1 0 rfl) (fr (INV_5 I ha).1 0 rfl) (fk (INV_5 I ha).1 3 rfl) (by decide) ?_
    refine sf_getI ok_X5_tell (mi 17 rfl) rfl rfl (fk (INV_5 I ha).1 3 rfl) (fun v5 => ?_)
    refine ex_iret ok_X5_tell (mi 18 rfl) rfl ?_
    exact ⟨_, rfl, ⟨_, rfl⟩, rfl⟩
  · skip
    refine ex_aload_n ok_X5_tell (mi 19 rfl) rfl ?_
    refine ex_getRx ok_X5_tell (mi 20 rfl) rfl rfl (fk (INV_5 I ha).1 0 rfl) (fr (INV_5 I ha).1 3 rfl) (fk (INV_5 I ha).1 1 rfl) (by decide) ?_
    refine sf_Sp (As := [_]) ok_X5_tell (mi 21 rfl) rfl (s_X7_size hst I (LDR_rd1 ha)) rfl rfl rfl (by decide) (Nat.le_of_ble_eq_true rfl) (by decide) (fun z6 p8 => ?_)
    obtain ⟨v10, rfl⟩ := p8
    refine ex_iret ok_X5_tell (mi 22 rfl) rfl ?_
    exact ⟨_, rfl, ⟨_, rfl⟩, rfl⟩
  · skip
    refine ex_aload_n ok_X5_tell (mi 23 rfl) rfl ?_
    refine ex_getRx ok_X5_tell (mi 24 rfl) rfl rfl (fk (INV_5 I ha).1 0 rfl) (fr (INV_5 I ha).1 2 rfl) (fk (INV_5 I ha).1 10 rfl) (by decide) ?_
    refine sf_getI ok_X5_tell (mi 25 rfl) rfl rfl (fk (INV_5 I ha).1 10 rfl) (fun v11 => ?_)
    refine ex_iret ok_X5_tell (mi 26 rfl) rfl ?_
    exact ⟨_, rfl, ⟨_, rfl⟩, rfl⟩
  · skip
    refine ex_aload_n ok_X5_tell (mi 27 rfl) rfl ?_
    refine ex_getRx ok_X5_tell (mi 28 rfl) rfl rfl (fk (INV_5 I ha).1 0 rfl) (fr (INV_5 I ha).1 0 rfl) (fk (INV_5 I ha).1 3 rfl) (by decide) ?_
    refine sf_getI ok_X5_tell (mi 29 rfl) rfl rfl (fk (INV_5 I ha).1 3 rfl) (fun v12 => ?_)
    refine ex_iret ok_X5_tell (mi 30 rfl) rfl ?_
    exact ⟨_, rfl, ⟨_, rfl⟩, rfl⟩
  · skip
    refine ex_aload_n ok_X5_tell (mi 31 rfl) rfl ?_
    refine ex_getRx ok_X5_tell (mi 32 rfl) rfl rfl (fk (INV_5 I ha).1 0 rfl) (fr (INV_5 I ha).1 0 rfl) (fk (INV_5 I ha).1 3 rfl) (by decide) ?_
    refine sf_getI ok_X5_tell (mi 33 rfl) rfl rfl (fk (INV_5 I ha).1 3 rfl) (fun v13 => ?_)
    refine ex_iret ok_X5_tell (mi 34 rfl) rfl ?_
    exact ⟨_, rfl, ⟨_, rfl⟩, rfl⟩
  · skip
    refine ex_aload_n ok_X5_tell (mi 35 rfl) rfl ?_
    refine ex_getRx ok_X5_tell (mi 36 rfl) rfl rfl (fk (INV_5 I ha).1 0 rfl) (fr (INV_5 I ha).1 2 rfl) (fk (INV_5 I ha).1 10 rfl) (by decide) ?_
    refine sf_getI ok_X5_tell (mi 37 rfl) rfl rfl (fk (INV_5 I ha).1 10 rfl) (fun v14 => ?_)
    refine ex_iconst ok_X5_tell (mi 38 rfl) ?_
    refine ex_icmp_ne (tgt := 156) ok_X5_tell (mi 39 rfl) rfl (fun h143 => ?_) (fun h143 => ?_)
    · skip
      refine ex_aload_n ok_X5_tell (mi 44 rfl) rfl ?_
      refine sf_getI ok_X5_tell (mi 45 rfl) rfl rfl (fk (INV_5 I ha).1 0 rfl) (fun v15 => ?_)
      refine ex_iret ok_X5_tell (mi 46 rfl) rfl ?_
      exact ⟨_, rfl, ⟨_, rfl⟩, rfl⟩
    · skip
      refine ex_aload_n ok_X5_tell (mi 40 rfl) rfl ?_
      refine ex_getRx ok_X5_tell (mi 41 rfl) rfl rfl (fk (INV_5 I ha).1 0 rfl) (fr (INV_5 I ha).1 2 rfl) (fk (INV_5 I ha).1 10 rfl) (by decide) ?_
      refine sf_getI ok_X5_tell (mi 42 rfl) rfl rfl (fk (INV_5 I ha).1 10 rfl) (fun v16 => ?_)
      refine ex_goto (tgt := 160) ok_X5_tell (mi 43 rfl) rfl ?_
      refine ex_iret ok_X5_tell (mi 46 rfl) rfl ?_
      exact ⟨_, rfl, ⟨_, rfl⟩, rfl⟩
  · skip
    refine ex_aload_n ok_X5_tell (mi 47 rfl) rfl ?_
    refine sf_getI ok_X5_tell (mi 48 rfl) rfl rfl (fk (INV_5 I ha).1 0 rfl) (fun v17 => ?_)
    refine ex_iconst ok_X5_tell (mi 49 rfl) ?_
    refine ex_icmp_ne (tgt := 177) ok_X5_tell (mi 50 rfl) rfl (fun h166 => ?_) (fun h166 => ?_)
    · skip
      refine ex_iconst ok_X5_tell (mi 55 rfl) ?_
      refine ex_iret ok_X5_tell (mi 56 rfl) rfl ?_
      exact ⟨_, rfl, ⟨_, rfl⟩, rfl⟩
    · skip
      refine ex_aload_n ok_X5_tell (mi 51 rfl) rfl ?_
      refine ex_iload_n ok_X5_tell (mi 52 rfl) rfl ?_
      refine sf_Vp (As := [_]) ok_X5_tell (mi 53 rfl) rfl (s_X5_tellOfLeading hst I ha) rfl (fk (INV_5 I ha).1 0 rfl) rfl rfl (by decide) (by decide) (Nat.le_of_ble_eq_true rfl) (by decide) (fun z18 p20 => ?_)
      obtain ⟨v22, rfl⟩ := p20
      refine ex_goto (tgt := 178) ok_X5_tell (mi 54 rfl) rfl ?_
      refine ex_iret ok_X5_tell (mi 56 rfl) rfl ?_
      exact ⟨_, rfl, ⟨_, rfl⟩, rfl⟩
theorem s_X7_at {G : GE} (hst : (ge_l G).stackTraces = false) {x : Nat} {U : UT} {g : GT} (I : INV x U g) {s0 : Nat} (hs0 : RDR x s0) {p1 : Int32} : ex_M G 2 0 0 my_X7_at [.ref s0, .int p1] g (SVp g pI) := by
  refine ex_M_of ok_X7_at cw_X7_at rfl hst (Nat.le_of_ble_eq_true rfl) ?_
  refine ex_iconst ok_X7_at (mi 0 rfl) ?_
  refine ex_istore_n ok_X7_at (mi 1 rfl) ?_
  refine ex_iconst ok_X7_at (mi 2 rfl) ?_
  refine ex_istore_n ok_X7_at (mi 3 rfl) ?_
  have lp4 : ∀ n4 k4 : Nat, k4 + n4 = 300 → ∀ (q1 : Int32), ex_W G 2 0 0 M_X7_at 4 [(0, .ref s0), (1, .int p1), (2, .int q1), (3, .int (nI k4))] [] g (SVp g pI) := by
    intro n4
    induction n4 with
    | zero =>
      intro k4 hk4 q1
      obtain rfl : k4 = 300 := by omega
      refine ex_iload_n ok_X7_at (mi 4 rfl) rfl ?_
      refine ex_sipush ok_X7_at (mi 5 rfl) ?_
      refine ex_icmp_ge (tgt := 35) ok_X7_at (mi 6 rfl) rfl (fun _ => ?_) (fun hn => absurd (by decide) hn)
      refine ex_iconst ok_X7_at (mi 19 rfl) ?_
      refine ex_iret ok_X7_at (mi 20 rfl) rfl ?_
      exact ⟨_, rfl, ⟨_, rfl⟩, rfl⟩
    | succ n4 ih4 =>
      intro k4 hk4 q1
      have hr4 : k4 < 300 := by omega
      refine ex_iload_n ok_X7_at (mi 4 rfl) rfl ?_
      refine ex_sipush ok_X7_at (mi 5 rfl) ?_
      refine ex_icmp_ge (tgt := 35) ok_X7_at (mi 6 rfl) rfl (fun hn => absurd hn (nI_ge hr4 (by decide))) (fun _ => ?_)
      refine ex_aload_n ok_X7_at (mi 7 rfl) rfl ?_
      refine ex_iload_n ok_X7_at (mi 8 rfl) rfl ?_
      refine sf_Sp (As := [_, _]) ok_X7_at (mi 9 rfl) rfl (s_X7_has hst I hs0) rfl rfl rfl (by decide) (Nat.le_of_ble_eq_true rfl) (by decide) (fun z4 p6 => ?_)
      obtain ⟨v8, rfl, hbv8, hfv8⟩ := p6
      refine ex_if_eq (tgt := 29) ok_X7_at (mi 10 rfl) rfl (fun h16 => ?_) (fun h16 => ?_)
      · skip
        refine ex_iincx (w := (nI (k4 + 1))) ok_X7_at (mi 17 rfl) rfl (nI_1 _) ?_
        refine ex_goto (tgt := 4) ok_X7_at (mi 18 rfl) rfl ?_
        exact ex_ls (ls' := [(0, .ref s0), (1, .int p1), (2, .int q1), (3, .int (nI (k4 + 1)))]) ⟨rfl, rfl, rfl, rfl, trivial⟩ (ih4 (k4 + 1) (by omega) _ )
      · skip
        refine ex_iload_n ok_X7_at (mi 11 rfl) rfl ?_
        refine ex_iload_n ok_X7_at (mi 12 rfl) rfl ?_
        refine ex_icmp_ne (tgt := 26) ok_X7_at (mi 13 rfl) rfl (fun h21 => ?_) (fun h21 => ?_)
        · skip
          refine ex_iinc ok_X7_at (mi 16 rfl) rfl ?_
          refine ex_iincx (w := (nI (k4 + 1))) ok_X7_at (mi 17 rfl) rfl (nI_1 _) ?_
          refine ex_goto (tgt := 4) ok_X7_at (mi 18 rfl) rfl ?_
          exact ex_ls (ls' := [(0, .ref s0), (1, .int p1), (2, .int (q1 + Int32.ofInt (1))), (3, .int (nI (k4 + 1)))]) ⟨rfl, rfl, rfl, rfl, trivial⟩ (ih4 (k4 + 1) (by omega) _ )
        · skip
          refine ex_iload_n ok_X7_at (mi 14 rfl) rfl ?_
          refine ex_iret ok_X7_at (mi 15 rfl) rfl ?_
          exact ⟨_, rfl, ⟨_, rfl⟩, rfl⟩
  exact ex_ls (ls' := [(0, .ref s0), (1, .int p1), (2, .int (nI 0)), (3, .int (nI 0))]) ⟨rfl, rfl, rfl, rfl, trivial⟩ (lp4 300 0 (by decide) _ )
theorem s_X11_nodesOf {G : GE} (hst : (ge_l G).stackTraces = false) {x : Nat} {U : UT} {g : GT} (I : INV x U g) {p0 : Int32} : ex_M G 1 0 0 my_X11_nodesOf [.int p0] g (SVp g pI) := by
  refine ex_M_of ok_X11_nodesOf cw_X11_nodesOf rfl hst (Nat.le_of_ble_eq_true rfl) ?_
  refine ex_iload_n ok_X11_nodesOf (mi 0 rfl) rfl ?_
  refine sf_table [32, 34, 37, 40, 42] ok_X11_nodesOf (mi 1 rfl) (by decide) (by decide) (fun t ht => ?_)
  simp only [List.mem_cons, List.not_mem_nil, or_false] at ht
  rcases ht with rfl | rfl | rfl | rfl | rfl
  · skip
    refine ex_iconst ok_X11_nodesOf (mi 2 rfl) ?_
    refine ex_iret ok_X11_nodesOf (mi 3 rfl) rfl ?_
    exact ⟨_, rfl, ⟨_, rfl⟩, rfl⟩
  · skip
    refine ex_bipush ok_X11_nodesOf (mi 4 rfl) ?_
    refine ex_iret ok_X11_nodesOf (mi 5 rfl) rfl ?_
    exact ⟨_, rfl, ⟨_, rfl⟩, rfl⟩
  · skip
    refine ex_bipush ok_X11_nodesOf (mi 6 rfl) ?_
    refine ex_iret ok_X11_nodesOf (mi 7 rfl) rfl ?_
    exact ⟨_, rfl, ⟨_, rfl⟩, rfl⟩
  · skip
    refine ex_iconst ok_X11_nodesOf (mi 8 rfl) ?_
    refine ex_iret ok_X11_nodesOf (mi 9 rfl) rfl ?_
    exact ⟨_, rfl, ⟨_, rfl⟩, rfl⟩
  · skip
    refine ex_iconst ok_X11_nodesOf (mi 10 rfl) ?_
    refine ex_iret ok_X11_nodesOf (mi 11 rfl) rfl ?_
    exact ⟨_, rfl, ⟨_, rfl⟩, rfl⟩
theorem s_X11_receiverOf {G : GE} (hst : (ge_l G).stackTraces = false) {x : Nat} {U : UT} {g : GT} (I : INV x U g) {p0 : Int32} : ex_M G 1 0 0 my_X11_receiverOf [.int p0] g (SVp g pI) := by
  refine ex_M_of ok_X11_receiverOf cw_X11_receiverOf rfl hst (Nat.le_of_ble_eq_true rfl) ?_
  refine ex_iload_n ok_X11_receiverOf (mi 0 rfl) rfl ?_
  refine sf_table [104, 106, 108, 110] ok_X11_receiverOf (mi 1 rfl) (by decide) (by decide) (fun t ht => ?_)
  simp only [List.mem_cons, List.not_mem_nil, or_false] at ht
  rcases ht with rfl | rfl | rfl | rfl
  · skip
    refine ex_iconst ok_X11_receiverOf (mi 2 rfl) ?_
    refine ex_iret ok_X11_receiverOf (mi 3 rfl) rfl ?_
    exact ⟨_, rfl, ⟨_, rfl⟩, rfl⟩
  · skip
    refine ex_iconst ok_X11_receiverOf (mi 4 rfl) ?_
    refine ex_iret ok_X11_receiverOf (mi 5 rfl) rfl ?_
    exact ⟨_, rfl, ⟨_, rfl⟩, rfl⟩
  · skip
    refine ex_iconst ok_X11_receiverOf (mi 6 rfl) ?_
    refine ex_iret ok_X11_receiverOf (mi 7 rfl) rfl ?_
    exact ⟨_, rfl, ⟨_, rfl⟩, rfl⟩
  · skip
    refine ex_iconst ok_X11_receiverOf (mi 8 rfl) ?_
    refine ex_iret ok_X11_receiverOf (mi 9 rfl) rfl ?_
    exact ⟨_, rfl, ⟨_, rfl⟩, rfl⟩
theorem s_X11_isUp {G : GE} (hst : (ge_l G).stackTraces = false) {x : Nat} {U : UT} {g : GT} (I : INV x U g) {p0 : Int32} {p1 : Int32} : ex_M G 2 0 0 my_X11_isUp [.ref x, .int p0, .int p1] g (SVp g pZ) := by
  refine ex_M_of ok_X11_isUp cw_X11_isUp rfl hst (Nat.le_of_ble_eq_true rfl) ?_
  refine ex_iload_n ok_X11_isUp (mi 0 rfl) rfl ?_
  refine ex_if_lt (tgt := 38) ok_X11_isUp (mi 1 rfl) rfl (fun h1 => ?_) (fun h1 => ?_)
  · skip
    refine ex_iconst ok_X11_isUp (mi 22 rfl) ?_
    refine ex_zret ok_X11_isUp (mi 23 rfl) rfl (by decide) ?_
    exact ⟨_, rfl, ⟨_, rfl, (by decide)⟩, rfl⟩
  · skip
    refine ex_iload_n ok_X11_isUp (mi 2 rfl) rfl ?_
    refine ex_iconst ok_X11_isUp (mi 3 rfl) ?_
    refine ex_icmp_ge (tgt := 38) ok_X11_isUp (mi 4 rfl) rfl (fun h6 => ?_) (fun h6 => ?_)
    · skip
      refine ex_iconst ok_X11_isUp (mi 22 rfl) ?_
      refine ex_zret ok_X11_isUp (mi 23 rfl) rfl (by decide) ?_
      exact ⟨_, rfl, ⟨_, rfl, (by decide)⟩, rfl⟩
    · skip
      refine ex_iload_n ok_X11_isUp (mi 5 rfl) rfl ?_
      refine ex_if_lt (tgt := 38) ok_X11_isUp (mi 6 rfl) rfl (fun h10 => ?_) (fun h10 => ?_)
      · skip
        refine ex_iconst ok_X11_isUp (mi 22 rfl) ?_
        refine ex_zret ok_X11_isUp (mi 23 rfl) rfl (by decide) ?_
        exact ⟨_, rfl, ⟨_, rfl, (by decide)⟩, rfl⟩
      · skip
        refine ex_iload_n ok_X11_isUp (mi 7 rfl) rfl ?_
        refine ex_iload_n ok_X11_isUp (mi 8 rfl) rfl ?_
        refine sf_Sp (As := [_]) ok_X11_isUp (mi 9 rfl) rfl (s_X11_nodesOf hst I) rfl rfl rfl (by decide) (Nat.le_of_ble_eq_true rfl) (by decide) (fun z1 p3 => ?_)
        obtain ⟨v5, rfl⟩ := p3
        refine ex_icmp_ge (tgt := 38) ok_X11_isUp (mi 10 rfl) rfl (fun h18 => ?_) (fun h18 => ?_)
        · skip
          refine ex_iconst ok_X11_isUp (mi 22 rfl) ?_
          refine ex_zret ok_X11_isUp (mi 23 rfl) rfl (by decide) ?_
          exact ⟨_, rfl, ⟨_, rfl, (by decide)⟩, rfl⟩
        · skip
          refine ex_aload_n ok_X11_isUp (mi 11 rfl) rfl ?_
          refine ex_getRx ok_X11_isUp (mi 12 rfl) rfl rfl (fk I.1 0 rfl) (fr I.1 11 rfl) (fk I.1 9 rfl) (by decide) ?_
          refine ex_iload_n ok_X11_isUp (mi 13 rfl) rfl ?_
          refine sf_iald ok_X11_isUp (mi 14 rfl) (fk I.1 9 rfl) (fn I.1 9 rfl) (vin_of h1 (not_le_lt h6) (by decide)) (fun v6 => ?_)
          refine ex_iload_n ok_X11_isUp (mi 15 rfl) rfl ?_
          refine ex_ishr ok_X11_isUp (mi 16 rfl) ?_
          refine ex_gen (fun w7 => ?_)
          refine ex_iconst ok_X11_isUp (mi 17 rfl) ?_
          refine ex_iand ok_X11_isUp (mi 18 rfl) ?_
          refine ex_gen (fun w8 => ?_)
          refine ex_if_eq (tgt := 38) ok_X11_isUp (mi 19 rfl) rfl (fun h31 => ?_) (fun h31 => ?_)
          · skip
            refine ex_iconst ok_X11_isUp (mi 22 rfl) ?_
            refine ex_zret ok_X11_isUp (mi 23 rfl) rfl (by decide) ?_
            exact ⟨_, rfl, ⟨_, rfl, (by decide)⟩, rfl⟩
          · skip
            refine ex_iconst ok_X11_isUp (mi 20 rfl) ?_
            refine ex_goto (tgt := 39) ok_X11_isUp (mi 21 rfl) rfl ?_
            refine ex_zret ok_X11_isUp (mi 23 rfl) rfl (by decide) ?_
            exact ⟨_, rfl, ⟨_, rfl, (by decide)⟩, rfl⟩
theorem s_X11_isRoundOf {G : GE} (hst : (ge_l G).stackTraces = false) {x : Nat} {U : UT} {g : GT} (I : INV x U g) {p0 : Int32} {p1 : Int32} : ex_M G 1 0 0 my_X11_isRoundOf [.int p0, .int p1] g (SVp g (fun v => ∃ i, v = some (.int i) ∧ (i = 0 ∨ i = 1) ∧ (i ≠ 0 → vp_in p1 300))) := by
  refine ex_M_of ok_X11_isRoundOf cw_X11_isRoundOf rfl hst (Nat.le_of_ble_eq_true rfl) ?_
  refine ex_iload_n ok_X11_isRoundOf (mi 0 rfl) rfl ?_
  refine ex_if_lt (tgt := 22) ok_X11_isRoundOf (mi 1 rfl) rfl (fun h1 => ?_) (fun h1 => ?_)
  · skip
    refine ex_iconst ok_X11_isRoundOf (mi 12 rfl) ?_
    refine ex_zret ok_X11_isRoundOf (mi 13 rfl) rfl (by decide) ?_
    exact ⟨_, rfl, ⟨_, rfl, (by decide), fun e => absurd (by decide) e⟩, rfl⟩
  · skip
    refine ex_iload_n ok_X11_isRoundOf (mi 2 rfl) rfl ?_
    refine ex_sipush ok_X11_isRoundOf (mi 3 rfl) ?_
    refine ex_icmp_ge (tgt := 22) ok_X11_isRoundOf (mi 4 rfl) rfl (fun h8 => ?_) (fun h8 => ?_)
    · skip
      refine ex_iconst ok_X11_isRoundOf (mi 12 rfl) ?_
      refine ex_zret ok_X11_isRoundOf (mi 13 rfl) rfl (by decide) ?_
      exact ⟨_, rfl, ⟨_, rfl, (by decide), fun e => absurd (by decide) e⟩, rfl⟩
    · skip
      refine ex_iload_n ok_X11_isRoundOf (mi 5 rfl) rfl ?_
      refine ex_iconst ok_X11_isRoundOf (mi 6 rfl) ?_
      refine ex_irem ok_X11_isRoundOf (mi 7 rfl) (by decide) ?_
      refine ex_gen (fun w1 => ?_)
      refine ex_iload_n ok_X11_isRoundOf (mi 8 rfl) rfl ?_
      refine ex_icmp_ne (tgt := 22) ok_X11_isRoundOf (mi 9 rfl) rfl (fun h15 => ?_) (fun h15 => ?_)
      · skip
        refine ex_iconst ok_X11_isRoundOf (mi 12 rfl) ?_
        refine ex_zret ok_X11_isRoundOf (mi 13 rfl) rfl (by decide) ?_
        exact ⟨_, rfl, ⟨_, rfl, (by decide), fun e => absurd (by decide) e⟩, rfl⟩
      · skip
        refine ex_iconst ok_X11_isRoundOf (mi 10 rfl) ?_
        refine ex_goto (tgt := 23) ok_X11_isRoundOf (mi 11 rfl) rfl ?_
        refine ex_zret ok_X11_isRoundOf (mi 13 rfl) rfl (by decide) ?_
        exact ⟨_, rfl, ⟨_, rfl, (by decide), fun _ => vin_of h1 (not_le_lt h8) (by decide)⟩, rfl⟩
theorem s_X11_isGroup {G : GE} (hst : (ge_l G).stackTraces = false) {x : Nat} {U : UT} {g : GT} (I : INV x U g) {p0 : Int32} : ex_M G 2 0 0 my_X11_isGroup [.int p0] g (SVp g pZ) := by
  refine ex_M_of ok_X11_isGroup cw_X11_isGroup rfl hst (Nat.le_of_ble_eq_true rfl) ?_
  refine ex_iload_n ok_X11_isGroup (mi 0 rfl) rfl ?_
  refine ex_if_le (tgt := 23) ok_X11_isGroup (mi 1 rfl) rfl (fun h1 => ?_) (fun h1 => ?_)
  · skip
    refine ex_iconst ok_X11_isGroup (mi 11 rfl) ?_
    refine ex_zret ok_X11_isGroup (mi 12 rfl) rfl (by decide) ?_
    exact ⟨_, rfl, ⟨_, rfl, (by decide)⟩, rfl⟩
  · skip
    refine ex_iload_n ok_X11_isGroup (mi 2 rfl) rfl ?_
    refine ex_sipush ok_X11_isGroup (mi 3 rfl) ?_
    refine ex_icmp_ge (tgt := 23) ok_X11_isGroup (mi 4 rfl) rfl (fun h8 => ?_) (fun h8 => ?_)
    · skip
      refine ex_iconst ok_X11_isGroup (mi 11 rfl) ?_
      refine ex_zret ok_X11_isGroup (mi 12 rfl) rfl (by decide) ?_
      exact ⟨_, rfl, ⟨_, rfl, (by decide)⟩, rfl⟩
    · skip
      refine ex_iload_n ok_X11_isGroup (mi 5 rfl) rfl ?_
      refine sf_Sp (As := [_]) ok_X11_isGroup (mi 6 rfl) rfl (s_J6_bitCount_0f7a4 hst I) rfl rfl rfl (by decide) (Nat.le_of_ble_eq_true rfl) (by decide) (fun z1 p3 => ?_)
      obtain ⟨v5, rfl⟩ := p3
      refine ex_iconst ok_X11_isGroup (mi 7 rfl) ?_
      refine ex_icmp_gt (tgt := 23) ok_X11_isGroup (mi 8 rfl) rfl (fun h16 => ?_) (fun h16 => ?_)
      · skip
        refine ex_iconst ok_X11_isGroup (mi 11 rfl) ?_
        refine ex_zret ok_X11_isGroup (mi 12 rfl) rfl (by decide) ?_
        exact ⟨_, rfl, ⟨_, rfl, (by decide)⟩, rfl⟩
      · skip
        refine ex_iconst ok_X11_isGroup (mi 9 rfl) ?_
        refine ex_goto (tgt := 24) ok_X11_isGroup (mi 10 rfl) rfl ?_
        refine ex_zret ok_X11_isGroup (mi 12 rfl) rfl (by decide) ?_
        exact ⟨_, rfl, ⟨_, rfl, (by decide)⟩, rfl⟩
theorem s_X11_isSet {G : GE} (hst : (ge_l G).stackTraces = false) {x : Nat} {U : UT} {g : GT} (I : INV x U g) {p0 : Int32} : ex_M G 2 0 0 my_X11_isSet [.int p0] g (SVp g pZ) := by
  refine ex_M_of ok_X11_isSet cw_X11_isSet rfl hst (Nat.le_of_ble_eq_true rfl) ?_
  refine ex_iload_n ok_X11_isSet (mi 0 rfl) rfl ?_
  refine ex_if_le (tgt := 23) ok_X11_isSet (mi 1 rfl) rfl (fun h1 => ?_) (fun h1 => ?_)
  · skip
    refine ex_iconst ok_X11_isSet (mi 11 rfl) ?_
    refine ex_zret ok_X11_isSet (mi 12 rfl) rfl (by decide) ?_
    exact ⟨_, rfl, ⟨_, rfl, (by decide)⟩, rfl⟩
  · skip
    refine ex_iload_n ok_X11_isSet (mi 2 rfl) rfl ?_
    refine ex_sipush ok_X11_isSet (mi 3 rfl) ?_
    refine ex_icmp_ge (tgt := 23) ok_X11_isSet (mi 4 rfl) rfl (fun h8 => ?_) (fun h8 => ?_)
    · skip
      refine ex_iconst ok_X11_isSet (mi 11 rfl) ?_
      refine ex_zret ok_X11_isSet (mi 12 rfl) rfl (by decide) ?_
      exact ⟨_, rfl, ⟨_, rfl, (by decide)⟩, rfl⟩
    · skip
      refine ex_iload_n ok_X11_isSet (mi 5 rfl) rfl ?_
      refine sf_Sp (As := [_]) ok_X11_isSet (mi 6 rfl) rfl (s_J6_bitCount_0f7a4 hst I) rfl rfl rfl (by decide) (Nat.le_of_ble_eq_true rfl) (by decide) (fun z1 p3 => ?_)
      obtain ⟨v5, rfl⟩ := p3
      refine ex_iconst ok_X11_isSet (mi 7 rfl) ?_
      refine ex_icmp_ne (tgt := 23) ok_X11_isSet (mi 8 rfl) rfl (fun h16 => ?_) (fun h16 => ?_)
      · skip
        refine ex_iconst ok_X11_isSet (mi 11 rfl) ?_
        refine ex_zret ok_X11_isSet (mi 12 rfl) rfl (by decide) ?_
        exact ⟨_, rfl, ⟨_, rfl, (by decide)⟩, rfl⟩
      · skip
        refine ex_iconst ok_X11_isSet (mi 9 rfl) ?_
        refine ex_goto (tgt := 24) ok_X11_isSet (mi 10 rfl) rfl ?_
        refine ex_zret ok_X11_isSet (mi 12 rfl) rfl (by decide) ?_
        exact ⟨_, rfl, ⟨_, rfl, (by decide)⟩, rfl⟩
theorem s_X11_leaderAt {G : GE} (hst : (ge_l G).stackTraces = false) {x : Nat} {U : UT} {g : GT} (I : INV x U g) {p0 : Int32} : ex_M G 2 1 6 my_X11_leaderAt [.ref x, .int p0] g (SX x U [100] (pL x)) := by
  refine ex_M_of ok_X11_leaderAt cw_X11_leaderAt rfl hst (Nat.le_of_ble_eq_true rfl) ?_
  refine ex_iload_n ok_X11_leaderAt (mi 0 rfl) rfl ?_
  refine ex_iconst ok_X11_leaderAt (mi 1 rfl) ?_
  refine sf_req (n := 3) ok_X11_leaderAt (mi 2 rfl) rfl hst (by decide) (by decide) ⟨rfl, rfl, rfl⟩ rfl rfl (by decide) (Nat.le_of_ble_eq_true rfl) (by decide) (fun k => ⟨Or.inr ⟨100, by decide, rfl⟩, INV_Z I⟩) (fun hr1 => ?_)
  refine ex_aload_n ok_X11_leaderAt (mi 3 rfl) rfl ?_
  refine ex_getRx ok_X11_leaderAt (mi 4 rfl) rfl rfl (fk I.1 0 rfl) (fr I.1 12 rfl) (fk I.1 10 rfl) (by decide) ?_
  refine ex_iload_n ok_X11_leaderAt (mi 5 rfl) rfl ?_
  refine sf_leaders I ok_X11_leaderAt (mi 6 rfl) hr1 (fun m2 hm2 => ?_)
  refine ex_aret ok_X11_leaderAt (mi 7 rfl) rfl ?_
  exact ⟨Or.inl ⟨_, rfl, ⟨_, rfl, hm2⟩⟩, I⟩
theorem s_X11_requireUp {G : GE} (hst : (ge_l G).stackTraces = false) {x : Nat} {U : UT} {g : GT} (I : INV x U g) {p0 : Int32} : ex_M G 3 1 6 my_X11_requireUp [.ref x, .int p0] g (SX x U [102] pN) := by
  refine ex_M_of ok_X11_requireUp cw_X11_requireUp rfl hst (Nat.le_of_ble_eq_true rfl) ?_
  refine ex_aload_n ok_X11_requireUp (mi 0 rfl) rfl ?_
  refine ex_iconst ok_X11_requireUp (mi 1 rfl) ?_
  refine ex_iload_n ok_X11_requireUp (mi 2 rfl) rfl ?_
  refine sf_Vp (As := [_, _]) ok_X11_requireUp (mi 3 rfl) rfl (s_X11_isUp hst I) rfl (fk I.1 0 rfl) rfl rfl (by decide) (by decide) (Nat.le_of_ble_eq_true rfl) (by decide) (fun z1 p3 => ?_)
  obtain ⟨v5, rfl, hbv5⟩ := p3
  refine ex_if_ne (tgt := 20) ok_X11_requireUp (mi 4 rfl) rfl (fun h6 => ?_) (fun h6 => ?_)
  · skip
    refine ex_vret ok_X11_requireUp (mi 10 rfl) rfl ?_
    exact ⟨Or.inl ⟨_, rfl, rfl⟩, I⟩
  · skip
    refine ex_throwW (e := 102) ok_X11_requireUp (mi 5 rfl) (mi 6 rfl) (mi 7 rfl) (mi 8 rfl) (mi 9 rfl) (by decide) tx_256_260 (List.mem_of_getElem? (i := 2) rfl) rfl (by decide) (by decide) (Nat.le_of_ble_eq_true rfl) (fun n hn => ⟨Or.inr ⟨102, by decide, rfl⟩, INV_Z I⟩)
theorem s_X11_begin {G : GE} (hst : (ge_l G).stackTraces = false) {x : Nat} {U : UT} {g : GT} (I : INV x U g) {p0 : Int32} {p1 : Int32} {p2 : Int32} : ex_M G 7 4 24 my_X11_begin [.ref x, .int p0, .int p1, .int p2] g (SX x U [100, 101, 102] pI) := by
  refine ex_M_of ok_X11_begin cw_X11_begin rfl hst (Nat.le_of_ble_eq_true rfl) ?_
  refine ex_aload_n ok_X11_begin (mi 0 rfl) rfl ?_
  refine ex_iload_n ok_X11_begin (mi 1 rfl) rfl ?_
  refine sf_Vx (As := [_]) ok_X11_begin (mi 2 rfl) rfl (s_X11_leaderAt hst I) rfl (fk I.1 0 rfl) rfl rfl (by decide) (by decide) (Nat.le_of_ble_eq_true rfl) (by decide) (fun e' g' he I' => ⟨Or.inr ⟨e', by rw [List.mem_singleton] at he; subst he; decide, rfl⟩, I'⟩) (fun z1 g2 p3 J4 => ?_)
  obtain ⟨m5, rfl, hm5⟩ := p3
  refine ex_astore ok_X11_begin (mi 3 rfl) ?_
  refine ex_iload_n ok_X11_begin (mi 4 rfl) rfl ?_
  refine ex_iload_n ok_X11_begin (mi 5 rfl) rfl ?_
  refine sf_Sp (As := [_, _]) ok_X11_begin (mi 6 rfl) rfl (s_X11_isRoundOf hst J4) rfl rfl rfl (by decide) (Nat.le_of_ble_eq_true rfl) (by decide) (fun z6 p8 => ?_)
  obtain ⟨v10, rfl, hbv10, hfv10⟩ := p8
  refine ex_if_eq (tgt := 31) ok_X11_begin (mi 7 rfl) rfl (fun h12 => ?_) (fun h12 => ?_)
  · skip
    refine ex_throw (e := 101) ok_X11_begin (mi 15 rfl) (mi 16 rfl) (mi 17 rfl) (mi 18 rfl) (mi 19 rfl) (by decide) tx_85_89 (List.mem_of_getElem? (i := 1) rfl) rfl (by decide) (by decide) (Nat.le_of_ble_eq_true rfl) (fun n hn => ⟨Or.inr ⟨101, by decide, rfl⟩, INV_Z J4⟩)
  · skip
    refine ex_iload_n ok_X11_begin (mi 8 rfl) rfl ?_
    refine ex_aload ok_X11_begin (mi 9 rfl) rfl ?_
    refine sf_getI ok_X11_begin (mi 10 rfl) rfl rfl (fk (INV_5 J4 hm5).1 0 rfl) (fun v11 => ?_)
    refine ex_icmp_le (tgt := 31) ok_X11_begin (mi 11 rfl) rfl (fun h21 => ?_) (fun h21 => ?_)
    · skip
      refine ex_throw (e := 101) ok_X11_begin (mi 15 rfl) (mi 16 rfl) (mi 17 rfl) (mi 18 rfl) (mi 19 rfl) (by decide) tx_85_89 (List.mem_of_getElem? (i := 1) rfl) rfl (by decide) (by decide) (Nat.le_of_ble_eq_true rfl) (fun n hn => ⟨Or.inr ⟨101, by decide, rfl⟩, INV_Z J4⟩)
    · skip
      refine ex_iload_n ok_X11_begin (mi 12 rfl) rfl ?_
      refine sf_Sp (As := [_]) ok_X11_begin (mi 13 rfl) rfl (s_X11_isGroup hst J4) rfl rfl rfl (by decide) (Nat.le_of_ble_eq_true rfl) (by decide) (fun z12 p14 => ?_)
      obtain ⟨v16, rfl, hbv16⟩ := p14
      refine ex_if_ne (tgt := 41) ok_X11_begin (mi 14 rfl) rfl (fun h28 => ?_) (fun h28 => ?_)
      · skip
        refine ex_aload_n ok_X11_begin (mi 20 rfl) rfl ?_
        refine ex_iload_n ok_X11_begin (mi 21 rfl) rfl ?_
        refine sf_Vx (As := [_]) ok_X11_begin (mi 22 rfl) rfl (s_X11_requireUp hst J4) rfl (fk J4.1 0 rfl) rfl rfl (by decide) (by decide) (Nat.le_of_ble_eq_true rfl) (by decide) (fun e' g' he I' => ⟨Or.inr ⟨e', by rw [List.mem_singleton] at he; subst he; decide, rfl⟩, I'⟩) (fun z17 g18 p19 J20 => ?_)
        obtain rfl : z17 = none := p19
        refine ex_aload_n ok_X11_begin (mi 23 rfl) rfl ?_
        refine ex_getRx ok_X11_begin (mi 24 rfl) rfl rfl (fk J20.1 0 rfl) (fr J20.1 3 rfl) (fk J20.1 3 rfl) (by decide) ?_
        refine ex_iload_n ok_X11_begin (mi 25 rfl) rfl ?_
        refine ex_iload_n ok_X11_begin (mi 26 rfl) rfl ?_
        refine sf_iast J20 ok_X11_begin (mi 27 rfl) (fk J20.1 3 rfl) (fn J20.1 3 rfl) (hfv10 h12) ⟨⟨by omega, by omega⟩, by omega⟩ (fun g21 J22 => ?_)
        refine ex_aload_n ok_X11_begin (mi 28 rfl) rfl ?_
        refine ex_dup ok_X11_begin (mi 29 rfl) rfl ?_
        refine sf_getI ok_X11_begin (mi 30 rfl) rfl rfl (fk J22.1 0 rfl) (fun v23 => ?_)
        refine ex_iconst ok_X11_begin (mi 31 rfl) ?_
        refine ex_iadd ok_X11_begin (mi 32 rfl) ?_
        refine ex_gen (fun w24 => ?_)
        refine sf_putI J22 ok_X11_begin (mi 33 rfl) rfl rfl (by decide) (by decide) (by decide +kernel) (fk J22.1 0 rfl) ⟨by omega, by omega⟩ (fun g25 J26 => ?_)
        refine ex_aload ok_X11_begin (mi 34 rfl) rfl ?_
        refine ex_iload_n ok_X11_begin (mi 35 rfl) rfl ?_
        refine ex_iload_n ok_X11_begin (mi 36 rfl) rfl ?_
        refine sf_V (As := [_, _]) ok_X11_begin (mi 37 rfl) rfl (s_X5_beginRound hst J26 hm5) rfl (fk (INV_5 J26 hm5).1 0 rfl) rfl rfl (by decide) (by decide) (Nat.le_of_ble_eq_true rfl) (by decide) (fun z27 g28 p29 J30 => ?_)
        obtain rfl : z27 = none := p29
        refine ex_aload_n ok_X11_begin (mi 38 rfl) rfl ?_
        refine ex_getRx ok_X11_begin (mi 39 rfl) rfl rfl (fk J30.1 0 rfl) (fr J30.1 2 rfl) (fk J30.1 1 rfl) (by decide) ?_
        refine sf_getSz J30 ok_X11_begin (mi 40 rfl) rfl (fk J30.1 1 rfl) (fun hz31 => ?_)
        refine ex_iret ok_X11_begin (mi 41 rfl) rfl ?_
        exact ⟨Or.inl ⟨_, rfl, ⟨_, rfl⟩⟩, J30⟩
      · skip
        refine ex_throw (e := 101) ok_X11_begin (mi 15 rfl) (mi 16 rfl) (mi 17 rfl) (mi 18 rfl) (mi 19 rfl) (by decide) tx_85_89 (List.mem_of_getElem? (i := 1) rfl) rfl (by decide) (by decide) (Nat.le_of_ble_eq_true rfl) (fun n hn => ⟨Or.inr ⟨101, by decide, rfl⟩, INV_Z J4⟩)
theorem s_X11_propose {G : GE} (hst : (ge_l G).stackTraces = false) {x : Nat} {U : UT} {g : GT} (I : INV x U g) {p0 : Int32} {p1 : Int32} : ex_M G 4 4 24 my_X11_propose [.ref x, .int p0, .int p1] g (SX x U [100, 101, 102] pI) := by
  refine ex_M_of ok_X11_propose cw_X11_propose rfl hst (Nat.le_of_ble_eq_true rfl) ?_
  refine ex_aload_n ok_X11_propose (mi 0 rfl) rfl ?_
  refine ex_iload_n ok_X11_propose (mi 1 rfl) rfl ?_
  refine sf_Vx (As := [_]) ok_X11_propose (mi 2 rfl) rfl (s_X11_leaderAt hst I) rfl (fk I.1 0 rfl) rfl rfl (by decide) (by decide) (Nat.le_of_ble_eq_true rfl) (by decide) (fun e' g' he I' => ⟨Or.inr ⟨e', by rw [List.mem_singleton] at he; subst he; decide, rfl⟩, I'⟩) (fun z1 g2 p3 J4 => ?_)
  obtain ⟨m5, rfl, hm5⟩ := p3
  refine ex_astore_n ok_X11_propose (mi 3 rfl) ?_
  refine ex_iload_n ok_X11_propose (mi 4 rfl) rfl ?_
  refine ex_iconst ok_X11_propose (mi 5 rfl) ?_
  refine ex_icmp_lt (tgt := 17) ok_X11_propose (mi 6 rfl) rfl (fun h8 => ?_) (fun h8 => ?_)
  · skip
    refine ex_throw (e := 101) ok_X11_propose (mi 10 rfl) (mi 11 rfl) (mi 12 rfl) (mi 13 rfl) (mi 14 rfl) (by decide) tx_85_89 (List.mem_of_getElem? (i := 3) rfl) rfl (by decide) (by decide) (Nat.le_of_ble_eq_true rfl) (fun n hn => ⟨Or.inr ⟨101, by decide, rfl⟩, INV_Z J4⟩)
  · skip
    refine ex_iload_n ok_X11_propose (mi 7 rfl) rfl ?_
    refine ex_ldc ok_X11_propose (mi 8 rfl) rfl ?_
    refine ex_icmp_le (tgt := 27) ok_X11_propose (mi 9 rfl) rfl (fun h14 => ?_) (fun h14 => ?_)
    · skip
      refine ex_aload_n ok_X11_propose (mi 15 rfl) rfl ?_
      refine ex_iload_n ok_X11_propose (mi 16 rfl) rfl ?_
      refine sf_Vx (As := [_]) ok_X11_propose (mi 17 rfl) rfl (s_X11_requireUp hst J4) rfl (fk J4.1 0 rfl) rfl rfl (by decide) (by decide) (Nat.le_of_ble_eq_true rfl) (by decide) (fun e' g' he I' => ⟨Or.inr ⟨e', by rw [List.mem_singleton] at he; subst he; decide, rfl⟩, I'⟩) (fun z6 g7 p8 J9 => ?_)
      obtain rfl : z6 = none := p8
      refine ex_aload_n ok_X11_propose (mi 18 rfl) rfl ?_
      refine ex_iload_n ok_X11_propose (mi 19 rfl) rfl ?_
      refine sf_V (As := [_]) ok_X11_propose (mi 20 rfl) rfl (s_X5_proposeNext hst J9 hm5) rfl (fk (INV_5 J9 hm5).1 0 rfl) rfl rfl (by decide) (by decide) (Nat.le_of_ble_eq_true rfl) (by decide) (fun z10 g11 p12 J13 => ?_)
      obtain ⟨v14, rfl⟩ := p12
      refine ex_iret ok_X11_propose (mi 21 rfl) rfl ?_
      exact ⟨Or.inl ⟨_, rfl, ⟨_, rfl⟩⟩, J13⟩
    · skip
      refine ex_throw (e := 101) ok_X11_propose (mi 10 rfl) (mi 11 rfl) (mi 12 rfl) (mi 13 rfl) (mi 14 rfl) (by decide) tx_85_89 (List.mem_of_getElem? (i := 3) rfl) rfl (by decide) (by decide) (Nat.le_of_ble_eq_true rfl) (fun n hn => ⟨Or.inr ⟨101, by decide, rfl⟩, INV_Z J4⟩)
theorem s_X11_collect {G : GE} (hst : (ge_l G).stackTraces = false) {x : Nat} {U : UT} {g : GT} (I : INV x U g) {p0 : Int32} : ex_M G 4 4 24 my_X11_collect [.ref x, .int p0] g (SX x U [100, 102] pZ) := by
  refine ex_M_of ok_X11_collect cw_X11_collect rfl hst (Nat.le_of_ble_eq_true rfl) ?_
  refine ex_aload_n ok_X11_collect (mi 0 rfl) rfl ?_
  refine ex_iload_n ok_X11_collect (mi 1 rfl) rfl ?_
  refine sf_Vx (As := [_]) ok_X11_collect (mi 2 rfl) rfl (s_X11_leaderAt hst I) rfl (fk I.1 0 rfl) rfl rfl (by decide) (by decide) (Nat.le_of_ble_eq_true rfl) (by decide) (fun e' g' he I' => ⟨Or.inr ⟨e', by rw [List.mem_singleton] at he; subst he; decide, rfl⟩, I'⟩) (fun z1 g2 p3 J4 => ?_)
  obtain ⟨m5, rfl, hm5⟩ := p3
  refine ex_astore_n ok_X11_collect (mi 3 rfl) ?_
  refine ex_aload_n ok_X11_collect (mi 4 rfl) rfl ?_
  refine ex_iload_n ok_X11_collect (mi 5 rfl) rfl ?_
  refine sf_Vx (As := [_]) ok_X11_collect (mi 6 rfl) rfl (s_X11_requireUp hst J4) rfl (fk J4.1 0 rfl) rfl rfl (by decide) (by decide) (Nat.le_of_ble_eq_true rfl) (by decide) (fun e' g' he I' => ⟨Or.inr ⟨e', by rw [List.mem_singleton] at he; subst he; decide, rfl⟩, I'⟩) (fun z6 g7 p8 J9 => ?_)
  obtain rfl : z6 = none := p8
  refine ex_aload_n ok_X11_collect (mi 7 rfl) rfl ?_
  refine sf_V (As := []) ok_X11_collect (mi 8 rfl) rfl (s_X5_startCollecting hst J9 hm5) rfl (fk (INV_5 J9 hm5).1 0 rfl) rfl rfl (by decide) (by decide) (Nat.le_of_ble_eq_true rfl) (by decide) (fun z10 g11 p12 J13 => ?_)
  obtain ⟨v14, rfl, hbv14⟩ := p12
  refine ex_zret ok_X11_collect (mi 9 rfl) rfl hbv14 ?_
  exact ⟨Or.inl ⟨_, rfl, ⟨_, rfl, hbv14⟩⟩, J13⟩
theorem s_X11_reform {G : GE} (hst : (ge_l G).stackTraces = false) {x : Nat} {U : UT} {g : GT} (I : INV x U g) {p0 : Int32} {p1 : Int32} {p2 : Int32} : ex_M G 6 4 24 my_X11_reform [.ref x, .int p0, .int p1, .int p2] g (SX x U [100, 101, 102] pI) := by
  refine ex_M_of ok_X11_reform cw_X11_reform rfl hst (Nat.le_of_ble_eq_true rfl) ?_
  refine ex_aload_n ok_X11_reform (mi 0 rfl) rfl ?_
  refine ex_iload_n ok_X11_reform (mi 1 rfl) rfl ?_
  refine sf_Vx (As := [_]) ok_X11_reform (mi 2 rfl) rfl (s_X11_leaderAt hst I) rfl (fk I.1 0 rfl) rfl rfl (by decide) (by decide) (Nat.le_of_ble_eq_true rfl) (by decide) (fun e' g' he I' => ⟨Or.inr ⟨e', by rw [List.mem_singleton] at he; subst he; decide, rfl⟩, I'⟩) (fun z1 g2 p3 J4 => ?_)
  obtain ⟨m5, rfl, hm5⟩ := p3
  refine ex_astore ok_X11_reform (mi 3 rfl) ?_
  refine ex_iload_n ok_X11_reform (mi 4 rfl) rfl ?_
  refine ex_iload_n ok_X11_reform (mi 5 rfl) rfl ?_
  refine sf_Sp (As := [_, _]) ok_X11_reform (mi 6 rfl) rfl (s_X11_isRoundOf hst J4) rfl rfl rfl (by decide) (Nat.le_of_ble_eq_true rfl) (by decide) (fun z6 p8 => ?_)
  obtain ⟨v10, rfl, hbv10, hfv10⟩ := p8
  refine ex_if_eq (tgt := 34) ok_X11_reform (mi 7 rfl) rfl (fun h12 => ?_) (fun h12 => ?_)
  · skip
    refine ex_throw (e := 101) ok_X11_reform (mi 16 rfl) (mi 17 rfl) (mi 18 rfl) (mi 19 rfl) (mi 20 rfl) (by decide) tx_85_89 (List.mem_of_getElem? (i := 4) rfl) rfl (by decide) (by decide) (Nat.le_of_ble_eq_true rfl) (fun n hn => ⟨Or.inr ⟨101, by decide, rfl⟩, INV_Z J4⟩)
  · skip
    refine ex_iload_n ok_X11_reform (mi 8 rfl) rfl ?_
    refine ex_aload ok_X11_reform (mi 9 rfl) rfl ?_
    refine ex_getRx ok_X11_reform (mi 10 rfl) rfl rfl (fk (INV_5 J4 hm5).1 0 rfl) (fr (INV_5 J4 hm5).1 0 rfl) (fk (INV_5 J4 hm5).1 3 rfl) (by decide) ?_
    refine sf_getI ok_X11_reform (mi 11 rfl) rfl rfl (fk (INV_5 J4 hm5).1 3 rfl) (fun v11 => ?_)
    refine ex_icmp_le (tgt := 34) ok_X11_reform (mi 12 rfl) rfl (fun h24 => ?_) (fun h24 => ?_)
    · skip
      refine ex_throw (e := 101) ok_X11_reform (mi 16 rfl) (mi 17 rfl) (mi 18 rfl) (mi 19 rfl) (mi 20 rfl) (by decide) tx_85_89 (List.mem_of_getElem? (i := 4) rfl) rfl (by decide) (by decide) (Nat.le_of_ble_eq_true rfl) (fun n hn => ⟨Or.inr ⟨101, by decide, rfl⟩, INV_Z J4⟩)
    · skip
      refine ex_iload_n ok_X11_reform (mi 13 rfl) rfl ?_
      refine sf_Sp (As := [_]) ok_X11_reform (mi 14 rfl) rfl (s_X11_isSet hst J4) rfl rfl rfl (by decide) (Nat.le_of_ble_eq_true rfl) (by decide) (fun z12 p14 => ?_)
      obtain ⟨v16, rfl, hbv16⟩ := p14
      refine ex_if_ne (tgt := 44) ok_X11_reform (mi 15 rfl) rfl (fun h31 => ?_) (fun h31 => ?_)
      · skip
        refine ex_aload_n ok_X11_reform (mi 21 rfl) rfl ?_
        refine ex_iload_n ok_X11_reform (mi 22 rfl) rfl ?_
        refine sf_Vx (As := [_]) ok_X11_reform (mi 23 rfl) rfl (s_X11_requireUp hst J4) rfl (fk J4.1 0 rfl) rfl rfl (by decide) (by decide) (Nat.le_of_ble_eq_true rfl) (by decide) (fun e' g' he I' => ⟨Or.inr ⟨e', by rw [List.mem_singleton] at he; subst he; decide, rfl⟩, I'⟩) (fun z17 g18 p19 J20 => ?_)
        obtain rfl : z17 = none := p19
        refine ex_aload ok_X11_reform (mi 24 rfl) rfl ?_
        refine ex_getRx ok_X11_reform (mi 25 rfl) rfl rfl (fk (INV_5 J20 hm5).1 0 rfl) (fr (INV_5 J20 hm5).1 0 rfl) (fk (INV_5 J20 hm5).1 3 rfl) (by decide) ?_
        refine ex_iload_n ok_X11_reform (mi 26 rfl) rfl ?_
        refine ex_iload_n ok_X11_reform (mi 27 rfl) rfl ?_
        refine sf_V (As := [_, _]) ok_X11_reform (mi 28 rfl) rfl (s_X4_startReform hst J20 (LDR_kg hm5)) rfl (fk (INV_5 J20 hm5).1 3 rfl) rfl rfl (by decide) (by decide) (Nat.le_of_ble_eq_true rfl) (by decide) (fun z21 g22 p23 J24 => ?_)
        obtain rfl : z21 = none := p23
        refine ex_aload_n ok_X11_reform (mi 29 rfl) rfl ?_
        refine ex_getRx ok_X11_reform (mi 30 rfl) rfl rfl (fk J24.1 0 rfl) (fr J24.1 2 rfl) (fk J24.1 1 rfl) (by decide) ?_
        refine sf_getSz J24 ok_X11_reform (mi 31 rfl) rfl (fk J24.1 1 rfl) (fun hz25 => ?_)
        refine ex_iret ok_X11_reform (mi 32 rfl) rfl ?_
        exact ⟨Or.inl ⟨_, rfl, ⟨_, rfl⟩⟩, J24⟩
      · skip
        refine ex_throw (e := 101) ok_X11_reform (mi 16 rfl) (mi 17 rfl) (mi 18 rfl) (mi 19 rfl) (mi 20 rfl) (by decide) tx_85_89 (List.mem_of_getElem? (i := 4) rfl) rfl (by decide) (by decide) (Nat.le_of_ble_eq_true rfl) (fun n hn => ⟨Or.inr ⟨101, by decide, rfl⟩, INV_Z J4⟩)
theorem s_X11_again {G : GE} (hst : (ge_l G).stackTraces = false) {x : Nat} {U : UT} {g : GT} (I : INV x U g) {p0 : Int32} : ex_M G 5 4 24 my_X11_again [.ref x, .int p0] g (SX x U [100, 102] pI) := by
  refine ex_M_of ok_X11_again cw_X11_again rfl hst (Nat.le_of_ble_eq_true rfl) ?_
  refine ex_aload_n ok_X11_again (mi 0 rfl) rfl ?_
  refine ex_iload_n ok_X11_again (mi 1 rfl) rfl ?_
  refine sf_Vx (As := [_]) ok_X11_again (mi 2 rfl) rfl (s_X11_leaderAt hst I) rfl (fk I.1 0 rfl) rfl rfl (by decide) (by decide) (Nat.le_of_ble_eq_true rfl) (by decide) (fun e' g' he I' => ⟨Or.inr ⟨e', by rw [List.mem_singleton] at he; subst he; decide, rfl⟩, I'⟩) (fun z1 g2 p3 J4 => ?_)
  obtain ⟨m5, rfl, hm5⟩ := p3
  refine ex_astore_n ok_X11_again (mi 3 rfl) ?_
  refine ex_aload_n ok_X11_again (mi 4 rfl) rfl ?_
  refine ex_iload_n ok_X11_again (mi 5 rfl) rfl ?_
  refine sf_Vx (As := [_]) ok_X11_again (mi 6 rfl) rfl (s_X11_requireUp hst J4) rfl (fk J4.1 0 rfl) rfl rfl (by decide) (by decide) (Nat.le_of_ble_eq_true rfl) (by decide) (fun e' g' he I' => ⟨Or.inr ⟨e', by rw [List.mem_singleton] at he; subst he; decide, rfl⟩, I'⟩) (fun z6 g7 p8 J9 => ?_)
  obtain rfl : z6 = none := p8
  refine ex_aload_n ok_X11_again (mi 7 rfl) rfl ?_
  refine ex_getRx ok_X11_again (mi 8 rfl) rfl rfl (fk J9.1 0 rfl) (fr J9.1 2 rfl) (fk J9.1 1 rfl) (by decide) ?_
  refine sf_getI ok_X11_again (mi 9 rfl) rfl rfl (fk J9.1 1 rfl) (fun v10 => ?_)
  refine ex_istore_n ok_X11_again (mi 10 rfl) ?_
  refine ex_aload_n ok_X11_again (mi 11 rfl) rfl ?_
  refine sf_V (As := []) ok_X11_again (mi 12 rfl) rfl (s_X5_sendAgain hst J9 hm5) rfl (fk (INV_5 J9 hm5).1 0 rfl) rfl rfl (by decide) (by decide) (Nat.le_of_ble_eq_true rfl) (by decide) (fun z11 g12 p13 J14 => ?_)
  obtain rfl : z11 = none := p13
  refine ex_aload_n ok_X11_again (mi 13 rfl) rfl ?_
  refine ex_getRx ok_X11_again (mi 14 rfl) rfl rfl (fk J14.1 0 rfl) (fr J14.1 2 rfl) (fk J14.1 1 rfl) (by decide) ?_
  refine sf_getI ok_X11_again (mi 15 rfl) rfl rfl (fk J14.1 1 rfl) (fun v15 => ?_)
  refine ex_iload_n ok_X11_again (mi 16 rfl) rfl ?_
  refine ex_isub ok_X11_again (mi 17 rfl) ?_
  refine ex_gen (fun w16 => ?_)
  refine ex_iret ok_X11_again (mi 18 rfl) rfl ?_
  exact ⟨Or.inl ⟨_, rfl, ⟨_, rfl⟩⟩, J14⟩
theorem s_X11_twice {G : GE} (hst : (ge_l G).stackTraces = false) {x : Nat} {U : UT} {g : GT} (I : INV x U g) {p0 : Int32} : ex_M G 2 4 24 my_X11_twice [.ref x, .int p0] g (SX x U [100] pI) := by
  refine ex_M_of ok_X11_twice cw_X11_twice rfl hst (Nat.le_of_ble_eq_true rfl) ?_
  refine ex_iload_n ok_X11_twice (mi 0 rfl) rfl ?_
  refine ex_aload_n ok_X11_twice (mi 1 rfl) rfl ?_
  refine ex_getRx ok_X11_twice (mi 2 rfl) rfl rfl (fk I.1 0 rfl) (fr I.1 2 rfl) (fk I.1 1 rfl) (by decide) ?_
  refine sf_getSz I ok_X11_twice (mi 3 rfl) rfl (fk I.1 1 rfl) (fun hz1 => ?_)
  obtain ⟨nz3, hnz3, enz3⟩ := vp_in_of hz1 (by decide)
  refine sf_req (n := nz3) ok_X11_twice (mi 4 rfl) rfl hst (by omega) enz3 ⟨rfl, rfl, rfl⟩ rfl rfl (by decide) (Nat.le_of_ble_eq_true rfl) (by decide) (fun k => ⟨Or.inr ⟨100, by decide, rfl⟩, INV_Z I⟩) (fun hr2 => ?_)
  refine ex_aload_n ok_X11_twice (mi 5 rfl) rfl ?_
  refine ex_getRx ok_X11_twice (mi 6 rfl) rfl rfl (fk I.1 0 rfl) (fr I.1 2 rfl) (fk I.1 1 rfl) (by decide) ?_
  refine ex_iload_n ok_X11_twice (mi 7 rfl) rfl ?_
  refine sf_Vp (As := [_]) ok_X11_twice (mi 8 rfl) rfl (s_X0_at hst I (vp_mono (vp_mono (N := 400) hr2 (by omega)) (by decide))) rfl (fk I.1 1 rfl) rfl rfl (by decide) (by decide) (Nat.le_of_ble_eq_true rfl) (by decide) (fun z4 p6 => ?_)
  obtain ⟨m8, rfl, hm8⟩ := p6
  refine ex_astore_n ok_X11_twice (mi 9 rfl) ?_
  refine ex_aload_n ok_X11_twice (mi 10 rfl) rfl ?_
  refine ex_getRx ok_X11_twice (mi 11 rfl) rfl rfl (fk I.1 0 rfl) (fr I.1 2 rfl) (fk I.1 1 rfl) (by decide) ?_
  refine ex_aload_n ok_X11_twice (mi 12 rfl) rfl ?_
  refine ex_getI ok_X11_twice (mi 13 rfl) rfl rfl (fk (INV_6 I hm8) 0 rfl) ?_
  refine ex_aload_n ok_X11_twice (mi 14 rfl) rfl ?_
  refine ex_getI ok_X11_twice (mi 15 rfl) rfl rfl (fk (INV_6 I hm8) 0 rfl) ?_
  refine ex_aload_n ok_X11_twice (mi 16 rfl) rfl ?_
  refine ex_getI ok_X11_twice (mi 17 rfl) rfl rfl (fk (INV_6 I hm8) 0 rfl) ?_
  refine ex_aload_n ok_X11_twice (mi 18 rfl) rfl ?_
  refine ex_getI ok_X11_twice (mi 19 rfl) rfl rfl (fk (INV_6 I hm8) 0 rfl) ?_
  refine ex_aload_n ok_X11_twice (mi 20 rfl) rfl ?_
  refine ex_getI ok_X11_twice (mi 21 rfl) rfl rfl (fk (INV_6 I hm8) 0 rfl) ?_
  refine ex_aload_n ok_X11_twice (mi 22 rfl) rfl ?_
  refine ex_getI ok_X11_twice (mi 23 rfl) rfl rfl (fk (INV_6 I hm8) 0 rfl) ?_
  refine sf_V (As := [_, _, _, _, _, _]) ok_X11_twice (mi 24 rfl) rfl (s_X0_send hst I) rfl (fk I.1 1 rfl) rfl rfl (by decide) (by decide) (Nat.le_of_ble_eq_true rfl) (by decide) (fun z9 g10 p11 J12 => ?_)
  obtain ⟨m13, rfl, hm13⟩ := p11
  refine ex_astore_n ok_X11_twice (mi 25 rfl) ?_
  refine ex_aload_n ok_X11_twice (mi 26 rfl) rfl ?_
  refine ex_aload_n ok_X11_twice (mi 27 rfl) rfl ?_
  refine sf_V (As := [_]) ok_X11_twice (mi 28 rfl) rfl (s_X6_takeLoadOf hst J12 hm13 hm8) rfl (fk (INV_6 J12 hm13) 0 rfl) rfl rfl (by decide) (by decide) (Nat.le_of_ble_eq_true rfl) (by decide) (fun z14 g15 p16 J17 => ?_)
  obtain rfl : z14 = none := p16
  refine ex_aload_n ok_X11_twice (mi 29 rfl) rfl ?_
  refine ex_getRx ok_X11_twice (mi 30 rfl) rfl rfl (fk J17.1 0 rfl) (fr J17.1 2 rfl) (fk J17.1 1 rfl) (by decide) ?_
  refine sf_getSz J17 ok_X11_twice (mi 31 rfl) rfl (fk J17.1 1 rfl) (fun hz18 => ?_)
  refine ex_iret ok_X11_twice (mi 32 rfl) rfl ?_
  exact ⟨Or.inl ⟨_, rfl, ⟨_, rfl⟩⟩, J17⟩
theorem s_X11_message {G : GE} (hst : (ge_l G).stackTraces = false) {x : Nat} {U : UT} {g : GT} (I : INV x U g) {p0 : Int32} {p1 : Int32} : ex_M G 5 4 24 my_X11_message [.ref x, .int p0, .int p1] g (SX x U [100] pI) := by
  refine ex_M_of ok_X11_message cw_X11_message rfl hst (Nat.le_of_ble_eq_true rfl) ?_
  refine ex_iload_n ok_X11_message (mi 0 rfl) rfl ?_
  refine ex_aload_n ok_X11_message (mi 1 rfl) rfl ?_
  refine ex_getRx ok_X11_message (mi 2 rfl) rfl rfl (fk I.1 0 rfl) (fr I.1 2 rfl) (fk I.1 1 rfl) (by decide) ?_
  refine sf_getSz I ok_X11_message (mi 3 rfl) rfl (fk I.1 1 rfl) (fun hz1 => ?_)
  obtain ⟨nz3, hnz3, enz3⟩ := vp_in_of hz1 (by decide)
  refine sf_req (n := nz3) ok_X11_message (mi 4 rfl) rfl hst (by omega) enz3 ⟨rfl, rfl, rfl⟩ rfl rfl (by decide) (Nat.le_of_ble_eq_true rfl) (by decide) (fun k => ⟨Or.inr ⟨100, by decide, rfl⟩, INV_Z I⟩) (fun hr2 => ?_)
  refine ex_iload_n ok_X11_message (mi 5 rfl) rfl ?_
  refine ex_bipush ok_X11_message (mi 6 rfl) ?_
  refine sf_req (n := 9) ok_X11_message (mi 7 rfl) rfl hst (by decide) (by decide) ⟨rfl, rfl, rfl⟩ rfl rfl (by decide) (Nat.le_of_ble_eq_true rfl) (by decide) (fun k => ⟨Or.inr ⟨100, by decide, rfl⟩, INV_Z I⟩) (fun hr4 => ?_)
  refine ex_aload_n ok_X11_message (mi 8 rfl) rfl ?_
  refine ex_getRx ok_X11_message (mi 9 rfl) rfl rfl (fk I.1 0 rfl) (fr I.1 2 rfl) (fk I.1 1 rfl) (by decide) ?_
  refine ex_iload_n ok_X11_message (mi 10 rfl) rfl ?_
  refine sf_Vp (As := [_]) ok_X11_message (mi 11 rfl) rfl (s_X0_at hst I (vp_mono (vp_mono (N := 400) hr2 (by omega)) (by decide))) rfl (fk I.1 1 rfl) rfl rfl (by decide) (by decide) (Nat.le_of_ble_eq_true rfl) (by decide) (fun z5 p7 => ?_)
  obtain ⟨m9, rfl, hm9⟩ := p7
  refine ex_iload_n ok_X11_message (mi 12 rfl) rfl ?_
  refine sf_Vp (As := [_]) ok_X11_message (mi 13 rfl) rfl (s_X6_tell hst I hm9) rfl (fk (INV_6 I hm9) 0 rfl) rfl rfl (by decide) (by decide) (Nat.le_of_ble_eq_true rfl) (by decide) (fun z10 p12 => ?_)
  obtain ⟨v14, rfl⟩ := p12
  refine ex_iret ok_X11_message (mi 14 rfl) rfl ?_
  exact ⟨Or.inl ⟨_, rfl, ⟨_, rfl⟩⟩, I⟩
theorem s_X11_leader {G : GE} (hst : (ge_l G).stackTraces = false) {x : Nat} {U : UT} {g : GT} (I : INV x U g) {p0 : Int32} {p1 : Int32} : ex_M G 4 4 24 my_X11_leader [.ref x, .int p0, .int p1] g (SX x U [100] pI) := by
  refine ex_M_of ok_X11_leader cw_X11_leader rfl hst (Nat.le_of_ble_eq_true rfl) ?_
  refine ex_aload_n ok_X11_leader (mi 0 rfl) rfl ?_
  refine ex_iload_n ok_X11_leader (mi 1 rfl) rfl ?_
  refine sf_Vx (As := [_]) ok_X11_leader (mi 2 rfl) rfl (s_X11_leaderAt hst I) rfl (fk I.1 0 rfl) rfl rfl (by decide) (by decide) (Nat.le_of_ble_eq_true rfl) (by decide) (fun e' g' he I' => ⟨Or.inr ⟨e', by rw [List.mem_singleton] at he; subst he; decide, rfl⟩, I'⟩) (fun z1 g2 p3 J4 => ?_)
  obtain ⟨m5, rfl, hm5⟩ := p3
  refine ex_astore_n ok_X11_leader (mi 3 rfl) ?_
  refine ex_iload_n ok_X11_leader (mi 4 rfl) rfl ?_
  refine ex_bipush ok_X11_leader (mi 5 rfl) ?_
  refine sf_req (n := 14) ok_X11_leader (mi 6 rfl) rfl hst (by decide) (by decide) ⟨rfl, rfl, rfl⟩ rfl rfl (by decide) (Nat.le_of_ble_eq_true rfl) (by decide) (fun k => ⟨Or.inr ⟨100, by decide, rfl⟩, INV_Z J4⟩) (fun hr6 => ?_)
  refine ex_aload_n ok_X11_leader (mi 7 rfl) rfl ?_
  refine ex_iload_n ok_X11_leader (mi 8 rfl) rfl ?_
  refine sf_Vp (As := [_]) ok_X11_leader (mi 9 rfl) rfl (s_X5_tell hst J4 hm5) rfl (fk (INV_5 J4 hm5).1 0 rfl) rfl rfl (by decide) (by decide) (Nat.le_of_ble_eq_true rfl) (by decide) (fun z7 p9 => ?_)
  obtain ⟨v11, rfl⟩ := p9
  refine ex_iret ok_X11_leader (mi 10 rfl) rfl ?_
  exact ⟨Or.inl ⟨_, rfl, ⟨_, rfl⟩⟩, J4⟩
theorem s_X11_slot {G : GE} (hst : (ge_l G).stackTraces = false) {x : Nat} {U : UT} {g : GT} (I : INV x U g) {p0 : Int32} {p1 : Int32} {p2 : Int32} : ex_M G 3 4 24 my_X11_slot [.ref x, .int p0, .int p1, .int p2] g (SX x U [100] pI) := by
  refine ex_M_of ok_X11_slot cw_X11_slot rfl hst (Nat.le_of_ble_eq_true rfl) ?_
  refine ex_aload_n ok_X11_slot (mi 0 rfl) rfl ?_
  refine ex_iload_n ok_X11_slot (mi 1 rfl) rfl ?_
  refine sf_Vx (As := [_]) ok_X11_slot (mi 2 rfl) rfl (s_X11_leaderAt hst I) rfl (fk I.1 0 rfl) rfl rfl (by decide) (by decide) (Nat.le_of_ble_eq_true rfl) (by decide) (fun e' g' he I' => ⟨Or.inr ⟨e', by rw [List.mem_singleton] at he; subst he; decide, rfl⟩, I'⟩) (fun z1 g2 p3 J4 => ?_)
  obtain ⟨m5, rfl, hm5⟩ := p3
  refine ex_astore ok_X11_slot (mi 3 rfl) ?_
  refine ex_iload_n ok_X11_slot (mi 4 rfl) rfl ?_
  refine ex_bipush ok_X11_slot (mi 5 rfl) ?_
  refine sf_req (n := 16) ok_X11_slot (mi 6 rfl) rfl hst (by decide) (by decide) ⟨rfl, rfl, rfl⟩ rfl rfl (by decide) (Nat.le_of_ble_eq_true rfl) (by decide) (fun k => ⟨Or.inr ⟨100, by decide, rfl⟩, INV_Z J4⟩) (fun hr6 => ?_)
  refine ex_iload_n ok_X11_slot (mi 7 rfl) rfl ?_
  refine ex_iconst ok_X11_slot (mi 8 rfl) ?_
  refine sf_req (n := 4) ok_X11_slot (mi 9 rfl) rfl hst (by decide) (by decide) ⟨rfl, rfl, rfl⟩ rfl rfl (by decide) (Nat.le_of_ble_eq_true rfl) (by decide) (fun k => ⟨Or.inr ⟨100, by decide, rfl⟩, INV_Z J4⟩) (fun hr7 => ?_)
  refine ex_iload_n ok_X11_slot (mi 10 rfl) rfl ?_
  refine ex_if_ne (tgt := 33) ok_X11_slot (mi 11 rfl) rfl (fun h19 => ?_) (fun h19 => ?_)
  · skip
    refine ex_aload ok_X11_slot (mi 18 rfl) rfl ?_
    refine ex_getRx ok_X11_slot (mi 19 rfl) rfl rfl (fk (INV_5 J4 hm5).1 0 rfl) (fr (INV_5 J4 hm5).1 1 rfl) (fk (INV_5 J4 hm5).1 5 rfl) (by decide) ?_
    refine ex_iload_n ok_X11_slot (mi 20 rfl) rfl ?_
    refine ex_iload_n ok_X11_slot (mi 21 rfl) rfl ?_
    refine sf_Vp (As := [_, _]) ok_X11_slot (mi 22 rfl) rfl (s_X8_tell hst J4 (LDR_sl hm5)) rfl (fk (INV_5 J4 hm5).1 5 rfl) rfl rfl (by decide) (by decide) (Nat.le_of_ble_eq_true rfl) (by decide) (fun z8 p10 => ?_)
    obtain ⟨v12, rfl⟩ := p10
    refine ex_iret ok_X11_slot (mi 23 rfl) rfl ?_
    exact ⟨Or.inl ⟨_, rfl, ⟨_, rfl⟩⟩, J4⟩
  · skip
    refine ex_aload ok_X11_slot (mi 12 rfl) rfl ?_
    refine sf_getI ok_X11_slot (mi 13 rfl) rfl rfl (fk (INV_5 J4 hm5).1 0 rfl) (fun v13 => ?_)
    refine ex_iconst ok_X11_slot (mi 14 rfl) ?_
    refine ex_icmp_eq (tgt := 33) ok_X11_slot (mi 15 rfl) rfl (fun h28 => ?_) (fun h28 => ?_)
    · skip
      refine ex_aload ok_X11_slot (mi 18 rfl) rfl ?_
      refine ex_getRx ok_X11_slot (mi 19 rfl) rfl rfl (fk (INV_5 J4 hm5).1 0 rfl) (fr (INV_5 J4 hm5).1 1 rfl) (fk (INV_5 J4 hm5).1 5 rfl) (by decide) ?_
      refine ex_iload_n ok_X11_slot (mi 20 rfl) rfl ?_
      refine ex_iload_n ok_X11_slot (mi 21 rfl) rfl ?_
      refine sf_Vp (As := [_, _]) ok_X11_slot (mi 22 rfl) rfl (s_X8_tell hst J4 (LDR_sl hm5)) rfl (fk (INV_5 J4 hm5).1 5 rfl) rfl rfl (by decide) (by decide) (Nat.le_of_ble_eq_true rfl) (by decide) (fun z14 p16 => ?_)
      obtain ⟨v18, rfl⟩ := p16
      refine ex_iret ok_X11_slot (mi 23 rfl) rfl ?_
      exact ⟨Or.inl ⟨_, rfl, ⟨_, rfl⟩⟩, J4⟩
    · skip
      refine ex_iconst ok_X11_slot (mi 16 rfl) ?_
      refine ex_iret ok_X11_slot (mi 17 rfl) rfl ?_
      exact ⟨Or.inl ⟨_, rfl, ⟨_, rfl⟩⟩, J4⟩
theorem s_X11_keeper {G : GE} (hst : (ge_l G).stackTraces = false) {x : Nat} {U : UT} {g : GT} (I : INV x U g) {p0 : Int32} {p1 : Int32} : ex_M G 4 4 24 my_X11_keeper [.ref x, .int p0, .int p1] g (SX x U [100] pI) := by
  refine ex_M_of ok_X11_keeper cw_X11_keeper rfl hst (Nat.le_of_ble_eq_true rfl) ?_
  refine ex_iload_n ok_X11_keeper (mi 0 rfl) rfl ?_
  refine ex_bipush ok_X11_keeper (mi 1 rfl) ?_
  refine sf_req (n := 9) ok_X11_keeper (mi 2 rfl) rfl hst (by decide) (by decide) ⟨rfl, rfl, rfl⟩ rfl rfl (by decide) (Nat.le_of_ble_eq_true rfl) (by decide) (fun k => ⟨Or.inr ⟨100, by decide, rfl⟩, INV_Z I⟩) (fun hr1 => ?_)
  refine ex_iload_n ok_X11_keeper (mi 3 rfl) rfl ?_
  refine ex_bipush ok_X11_keeper (mi 4 rfl) ?_
  refine sf_req (n := 8) ok_X11_keeper (mi 5 rfl) rfl hst (by decide) (by decide) ⟨rfl, rfl, rfl⟩ rfl rfl (by decide) (Nat.le_of_ble_eq_true rfl) (by decide) (fun k => ⟨Or.inr ⟨100, by decide, rfl⟩, INV_Z I⟩) (fun hr2 => ?_)
  refine ex_aload_n ok_X11_keeper (mi 6 rfl) rfl ?_
  refine ex_getRx ok_X11_keeper (mi 7 rfl) rfl rfl (fk I.1 0 rfl) (fr I.1 55 rfl) (fk I.1 44 rfl) (by decide) ?_
  refine ex_iload_n ok_X11_keeper (mi 8 rfl) rfl ?_
  refine sf_keepers I ok_X11_keeper (mi 9 rfl) hr1 (fun m3 hm3 => ?_)
  refine ex_iload_n ok_X11_keeper (mi 10 rfl) rfl ?_
  refine sf_Vp (As := [_]) ok_X11_keeper (mi 11 rfl) rfl (s_X3_tell hst I hm3) rfl (fk (INV_3 I hm3).1 0 rfl) rfl rfl (by decide) (by decide) (Nat.le_of_ble_eq_true rfl) (by decide) (fun z4 p6 => ?_)
  obtain ⟨v8, rfl⟩ := p6
  refine ex_iret ok_X11_keeper (mi 12 rfl) rfl ?_
  exact ⟨Or.inl ⟨_, rfl, ⟨_, rfl⟩⟩, I⟩
theorem s_X11_entry {G : GE} (hst : (ge_l G).stackTraces = false) {x : Nat} {U : UT} {g : GT} (I : INV x U g) {p0 : Int32} {p1 : Int32} {p2 : Int32} : ex_M G 3 4 24 my_X11_entry [.ref x, .int p0, .int p1, .int p2] g (SX x U [100] pI) := by
  refine ex_M_of ok_X11_entry cw_X11_entry rfl hst (Nat.le_of_ble_eq_true rfl) ?_
  refine ex_iload_n ok_X11_entry (mi 0 rfl) rfl ?_
  refine ex_bipush ok_X11_entry (mi 1 rfl) ?_
  refine sf_req (n := 9) ok_X11_entry (mi 2 rfl) rfl hst (by decide) (by decide) ⟨rfl, rfl, rfl⟩ rfl rfl (by decide) (Nat.le_of_ble_eq_true rfl) (by decide) (fun k => ⟨Or.inr ⟨100, by decide, rfl⟩, INV_Z I⟩) (fun hr1 => ?_)
  refine ex_aload_n ok_X11_entry (mi 3 rfl) rfl ?_
  refine ex_getRx ok_X11_entry (mi 4 rfl) rfl rfl (fk I.1 0 rfl) (fr I.1 55 rfl) (fk I.1 44 rfl) (by decide) ?_
  refine ex_iload_n ok_X11_entry (mi 5 rfl) rfl ?_
  refine sf_keepers I ok_X11_entry (mi 6 rfl) hr1 (fun m2 hm2 => ?_)
  refine ex_getRx ok_X11_entry (mi 7 rfl) rfl rfl (fk (INV_3 I hm2).1 0 rfl) (fr (INV_3 I hm2).1 0 rfl) (fk (INV_3 I hm2).1 1 rfl) (by decide) ?_
  refine ex_iload_n ok_X11_entry (mi 8 rfl) rfl ?_
  refine sf_Sp (As := [_, _]) ok_X11_entry (mi 9 rfl) rfl (s_X7_at hst I (KPR_rd hm2)) rfl rfl rfl (by decide) (Nat.le_of_ble_eq_true rfl) (by decide) (fun z3 p5 => ?_)
  obtain ⟨v7, rfl⟩ := p5
  refine ex_istore ok_X11_entry (mi 10 rfl) ?_
  refine ex_iload ok_X11_entry (mi 11 rfl) rfl ?_
  refine ex_sipush ok_X11_entry (mi 12 rfl) ?_
  refine sf_req (n := 300) ok_X11_entry (mi 13 rfl) rfl hst (by decide) (by decide) ⟨rfl, rfl, rfl⟩ rfl rfl (by decide) (Nat.le_of_ble_eq_true rfl) (by decide) (fun k => ⟨Or.inr ⟨100, by decide, rfl⟩, INV_Z I⟩) (fun hr8 => ?_)
  refine ex_iload_n ok_X11_entry (mi 14 rfl) rfl ?_
  refine ex_if_eq (tgt := 43) ok_X11_entry (mi 15 rfl) rfl (fun h30 => ?_) (fun h30 => ?_)
  · skip
    refine ex_iload ok_X11_entry (mi 21 rfl) rfl ?_
    refine ex_iret ok_X11_entry (mi 22 rfl) rfl ?_
    exact ⟨Or.inl ⟨_, rfl, ⟨_, rfl⟩⟩, I⟩
  · skip
    refine ex_aload_n ok_X11_entry (mi 16 rfl) rfl ?_
    refine ex_getRx ok_X11_entry (mi 17 rfl) rfl rfl (fk I.1 0 rfl) (fr I.1 3 rfl) (fk I.1 3 rfl) (by decide) ?_
    refine ex_iload ok_X11_entry (mi 18 rfl) rfl ?_
    refine sf_iald ok_X11_entry (mi 19 rfl) (fk I.1 3 rfl) (fn I.1 3 rfl) hr8 (fun v9 => ?_)
    refine ex_goto (tgt := 45) ok_X11_entry (mi 20 rfl) rfl ?_
    refine ex_iret ok_X11_entry (mi 22 rfl) rfl ?_
    exact ⟨Or.inl ⟨_, rfl, ⟨_, rfl⟩⟩, I⟩
theorem s_X11_voter {G : GE} (hst : (ge_l G).stackTraces = false) {x : Nat} {U : UT} {g : GT} (I : INV x U g) {p0 : Int32} {p1 : Int32} : ex_M G 3 4 24 my_X11_voter [.ref x, .int p0, .int p1] g (SX x U [100] pI) := by
  refine ex_M_of ok_X11_voter cw_X11_voter rfl hst (Nat.le_of_ble_eq_true rfl) ?_
  refine ex_iload_n ok_X11_voter (mi 0 rfl) rfl ?_
  refine ex_bipush ok_X11_voter (mi 1 rfl) ?_
  refine sf_req (n := 12) ok_X11_voter (mi 2 rfl) rfl hst (by decide) (by decide) ⟨rfl, rfl, rfl⟩ rfl rfl (by decide) (Nat.le_of_ble_eq_true rfl) (by decide) (fun k => ⟨Or.inr ⟨100, by decide, rfl⟩, INV_Z I⟩) (fun hr1 => ?_)
  refine ex_iload_n ok_X11_voter (mi 3 rfl) rfl ?_
  refine ex_iconst ok_X11_voter (mi 4 rfl) ?_
  refine sf_req (n := 3) ok_X11_voter (mi 5 rfl) rfl hst (by decide) (by decide) ⟨rfl, rfl, rfl⟩ rfl rfl (by decide) (Nat.le_of_ble_eq_true rfl) (by decide) (fun k => ⟨Or.inr ⟨100, by decide, rfl⟩, INV_Z I⟩) (fun hr2 => ?_)
  refine ex_aload_n ok_X11_voter (mi 6 rfl) rfl ?_
  refine ex_getRx ok_X11_voter (mi 7 rfl) rfl rfl (fk I.1 0 rfl) (fr I.1 83 rfl) (fk I.1 63 rfl) (by decide) ?_
  refine ex_iload_n ok_X11_voter (mi 8 rfl) rfl ?_
  refine sf_voters I ok_X11_voter (mi 9 rfl) hr1 (fun m3 hm3 => ?_)
  refine ex_iload_n ok_X11_voter (mi 10 rfl) rfl ?_
  refine sf_Vp (As := [_]) ok_X11_voter (mi 11 rfl) rfl (s_X10_tell hst I hm3) rfl (fk (INV_10 I hm3).1 0 rfl) rfl rfl (by decide) (by decide) (Nat.le_of_ble_eq_true rfl) (by decide) (fun z4 p6 => ?_)
  obtain ⟨v8, rfl⟩ := p6
  refine ex_iret ok_X11_voter (mi 12 rfl) rfl ?_
  exact ⟨Or.inl ⟨_, rfl, ⟨_, rfl⟩⟩, I⟩
theorem s_X11_vote {G : GE} (hst : (ge_l G).stackTraces = false) {x : Nat} {U : UT} {g : GT} (I : INV x U g) {p0 : Int32} {p1 : Int32} {p2 : Int32} : ex_M G 2 4 24 my_X11_vote [.ref x, .int p0, .int p1, .int p2] g (SX x U [100] pI) := by
  refine ex_M_of ok_X11_vote cw_X11_vote rfl hst (Nat.le_of_ble_eq_true rfl) ?_
  refine ex_iload_n ok_X11_vote (mi 0 rfl) rfl ?_
  refine ex_bipush ok_X11_vote (mi 1 rfl) ?_
  refine sf_req (n := 12) ok_X11_vote (mi 2 rfl) rfl hst (by decide) (by decide) ⟨rfl, rfl, rfl⟩ rfl rfl (by decide) (Nat.le_of_ble_eq_true rfl) (by decide) (fun k => ⟨Or.inr ⟨100, by decide, rfl⟩, INV_Z I⟩) (fun hr1 => ?_)
  refine ex_iload_n ok_X11_vote (mi 3 rfl) rfl ?_
  refine ex_bipush ok_X11_vote (mi 4 rfl) ?_
  refine sf_req (n := 16) ok_X11_vote (mi 5 rfl) rfl hst (by decide) (by decide) ⟨rfl, rfl, rfl⟩ rfl rfl (by decide) (Nat.le_of_ble_eq_true rfl) (by decide) (fun k => ⟨Or.inr ⟨100, by decide, rfl⟩, INV_Z I⟩) (fun hr2 => ?_)
  refine ex_aload_n ok_X11_vote (mi 6 rfl) rfl ?_
  refine ex_getRx ok_X11_vote (mi 7 rfl) rfl rfl (fk I.1 0 rfl) (fr I.1 83 rfl) (fk I.1 63 rfl) (by decide) ?_
  refine ex_iload_n ok_X11_vote (mi 8 rfl) rfl ?_
  refine sf_voters I ok_X11_vote (mi 9 rfl) hr1 (fun m3 hm3 => ?_)
  refine ex_getRx ok_X11_vote (mi 10 rfl) rfl rfl (fk (INV_10 I hm3).1 0 rfl) (fr (INV_10 I hm3).1 0 rfl) (fk (INV_10 I hm3).1 1 rfl) (by decide) ?_
  refine ex_iload_n ok_X11_vote (mi 11 rfl) rfl ?_
  refine sf_iald ok_X11_vote (mi 12 rfl) (fk (INV_10 I hm3).1 1 rfl) (fn (INV_10 I hm3).1 1 rfl) hr2 (fun v4 => ?_)
  refine ex_istore ok_X11_vote (mi 13 rfl) ?_
  refine ex_iload_n ok_X11_vote (mi 14 rfl) rfl ?_
  refine ex_if_eq (tgt := 37) ok_X11_vote (mi 15 rfl) rfl (fun h26 => ?_) (fun h26 => ?_)
  · skip
    refine ex_iload ok_X11_vote (mi 19 rfl) rfl ?_
    refine sf_Sp (As := [_]) ok_X11_vote (mi 20 rfl) rfl (s_X10_roundOf hst I) rfl rfl rfl (by decide) (Nat.le_of_ble_eq_true rfl) (by decide) (fun z5 p7 => ?_)
    obtain ⟨v9, rfl⟩ := p7
    refine ex_iret ok_X11_vote (mi 21 rfl) rfl ?_
    exact ⟨Or.inl ⟨_, rfl, ⟨_, rfl⟩⟩, I⟩
  · skip
    refine ex_iload ok_X11_vote (mi 16 rfl) rfl ?_
    refine sf_Sp (As := [_]) ok_X11_vote (mi 17 rfl) rfl (s_X10_valueOf hst I) rfl rfl rfl (by decide) (Nat.le_of_ble_eq_true rfl) (by decide) (fun z10 p12 => ?_)
    obtain ⟨v14, rfl⟩ := p12
    refine ex_goto (tgt := 42) ok_X11_vote (mi 18 rfl) rfl ?_
    refine ex_iret ok_X11_vote (mi 21 rfl) rfl ?_
    exact ⟨Or.inl ⟨_, rfl, ⟨_, rfl⟩⟩, I⟩
theorem s_X11_copy {G : GE} (hst : (ge_l G).stackTraces = false) {x : Nat} {U : UT} {g : GT} (I : INV x U g) {p0 : Int32} {p1 : Int32} : ex_M G 2 4 24 my_X11_copy [.ref x, .int p0, .int p1] g (SX x U [100] pI) := by
  refine ex_M_of ok_X11_copy cw_X11_copy rfl hst (Nat.le_of_ble_eq_true rfl) ?_
  refine ex_iload_n ok_X11_copy (mi 0 rfl) rfl ?_
  refine ex_iconst ok_X11_copy (mi 1 rfl) ?_
  refine sf_req (n := 3) ok_X11_copy (mi 2 rfl) rfl hst (by decide) (by decide) ⟨rfl, rfl, rfl⟩ rfl rfl (by decide) (Nat.le_of_ble_eq_true rfl) (by decide) (fun k => ⟨Or.inr ⟨100, by decide, rfl⟩, INV_Z I⟩) (fun hr1 => ?_)
  refine ex_iload_n ok_X11_copy (mi 3 rfl) rfl ?_
  refine ex_bipush ok_X11_copy (mi 4 rfl) ?_
  refine sf_req (n := 16) ok_X11_copy (mi 5 rfl) rfl hst (by decide) (by decide) ⟨rfl, rfl, rfl⟩ rfl rfl (by decide) (Nat.le_of_ble_eq_true rfl) (by decide) (fun k => ⟨Or.inr ⟨100, by decide, rfl⟩, INV_Z I⟩) (fun hr2 => ?_)
  refine ex_aload_n ok_X11_copy (mi 6 rfl) rfl ?_
  refine ex_getRx ok_X11_copy (mi 7 rfl) rfl rfl (fk I.1 0 rfl) (fr I.1 10 rfl) (fk I.1 7 rfl) (by decide) ?_
  refine ex_getRx ok_X11_copy (mi 8 rfl) rfl rfl (fk I.1 7 rfl) (fr I.1 8 rfl) (fk I.1 8 rfl) (by decide) ?_
  refine ex_iload_n ok_X11_copy (mi 9 rfl) rfl ?_
  refine ex_bipush ok_X11_copy (mi 10 rfl) ?_
  refine ex_imul ok_X11_copy (mi 11 rfl) ?_
  refine ex_iload_n ok_X11_copy (mi 12 rfl) rfl ?_
  refine ex_iadd ok_X11_copy (mi 13 rfl) ?_
  refine sf_iald ok_X11_copy (mi 14 rfl) (fk I.1 8 rfl) (fn I.1 8 rfl) (w48v hr1 hr2) (fun v3 => ?_)
  refine ex_iret ok_X11_copy (mi 15 rfl) rfl ?_
  exact ⟨Or.inl ⟨_, rfl, ⟨_, rfl⟩⟩, I⟩
