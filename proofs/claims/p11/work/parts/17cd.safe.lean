theorem s_X4_receiveSeeded {G : GE} (hst : (ge_l G).stackTraces = false) {x : Nat} {U : UT} {g : GT} (I : INV x U g) {a : Nat} (ha : KGR x a) {m0 : Nat} (hm0 : MSR x m0) : ex_M G 4 0 0 my_X4_receiveSeeded [.ref a, .ref m0] g (SV x U pN) := by
  refine ex_M_of ok_X4_receiveSeeded cw_X4_receiveSeeded rfl hst (Nat.le_of_ble_eq_true rfl) ?_
  refine ex_aload_n ok_X4_receiveSeeded (mi 0 rfl) rfl ?_
  refine sf_getI ok_X4_receiveSeeded (mi 1 rfl) rfl rfl (fk (INV_4 I ha).1 0 rfl) (fun v1 => ?_)
  refine ex_iconst ok_X4_receiveSeeded (mi 2 rfl) ?_
  refine ex_icmp_ne (tgt := 21) ok_X4_receiveSeeded (mi 3 rfl) rfl (fun h5 => ?_) (fun h5 => ?_)
  · skip
    refine ex_vret ok_X4_receiveSeeded (mi 11 rfl) rfl ?_
    exact ⟨_, rfl, rfl, I⟩
  · skip
    refine ex_aload_n ok_X4_receiveSeeded (mi 4 rfl) rfl ?_
    refine ex_getI ok_X4_receiveSeeded (mi 5 rfl) rfl rfl (fk (INV_6 I hm0) 0 rfl) ?_
    refine ex_aload_n ok_X4_receiveSeeded (mi 6 rfl) rfl ?_
    refine sf_getI ok_X4_receiveSeeded (mi 7 rfl) rfl rfl (fk (INV_4 I ha).1 0 rfl) (fun v2 => ?_)
    refine ex_iconst ok_X4_receiveSeeded (mi 8 rfl) ?_
    refine ex_iadd ok_X4_receiveSeeded (mi 9 rfl) ?_
    refine ex_gen (fun w3 => ?_)
    refine ex_icmp_eq (tgt := 22) ok_X4_receiveSeeded (mi 10 rfl) rfl (fun h18 => ?_) (fun h18 => ?_)
    · skip
      refine ex_aload_n ok_X4_receiveSeeded (mi 12 rfl) rfl ?_
      refine ex_dup ok_X4_receiveSeeded (mi 13 rfl) rfl ?_
      refine sf_getI ok_X4_receiveSeeded (mi 14 rfl) rfl rfl (fk (INV_4 I ha).1 0 rfl) (fun v4 => ?_)
      refine ex_iconst ok_X4_receiveSeeded (mi 15 rfl) ?_
      refine ex_aload_n ok_X4_receiveSeeded (mi 16 rfl) rfl ?_
      refine ex_getI ok_X4_receiveSeeded (mi 17 rfl) rfl rfl (fk (INV_6 I hm0) 0 rfl) ?_
      refine ex_ishl ok_X4_receiveSeeded (mi 18 rfl) ?_
      refine ex_gen (fun w5 => ?_)
      refine ex_ior ok_X4_receiveSeeded (mi 19 rfl) ?_
      refine ex_gen (fun w6 => ?_)
      refine sf_putI I ok_X4_receiveSeeded (mi 20 rfl) rfl rfl (by decide) (by decide) (by decide +kernel) (fk (INV_4 I ha).1 0 rfl) (KGR_ne ha 0 (by decide)).1 (fun g7 J8 => ?_)
      refine ex_aload_n ok_X4_receiveSeeded (mi 21 rfl) rfl ?_
      refine sf_getI ok_X4_receiveSeeded (mi 22 rfl) rfl rfl (fk (INV_4 J8 ha).1 0 rfl) (fun v9 => ?_)
      refine ex_aload_n ok_X4_receiveSeeded (mi 23 rfl) rfl ?_
      refine sf_getI ok_X4_receiveSeeded (mi 24 rfl) rfl rfl (fk (INV_4 J8 ha).1 0 rfl) (fun v10 => ?_)
      refine ex_iand ok_X4_receiveSeeded (mi 25 rfl) ?_
      refine ex_gen (fun w11 => ?_)
      refine ex_aload_n ok_X4_receiveSeeded (mi 26 rfl) rfl ?_
      refine sf_getI ok_X4_receiveSeeded (mi 27 rfl) rfl rfl (fk (INV_4 J8 ha).1 0 rfl) (fun v12 => ?_)
      refine ex_icmp_ne (tgt := 67) ok_X4_receiveSeeded (mi 28 rfl) rfl (fun h50 => ?_) (fun h50 => ?_)
      · skip
        refine ex_vret ok_X4_receiveSeeded (mi 37 rfl) rfl ?_
        exact ⟨_, rfl, rfl, J8⟩
      · skip
        refine ex_aload_n ok_X4_receiveSeeded (mi 29 rfl) rfl ?_
        refine ex_iconst ok_X4_receiveSeeded (mi 30 rfl) ?_
        refine sf_putI J8 ok_X4_receiveSeeded (mi 31 rfl) rfl rfl (by decide) (by decide) (by decide +kernel) (fk (INV_4 J8 ha).1 0 rfl) (KGR_ne ha 0 (by decide)).1 (fun g13 J14 => ?_)
        refine ex_aload_n ok_X4_receiveSeeded (mi 32 rfl) rfl ?_
        refine ex_iconst ok_X4_receiveSeeded (mi 33 rfl) ?_
        refine sf_putI J14 ok_X4_receiveSeeded (mi 34 rfl) rfl rfl (by decide) (by decide) (by decide +kernel) (fk (INV_4 J14 ha).1 0 rfl) (KGR_ne ha 0 (by decide)).1 (fun g15 J16 => ?_)
        refine ex_aload_n ok_X4_receiveSeeded (mi 35 rfl) rfl ?_
        refine sf_V (As := []) ok_X4_receiveSeeded (mi 36 rfl) rfl (s_X4_sendStep hst J16 ha) rfl (fk (INV_4 J16 ha).1 0 rfl) rfl rfl (by decide) (by decide) (Nat.le_of_ble_eq_true rfl) (by decide) (fun z17 g18 p19 J20 => ?_)
        obtain rfl : z17 = none := p19
        refine ex_vret ok_X4_receiveSeeded (mi 37 rfl) rfl ?_
        exact ⟨_, rfl, rfl, J20⟩
    · skip
      refine ex_vret ok_X4_receiveSeeded (mi 11 rfl) rfl ?_
      exact ⟨_, rfl, rfl, I⟩
theorem s_X4_receivePicked {G : GE} (hst : (ge_l G).stackTraces = false) {x : Nat} {U : UT} {g : GT} (I : INV x U g) {a : Nat} (ha : KGR x a) {m0 : Nat} (hm0 : MSR x m0) : ex_M G 3 0 0 my_X4_receivePicked [.ref a, .ref m0] g (SV x U pZ) := by
  refine ex_M_of ok_X4_receivePicked cw_X4_receivePicked rfl hst (Nat.le_of_ble_eq_true rfl) ?_
  refine ex_aload_n ok_X4_receivePicked (mi 0 rfl) rfl ?_
  refine sf_getI ok_X4_receivePicked (mi 1 rfl) rfl rfl (fk (INV_4 I ha).1 0 rfl) (fun v1 => ?_)
  refine ex_iconst ok_X4_receivePicked (mi 2 rfl) ?_
  refine ex_icmp_ne (tgt := 30) ok_X4_receivePicked (mi 3 rfl) rfl (fun h5 => ?_) (fun h5 => ?_)
  · skip
    refine ex_iconst ok_X4_receivePicked (mi 14 rfl) ?_
    refine ex_zret ok_X4_receivePicked (mi 15 rfl) rfl (by decide) ?_
    exact ⟨_, rfl, ⟨_, rfl, (by decide)⟩, I⟩
  · skip
    refine ex_aload_n ok_X4_receivePicked (mi 4 rfl) rfl ?_
    refine ex_getI ok_X4_receivePicked (mi 5 rfl) rfl rfl (fk (INV_6 I hm0) 0 rfl) ?_
    refine ex_aload_n ok_X4_receivePicked (mi 6 rfl) rfl ?_
    refine sf_getI ok_X4_receivePicked (mi 7 rfl) rfl rfl (fk (INV_4 I ha).1 0 rfl) (fun v2 => ?_)
    refine ex_icmp_ne (tgt := 30) ok_X4_receivePicked (mi 8 rfl) rfl (fun h16 => ?_) (fun h16 => ?_)
    · skip
      refine ex_iconst ok_X4_receivePicked (mi 14 rfl) ?_
      refine ex_zret ok_X4_receivePicked (mi 15 rfl) rfl (by decide) ?_
      exact ⟨_, rfl, ⟨_, rfl, (by decide)⟩, I⟩
    · skip
      refine ex_aload_n ok_X4_receivePicked (mi 9 rfl) rfl ?_
      refine ex_getI ok_X4_receivePicked (mi 10 rfl) rfl rfl (fk (INV_6 I hm0) 0 rfl) ?_
      refine ex_aload_n ok_X4_receivePicked (mi 11 rfl) rfl ?_
      refine sf_getI ok_X4_receivePicked (mi 12 rfl) rfl rfl (fk (INV_4 I ha).1 0 rfl) (fun v3 => ?_)
      refine ex_icmp_eq (tgt := 32) ok_X4_receivePicked (mi 13 rfl) rfl (fun h27 => ?_) (fun h27 => ?_)
      · skip
        refine ex_aload_n ok_X4_receivePicked (mi 16 rfl) rfl ?_
        refine ex_dup ok_X4_receivePicked (mi 17 rfl) rfl ?_
        refine sf_getI ok_X4_receivePicked (mi 18 rfl) rfl rfl (fk (INV_4 I ha).1 0 rfl) (fun v4 => ?_)
        refine ex_iconst ok_X4_receivePicked (mi 19 rfl) ?_
        refine ex_aload_n ok_X4_receivePicked (mi 20 rfl) rfl ?_
        refine ex_getI ok_X4_receivePicked (mi 21 rfl) rfl rfl (fk (INV_6 I hm0) 0 rfl) ?_
        refine ex_ishl ok_X4_receivePicked (mi 22 rfl) ?_
        refine ex_gen (fun w5 => ?_)
        refine ex_ior ok_X4_receivePicked (mi 23 rfl) ?_
        refine ex_gen (fun w6 => ?_)
        refine sf_putI I ok_X4_receivePicked (mi 24 rfl) rfl rfl (by decide) (by decide) (by decide +kernel) (fk (INV_4 I ha).1 0 rfl) (KGR_ne ha 0 (by decide)).1 (fun g7 J8 => ?_)
        refine ex_aload_n ok_X4_receivePicked (mi 25 rfl) rfl ?_
        refine sf_getI ok_X4_receivePicked (mi 26 rfl) rfl rfl (fk (INV_4 J8 ha).1 0 rfl) (fun v9 => ?_)
        refine sf_SNp (As := [_]) ok_X4_receivePicked (mi 27 rfl) rfl (s_X11_areTwo hst J8) rfl (List.mem_of_getElem? (i := 7) rfl) rfl rfl (by decide) (Nat.le_of_ble_eq_true rfl) (by decide) (fun z10 p12 => ?_)
        obtain ⟨v14, rfl, hbv14⟩ := p12
        refine ex_if_ne (tgt := 59) ok_X4_receivePicked (mi 28 rfl) rfl (fun h54 => ?_) (fun h54 => ?_)
        · skip
          refine ex_aload_n ok_X4_receivePicked (mi 31 rfl) rfl ?_
          refine ex_getRx ok_X4_receivePicked (mi 32 rfl) rfl rfl (fk (INV_4 J8 ha).1 0 rfl) (INV_4 J8 ha).2 (fk J8.1 1 rfl) (by decide) ?_
          refine ex_bipush ok_X4_receivePicked (mi 33 rfl) ?_
          refine ex_aload_n ok_X4_receivePicked (mi 34 rfl) rfl ?_
          refine sf_getI ok_X4_receivePicked (mi 35 rfl) rfl rfl (fk (INV_4 J8 ha).1 0 rfl) (fun v15 => ?_)
          refine ex_aload_n ok_X4_receivePicked (mi 36 rfl) rfl ?_
          refine sf_getI ok_X4_receivePicked (mi 37 rfl) rfl rfl (fk (INV_4 J8 ha).1 0 rfl) (fun v16 => ?_)
          refine ex_aload_n ok_X4_receivePicked (mi 38 rfl) rfl ?_
          refine sf_getI ok_X4_receivePicked (mi 39 rfl) rfl rfl (fk (INV_4 J8 ha).1 0 rfl) (fun v17 => ?_)
          refine ex_aload_n ok_X4_receivePicked (mi 40 rfl) rfl ?_
          refine sf_getI ok_X4_receivePicked (mi 41 rfl) rfl rfl (fk (INV_4 J8 ha).1 0 rfl) (fun v18 => ?_)
          refine ex_iconst ok_X4_receivePicked (mi 42 rfl) ?_
          refine sf_V (As := [_, _, _, _, _, _]) ok_X4_receivePicked (mi 43 rfl) rfl (s_X0_sendEach hst J8) rfl (fk J8.1 1 rfl) rfl rfl (by decide) (by decide) (Nat.le_of_ble_eq_true rfl) (by decide) (fun z19 g20 p21 J22 => ?_)
          obtain rfl : z19 = none := p21
          refine ex_aload_n ok_X4_receivePicked (mi 44 rfl) rfl ?_
          refine ex_getRx ok_X4_receivePicked (mi 45 rfl) rfl rfl (fk (INV_4 J22 ha).1 0 rfl) (INV_4 J22 ha).2 (fk J22.1 1 rfl) (by decide) ?_
          refine ex_bipush ok_X4_receivePicked (mi 46 rfl) ?_
          refine ex_aload_n ok_X4_receivePicked (mi 47 rfl) rfl ?_
          refine sf_getI ok_X4_receivePicked (mi 48 rfl) rfl rfl (fk (INV_4 J22 ha).1 0 rfl) (fun v23 => ?_)
          refine ex_aload_n ok_X4_receivePicked (mi 49 rfl) rfl ?_
          refine sf_getI ok_X4_receivePicked (mi 50 rfl) rfl rfl (fk (INV_4 J22 ha).1 0 rfl) (fun v24 => ?_)
          refine ex_aload_n ok_X4_receivePicked (mi 51 rfl) rfl ?_
          refine sf_getI ok_X4_receivePicked (mi 52 rfl) rfl rfl (fk (INV_4 J22 ha).1 0 rfl) (fun v25 => ?_)
          refine ex_aload_n ok_X4_receivePicked (mi 53 rfl) rfl ?_
          refine sf_getI ok_X4_receivePicked (mi 54 rfl) rfl rfl (fk (INV_4 J22 ha).1 0 rfl) (fun v26 => ?_)
          refine ex_iconst ok_X4_receivePicked (mi 55 rfl) ?_
          refine sf_V (As := [_, _, _, _, _, _]) ok_X4_receivePicked (mi 56 rfl) rfl (s_X0_sendEach hst J22) rfl (fk J22.1 1 rfl) rfl rfl (by decide) (by decide) (Nat.le_of_ble_eq_true rfl) (by decide) (fun z27 g28 p29 J30 => ?_)
          obtain rfl : z27 = none := p29
          refine ex_iconst ok_X4_receivePicked (mi 57 rfl) ?_
          refine ex_zret ok_X4_receivePicked (mi 58 rfl) rfl (by decide) ?_
          exact ⟨_, rfl, ⟨_, rfl, (by decide)⟩, J30⟩
        · skip
          refine ex_iconst ok_X4_receivePicked (mi 29 rfl) ?_
          refine ex_zret ok_X4_receivePicked (mi 30 rfl) rfl (by decide) ?_
          exact ⟨_, rfl, ⟨_, rfl, (by decide)⟩, J8⟩
      · skip
        refine ex_iconst ok_X4_receivePicked (mi 14 rfl) ?_
        refine ex_zret ok_X4_receivePicked (mi 15 rfl) rfl (by decide) ?_
        exact ⟨_, rfl, ⟨_, rfl, (by decide)⟩, I⟩
theorem s_X1_reset {G : GE} (hst : (ge_l G).stackTraces = false) {x : Nat} {U : UT} {g : GT} (I : INV x U g) {a : Nat} (ha : CLR x a) : ex_M G 1 0 0 my_X1_reset [.ref a] g (SV x U pN) := by
  refine ex_M_of ok_X1_reset cw_X1_reset rfl hst (Nat.le_of_ble_eq_true rfl) ?_
  refine ex_aload_n ok_X1_reset (mi 0 rfl) rfl ?_
  refine ex_iconst ok_X1_reset (mi 1 rfl) ?_
  refine sf_putI I ok_X1_reset (mi 2 rfl) rfl rfl (by decide) (by decide) (by decide +kernel) (fk (INV_1 I ha) 0 rfl) (CLR_ne ha 0 (by decide)).1 (fun g1 J2 => ?_)
  refine ex_aload_n ok_X1_reset (mi 3 rfl) rfl ?_
  refine ex_iconst ok_X1_reset (mi 4 rfl) ?_
  refine sf_putI J2 ok_X1_reset (mi 5 rfl) rfl rfl (by decide) (by decide) (by decide +kernel) (fk (INV_1 J2 ha) 0 rfl) (CLR_ne ha 0 (by decide)).1 (fun g3 J4 => ?_)
  refine ex_aload_n ok_X1_reset (mi 6 rfl) rfl ?_
  refine ex_iconst ok_X1_reset (mi 7 rfl) ?_
  refine sf_putI J4 ok_X1_reset (mi 8 rfl) rfl rfl (by decide) (by decide) (by decide +kernel) (fk (INV_1 J4 ha) 0 rfl) (CLR_ne ha 0 (by decide)).1 (fun g5 J6 => ?_)
  refine ex_aload_n ok_X1_reset (mi 9 rfl) rfl ?_
  refine ex_iconst ok_X1_reset (mi 10 rfl) ?_
  refine sf_putI J6 ok_X1_reset (mi 11 rfl) rfl rfl (by decide) (by decide) (by decide +kernel) (fk (INV_1 J6 ha) 0 rfl) (CLR_ne ha 0 (by decide)).1 (fun g7 J8 => ?_)
  refine ex_aload_n ok_X1_reset (mi 12 rfl) rfl ?_
  refine ex_iconst ok_X1_reset (mi 13 rfl) ?_
  refine sf_putI J8 ok_X1_reset (mi 14 rfl) rfl rfl (by decide) (by decide) (by decide +kernel) (fk (INV_1 J8 ha) 0 rfl) (CLR_ne ha 0 (by decide)).1 (fun g9 J10 => ?_)
  refine ex_aload_n ok_X1_reset (mi 15 rfl) rfl ?_
  refine ex_iconst ok_X1_reset (mi 16 rfl) ?_
  refine sf_putI J10 ok_X1_reset (mi 17 rfl) rfl rfl (by decide) (by decide) (by decide +kernel) (fk (INV_1 J10 ha) 0 rfl) (CLR_ne ha 0 (by decide)).1 (fun g11 J12 => ?_)
  refine ex_vret ok_X1_reset (mi 18 rfl) rfl ?_
  exact ⟨_, rfl, rfl, J12⟩
theorem s_X8_reset {G : GE} (hst : (ge_l G).stackTraces = false) {x : Nat} {U : UT} {g : GT} (I : INV x U g) {a : Nat} (ha : SLR x a) : ex_M G 2 0 0 my_X8_reset [.ref a] g (SV x U pN) := by
  refine ex_M_of ok_X8_reset cw_X8_reset rfl hst (Nat.le_of_ble_eq_true rfl) ?_
  refine ex_aload_n ok_X8_reset (mi 0 rfl) rfl ?_
  refine ex_getRx ok_X8_reset (mi 1 rfl) rfl rfl (fk (INV_8 I ha).1 0 rfl) (fr (INV_8 I ha).1 0 rfl) (fk (INV_8 I ha).1 1 rfl) (by decide) ?_
  refine ex_iconst ok_X8_reset (mi 2 rfl) ?_
  refine sf_fill I ok_X8_reset (mi 3 rfl) rfl hst (fk (INV_8 I ha).1 1 rfl) (fn (INV_8 I ha).1 1 rfl) (by decide) rfl rfl rfl (by decide) (Nat.le_of_ble_eq_true rfl) (by decide) (SLR_ne ha 1 (by decide)) (fun g1 J2 => ?_)
  refine ex_aload_n ok_X8_reset (mi 4 rfl) rfl ?_
  refine ex_getRx ok_X8_reset (mi 5 rfl) rfl rfl (fk (INV_8 J2 ha).1 0 rfl) (fr (INV_8 J2 ha).1 1 rfl) (fk (INV_8 J2 ha).1 2 rfl) (by decide) ?_
  refine ex_iconst ok_X8_reset (mi 6 rfl) ?_
  refine sf_fill J2 ok_X8_reset (mi 7 rfl) rfl hst (fk (INV_8 J2 ha).1 2 rfl) (fn (INV_8 J2 ha).1 2 rfl) (by decide) rfl rfl rfl (by decide) (Nat.le_of_ble_eq_true rfl) (by decide) (SLR_ne ha 2 (by decide)) (fun g3 J4 => ?_)
  refine ex_aload_n ok_X8_reset (mi 8 rfl) rfl ?_
  refine ex_getRx ok_X8_reset (mi 9 rfl) rfl rfl (fk (INV_8 J4 ha).1 0 rfl) (fr (INV_8 J4 ha).1 2 rfl) (fk (INV_8 J4 ha).1 3 rfl) (by decide) ?_
  refine ex_iconst ok_X8_reset (mi 10 rfl) ?_
  refine sf_fill J4 ok_X8_reset (mi 11 rfl) rfl hst (fk (INV_8 J4 ha).1 3 rfl) (fn (INV_8 J4 ha).1 3 rfl) (by decide) rfl rfl rfl (by decide) (Nat.le_of_ble_eq_true rfl) (by decide) (SLR_ne ha 3 (by decide)) (fun g5 J6 => ?_)
  refine ex_aload_n ok_X8_reset (mi 12 rfl) rfl ?_
  refine ex_getRx ok_X8_reset (mi 13 rfl) rfl rfl (fk (INV_8 J6 ha).1 0 rfl) (fr (INV_8 J6 ha).1 3 rfl) (fk (INV_8 J6 ha).1 4 rfl) (by decide) ?_
  refine ex_iconst ok_X8_reset (mi 14 rfl) ?_
  refine sf_fill J6 ok_X8_reset (mi 15 rfl) rfl hst (fk (INV_8 J6 ha).1 4 rfl) (fn (INV_8 J6 ha).1 4 rfl) (by decide) rfl rfl rfl (by decide) (Nat.le_of_ble_eq_true rfl) (by decide) (SLR_ne ha 4 (by decide)) (fun g7 J8 => ?_)
  refine ex_vret ok_X8_reset (mi 16 rfl) rfl ?_
  exact ⟨_, rfl, rfl, J8⟩
theorem s_X5_forgetMatched {G : GE} (hst : (ge_l G).stackTraces = false) {x : Nat} {U : UT} {g : GT} (I : INV x U g) {a : Nat} (ha : LDR x a) : ex_M G 4 0 0 my_X5_forgetMatched [.ref a] g (SV x U pN) := by
  refine ex_M_of ok_X5_forgetMatched cw_X5_forgetMatched rfl hst (Nat.le_of_ble_eq_true rfl) ?_
  refine ex_aload_n ok_X5_forgetMatched (mi 0 rfl) rfl ?_
  refine ex_iconst ok_X5_forgetMatched (mi 1 rfl) ?_
  refine sf_putI I ok_X5_forgetMatched (mi 2 rfl) rfl rfl (by decide) (by decide) (by decide +kernel) (fk (INV_5 I ha).1 0 rfl) (LDR_ne ha 0 (by decide)).1 (fun g1 J2 => ?_)
  refine ex_aload_n ok_X5_forgetMatched (mi 3 rfl) rfl ?_
  refine ex_iconst ok_X5_forgetMatched (mi 4 rfl) ?_
  refine sf_putI J2 ok_X5_forgetMatched (mi 5 rfl) rfl rfl (by decide) (by decide) (by decide +kernel) (fk (INV_5 J2 ha).1 0 rfl) (LDR_ne ha 0 (by decide)).1 (fun g3 J4 => ?_)
  refine ex_aload_n ok_X5_forgetMatched (mi 6 rfl) rfl ?_
  refine ex_getRx ok_X5_forgetMatched (mi 7 rfl) rfl rfl (fk (INV_5 J4 ha).1 0 rfl) (fr (INV_5 J4 ha).1 3 rfl) (fk (INV_5 J4 ha).1 1 rfl) (by decide) ?_
  refine sf_S (As := [_]) ok_X5_forgetMatched (mi 8 rfl) rfl (s_X7_empty hst J4 (LDR_rd1 ha)) rfl rfl rfl (by decide) (Nat.le_of_ble_eq_true rfl) (by decide) (fun z5 g6 p7 J8 => ?_)
  obtain rfl : z5 = none := p7
  refine ex_vret ok_X5_forgetMatched (mi 9 rfl) rfl ?_
  exact ⟨_, rfl, rfl, J8⟩
theorem s_X5_forgetRound {G : GE} (hst : (ge_l G).stackTraces = false) {x : Nat} {U : UT} {g : GT} (I : INV x U g) {a : Nat} (ha : LDR x a) : ex_M G 5 0 0 my_X5_forgetRound [.ref a] g (SV x U pN) := by
  refine ex_M_of ok_X5_forgetRound cw_X5_forgetRound rfl hst (Nat.le_of_ble_eq_true rfl) ?_
  refine ex_aload_n ok_X5_forgetRound (mi 0 rfl) rfl ?_
  refine sf_V (As := []) ok_X5_forgetRound (mi 1 rfl) rfl (s_X5_forgetMatched hst I ha) rfl (fk (INV_5 I ha).1 0 rfl) rfl rfl (by decide) (by decide) (Nat.le_of_ble_eq_true rfl) (by decide) (fun z1 g2 p3 J4 => ?_)
  obtain rfl : z1 = none := p3
  refine ex_aload_n ok_X5_forgetRound (mi 2 rfl) rfl ?_
  refine ex_iconst ok_X5_forgetRound (mi 3 rfl) ?_
  refine sf_putI J4 ok_X5_forgetRound (mi 4 rfl) rfl rfl (by decide) (by decide) (by decide +kernel) (fk (INV_5 J4 ha).1 0 rfl) (LDR_ne ha 0 (by decide)).1 (fun g5 J6 => ?_)
  refine ex_aload_n ok_X5_forgetRound (mi 5 rfl) rfl ?_
  refine ex_iconst ok_X5_forgetRound (mi 6 rfl) ?_
  refine sf_putI J6 ok_X5_forgetRound (mi 7 rfl) rfl rfl (by decide) (by decide) (by decide +kernel) (fk (INV_5 J6 ha).1 0 rfl) (LDR_ne ha 0 (by decide)).1 (fun g7 J8 => ?_)
  refine ex_aload_n ok_X5_forgetRound (mi 8 rfl) rfl ?_
  refine ex_getRx ok_X5_forgetRound (mi 9 rfl) rfl rfl (fk (INV_5 J8 ha).1 0 rfl) (fr (INV_5 J8 ha).1 4 rfl) (fk (INV_5 J8 ha).1 2 rfl) (by decide) ?_
  refine ex_iconst ok_X5_forgetRound (mi 10 rfl) ?_
  refine sf_fill J8 ok_X5_forgetRound (mi 11 rfl) rfl hst (fk (INV_5 J8 ha).1 2 rfl) (fn (INV_5 J8 ha).1 2 rfl) (by decide) rfl rfl rfl (by decide) (Nat.le_of_ble_eq_true rfl) (by decide) (LDR_ne ha 2 (by decide)) (fun g9 J10 => ?_)
  refine ex_aload_n ok_X5_forgetRound (mi 12 rfl) rfl ?_
  refine ex_iconst ok_X5_forgetRound (mi 13 rfl) ?_
  refine sf_putI J10 ok_X5_forgetRound (mi 14 rfl) rfl rfl (by decide) (by decide) (by decide +kernel) (fk (INV_5 J10 ha).1 0 rfl) (LDR_ne ha 0 (by decide)).1 (fun g11 J12 => ?_)
  refine ex_aload_n ok_X5_forgetRound (mi 15 rfl) rfl ?_
  refine ex_iconst ok_X5_forgetRound (mi 16 rfl) ?_
  refine sf_putI J12 ok_X5_forgetRound (mi 17 rfl) rfl rfl (by decide) (by decide) (by decide +kernel) (fk (INV_5 J12 ha).1 0 rfl) (LDR_ne ha 0 (by decide)).1 (fun g13 J14 => ?_)
  refine ex_aload_n ok_X5_forgetRound (mi 18 rfl) rfl ?_
  refine ex_getRx ok_X5_forgetRound (mi 19 rfl) rfl rfl (fk (INV_5 J14 ha).1 0 rfl) (fr (INV_5 J14 ha).1 1 rfl) (fk (INV_5 J14 ha).1 5 rfl) (by decide) ?_
  refine sf_V (As := []) ok_X5_forgetRound (mi 20 rfl) rfl (s_X8_reset hst J14 (LDR_sl ha)) rfl (fk (INV_5 J14 ha).1 5 rfl) rfl rfl (by decide) (by decide) (Nat.le_of_ble_eq_true rfl) (by decide) (fun z15 g16 p17 J18 => ?_)
  obtain rfl : z15 = none := p17
  refine ex_aload_n ok_X5_forgetRound (mi 21 rfl) rfl ?_
  refine ex_getRx ok_X5_forgetRound (mi 22 rfl) rfl rfl (fk (INV_5 J18 ha).1 0 rfl) (fr (INV_5 J18 ha).1 2 rfl) (fk (INV_5 J18 ha).1 10 rfl) (by decide) ?_
  refine sf_V (As := []) ok_X5_forgetRound (mi 23 rfl) rfl (s_X1_reset hst J18 (LDR_cl ha)) rfl (fk (INV_5 J18 ha).1 10 rfl) rfl rfl (by decide) (by decide) (Nat.le_of_ble_eq_true rfl) (by decide) (fun z19 g20 p21 J22 => ?_)
  obtain rfl : z19 = none := p21
  refine ex_vret ok_X5_forgetRound (mi 24 rfl) rfl ?_
  exact ⟨_, rfl, rfl, J22⟩
theorem s_X5_historyVoters {G : GE} (hst : (ge_l G).stackTraces = false) {x : Nat} {U : UT} {g : GT} (I : INV x U g) {a : Nat} (ha : LDR x a) : ex_M G 2 0 0 my_X5_historyVoters [.ref a] g (SVp g pI) := by
  refine ex_M_of ok_X5_historyVoters cw_X5_historyVoters rfl hst (Nat.le_of_ble_eq_true rfl) ?_
  refine ex_iconst ok_X5_historyVoters (mi 0 rfl) ?_
  refine ex_istore_n ok_X5_historyVoters (mi 1 rfl) ?_
  refine ex_iconst ok_X5_historyVoters (mi 2 rfl) ?_
  refine ex_istore_n ok_X5_historyVoters (mi 3 rfl) ?_
  have lp4 : ∀ n4 k4 : Nat, k4 + n4 = 10 → ∀ (q1 : Int32), ex_W G 2 0 0 M_X5_historyVoters 4 [(0, .ref a), (1, .int q1), (2, .int (nI k4))] [] g (SVp g pI) := by
    intro n4
    induction n4 with
    | zero =>
      intro k4 hk4 q1
      obtain rfl : k4 = 10 := by omega
      refine ex_iload_n ok_X5_historyVoters (mi 4 rfl) rfl ?_
      refine ex_bipush ok_X5_historyVoters (mi 5 rfl) ?_
      refine ex_icmp_ge (tgt := 73) ok_X5_historyVoters (mi 6 rfl) rfl (fun _ => ?_) (fun hn => absurd (by decide) hn)
      refine ex_iload_n ok_X5_historyVoters (mi 41 rfl) rfl ?_
      refine ex_iret ok_X5_historyVoters (mi 42 rfl) rfl ?_
      exact ⟨_, rfl, ⟨_, rfl⟩, rfl⟩
    | succ n4 ih4 =>
      intro k4 hk4 q1
      have hr4 : k4 < 10 := by omega
      refine ex_iload_n ok_X5_historyVoters (mi 4 rfl) rfl ?_
      refine ex_bipush ok_X5_historyVoters (mi 5 rfl) ?_
      refine ex_icmp_ge (tgt := 73) ok_X5_historyVoters (mi 6 rfl) rfl (fun hn => absurd hn (nI_ge hr4 (by decide))) (fun _ => ?_)
      refine ex_iconst ok_X5_historyVoters (mi 7 rfl) ?_
      refine ex_istore_n ok_X5_historyVoters (mi 8 rfl) ?_
      have lp12 : ∀ n12 k12 : Nat, k12 + n12 = 32 → ∀ (q4 : Int32), ex_W G 2 0 0 M_X5_historyVoters 12 [(0, .ref a), (1, .int q4), (2, .int (nI k4)), (3, .int (nI k12))] [] g (SVp g pI) := by
        intro n12
        induction n12 with
        | zero =>
          intro k12 hk12 q4
          obtain rfl : k12 = 32 := by omega
          refine ex_iload_n ok_X5_historyVoters (mi 9 rfl) rfl ?_
          refine ex_bipush ok_X5_historyVoters (mi 10 rfl) ?_
          refine ex_icmp_ge (tgt := 67) ok_X5_historyVoters (mi 11 rfl) rfl (fun _ => ?_) (fun hn => absurd (by decide) hn)
          refine ex_iincx (w := (nI (k4 + 1))) ok_X5_historyVoters (mi 39 rfl) rfl (nI_1 _) ?_
          refine ex_goto (tgt := 4) ok_X5_historyVoters (mi 40 rfl) rfl ?_
          exact ex_ls (ls' := [(0, .ref a), (1, .int q4), (2, .int (nI (k4 + 1)))]) ⟨rfl, rfl, rfl, trivial⟩ (ih4 (k4 + 1) (by omega) _ )
        | succ n12 ih12 =>
          intro k12 hk12 q4
          have hr12 : k12 < 32 := by omega
          refine ex_iload_n ok_X5_historyVoters (mi 9 rfl) rfl ?_
          refine ex_bipush ok_X5_historyVoters (mi 10 rfl) ?_
          refine ex_icmp_ge (tgt := 67) ok_X5_historyVoters (mi 11 rfl) rfl (fun hn => absurd hn (nI_ge hr12 (by decide))) (fun _ => ?_)
          refine ex_aload_n ok_X5_historyVoters (mi 12 rfl) rfl ?_
          refine ex_getRx ok_X5_historyVoters (mi 13 rfl) rfl rfl (fk (INV_5 I ha).1 0 rfl) (fr (INV_5 I ha).1 3 rfl) (fk (INV_5 I ha).1 1 rfl) (by decide) ?_
          refine ex_iload_n ok_X5_historyVoters (mi 14 rfl) rfl ?_
          refine sf_iald ok_X5_historyVoters (mi 15 rfl) (fk (INV_5 I ha).1 1 rfl) (fn (INV_5 I ha).1 1 rfl) (vp_in_nI (by omega) (by decide)) (fun v7 => ?_)
          refine ex_if_eq (tgt := 67) ok_X5_historyVoters (mi 16 rfl) rfl (fun h24 => ?_) (fun h24 => ?_)
          · skip
            refine ex_iincx (w := (nI (k4 + 1))) ok_X5_historyVoters (mi 39 rfl) rfl (nI_1 _) ?_
            refine ex_goto (tgt := 4) ok_X5_historyVoters (mi 40 rfl) rfl ?_
            exact ex_ls (ls' := [(0, .ref a), (1, .int q4), (2, .int (nI (k4 + 1)))]) ⟨rfl, rfl, rfl, trivial⟩ (ih4 (k4 + 1) (by omega) _ )
          · skip
            refine ex_iload_n ok_X5_historyVoters (mi 17 rfl) rfl ?_
            refine ex_bipush ok_X5_historyVoters (mi 18 rfl) ?_
            refine ex_imul ok_X5_historyVoters (mi 19 rfl) ?_
            refine ex_gen (fun w8 => ?_)
            refine ex_iload_n ok_X5_historyVoters (mi 20 rfl) rfl ?_
            refine ex_iadd ok_X5_historyVoters (mi 21 rfl) ?_
            refine ex_gen (fun w9 => ?_)
            refine ex_istore ok_X5_historyVoters (mi 22 rfl) ?_
            refine ex_iload_n ok_X5_historyVoters (mi 23 rfl) rfl ?_
            refine ex_aload_n ok_X5_historyVoters (mi 24 rfl) rfl ?_
            refine ex_getRx ok_X5_historyVoters (mi 25 rfl) rfl rfl (fk (INV_5 I ha).1 0 rfl) (fr (INV_5 I ha).1 3 rfl) (fk (INV_5 I ha).1 1 rfl) (by decide) ?_
            refine ex_iload ok_X5_historyVoters (mi 26 rfl) rfl ?_
            refine sf_Sp (As := [_, _]) ok_X5_historyVoters (mi 27 rfl) rfl (s_X7_has hst I (LDR_rd1 ha)) rfl rfl rfl (by decide) (Nat.le_of_ble_eq_true rfl) (by decide) (fun z10 p12 => ?_)
            obtain ⟨v14, rfl, hbv14, hfv14⟩ := p12
            refine ex_if_eq (tgt := 58) ok_X5_historyVoters (mi 28 rfl) rfl (fun h45 => ?_) (fun h45 => ?_)
            · skip
              refine ex_iconst ok_X5_historyVoters (mi 34 rfl) ?_
              refine ex_ior ok_X5_historyVoters (mi 35 rfl) ?_
              refine ex_gen (fun w15 => ?_)
              refine ex_istore_n ok_X5_historyVoters (mi 36 rfl) ?_
              refine ex_iincx (w := (nI (k12 + 1))) ok_X5_historyVoters (mi 37 rfl) rfl (nI_1 _) ?_
              refine ex_goto (tgt := 12) ok_X5_historyVoters (mi 38 rfl) rfl ?_
              exact ex_ls (ls' := [(0, .ref a), (1, .int w15), (2, .int (nI k4)), (3, .int (nI (k12 + 1)))]) ⟨rfl, rfl, rfl, rfl, trivial⟩ (ih12 (k12 + 1) (by omega) _ )
            · skip
              refine ex_aload_n ok_X5_historyVoters (mi 29 rfl) rfl ?_
              refine ex_getRx ok_X5_historyVoters (mi 30 rfl) rfl rfl (fk (INV_5 I ha).1 0 rfl) (INV_5 I ha).2.2.1 (fk I.1 3 rfl) (by decide) ?_
              refine ex_iload ok_X5_historyVoters (mi 31 rfl) rfl ?_
              refine sf_iald ok_X5_historyVoters (mi 32 rfl) (fk I.1 3 rfl) (fn I.1 3 rfl) (hfv14 h45) (fun v16 => ?_)
              refine ex_goto (tgt := 59) ok_X5_historyVoters (mi 33 rfl) rfl ?_
              refine ex_ior ok_X5_historyVoters (mi 35 rfl) ?_
              refine ex_gen (fun w17 => ?_)
              refine ex_istore_n ok_X5_historyVoters (mi 36 rfl) ?_
              refine ex_iincx (w := (nI (k12 + 1))) ok_X5_historyVoters (mi 37 rfl) rfl (nI_1 _) ?_
              refine ex_goto (tgt := 12) ok_X5_historyVoters (mi 38 rfl) rfl ?_
              exact ex_ls (ls' := [(0, .ref a), (1, .int w17), (2, .int (nI k4)), (3, .int (nI (k12 + 1)))]) ⟨rfl, rfl, rfl, rfl, trivial⟩ (ih12 (k12 + 1) (by omega) _ )
      exact ex_ls (ls' := [(0, .ref a), (1, .int q1), (2, .int (nI k4)), (3, .int (nI 0))]) ⟨rfl, rfl, rfl, rfl, trivial⟩ (lp12 32 0 (by decide) _ )
  exact ex_ls (ls' := [(0, .ref a), (1, .int (nI 0)), (2, .int (nI 0))]) ⟨rfl, rfl, rfl, trivial⟩ (lp4 10 0 (by decide) _ )
theorem s_X5_hasMajorities {G : GE} (hst : (ge_l G).stackTraces = false) {x : Nat} {U : UT} {g : GT} (I : INV x U g) {a : Nat} (ha : LDR x a) : ex_M G 3 0 0 my_X5_hasMajorities [.ref a] g (SVp g pZ) := by
  refine ex_M_of ok_X5_hasMajorities cw_X5_hasMajorities rfl hst (Nat.le_of_ble_eq_true rfl) ?_
  refine ex_iconst ok_X5_hasMajorities (mi 0 rfl) ?_
  refine ex_istore_n ok_X5_hasMajorities (mi 1 rfl) ?_
  have lp2 : ∀ n2 k2 : Nat, k2 + n2 = 10 → ex_W G 3 0 0 M_X5_hasMajorities 2 [(0, .ref a), (1, .int (nI k2))] [] g (SVp g pZ) := by
    intro n2
    induction n2 with
    | zero =>
      intro k2 hk2 
      obtain rfl : k2 = 10 := by omega
      refine ex_iload_n ok_X5_hasMajorities (mi 2 rfl) rfl ?_
      refine ex_bipush ok_X5_hasMajorities (mi 3 rfl) ?_
      refine ex_icmp_ge (tgt := 73) ok_X5_hasMajorities (mi 4 rfl) rfl (fun _ => ?_) (fun hn => absurd (by decide) hn)
      refine ex_iconst ok_X5_hasMajorities (mi 40 rfl) ?_
      refine ex_zret ok_X5_hasMajorities (mi 41 rfl) rfl (by decide) ?_
      exact ⟨_, rfl, ⟨_, rfl, (by decide)⟩, rfl⟩
    | succ n2 ih2 =>
      intro k2 hk2 
      have hr2 : k2 < 10 := by omega
      refine ex_iload_n ok_X5_hasMajorities (mi 2 rfl) rfl ?_
      refine ex_bipush ok_X5_hasMajorities (mi 3 rfl) ?_
      refine ex_icmp_ge (tgt := 73) ok_X5_hasMajorities (mi 4 rfl) rfl (fun hn => absurd hn (nI_ge hr2 (by decide))) (fun _ => ?_)
      refine ex_iconst ok_X5_hasMajorities (mi 5 rfl) ?_
      refine ex_istore_n ok_X5_hasMajorities (mi 6 rfl) ?_
      have lp10 : ∀ n10 k10 : Nat, k10 + n10 = 32 → ex_W G 3 0 0 M_X5_hasMajorities 10 [(0, .ref a), (1, .int (nI k2)), (2, .int (nI k10))] [] g (SVp g pZ) := by
        intro n10
        induction n10 with
        | zero =>
          intro k10 hk10 
          obtain rfl : k10 = 32 := by omega
          refine ex_iload_n ok_X5_hasMajorities (mi 7 rfl) rfl ?_
          refine ex_bipush ok_X5_hasMajorities (mi 8 rfl) ?_
          refine ex_icmp_ge (tgt := 67) ok_X5_hasMajorities (mi 9 rfl) rfl (fun _ => ?_) (fun hn => absurd (by decide) hn)
          refine ex_iincx (w := (nI (k2 + 1))) ok_X5_hasMajorities (mi 38 rfl) rfl (nI_1 _) ?_
          refine ex_goto (tgt := 2) ok_X5_hasMajorities (mi 39 rfl) rfl ?_
          exact ex_ls (ls' := [(0, .ref a), (1, .int (nI (k2 + 1)))]) ⟨rfl, rfl, trivial⟩ (ih2 (k2 + 1) (by omega) )
        | succ n10 ih10 =>
          intro k10 hk10 
          have hr10 : k10 < 32 := by omega
          refine ex_iload_n ok_X5_hasMajorities (mi 7 rfl) rfl ?_
          refine ex_bipush ok_X5_hasMajorities (mi 8 rfl) ?_
          refine ex_icmp_ge (tgt := 67) ok_X5_hasMajorities (mi 9 rfl) rfl (fun hn => absurd hn (nI_ge hr10 (by decide))) (fun _ => ?_)
          refine ex_aload_n ok_X5_hasMajorities (mi 10 rfl) rfl ?_
          refine ex_getRx ok_X5_hasMajorities (mi 11 rfl) rfl rfl (fk (INV_5 I ha).1 0 rfl) (fr (INV_5 I ha).1 3 rfl) (fk (INV_5 I ha).1 1 rfl) (by decide) ?_
          refine ex_iload_n ok_X5_hasMajorities (mi 12 rfl) rfl ?_
          refine sf_iald ok_X5_hasMajorities (mi 13 rfl) (fk (INV_5 I ha).1 1 rfl) (fn (INV_5 I ha).1 1 rfl) (vp_in_nI (by omega) (by decide)) (fun v5 => ?_)
          refine ex_if_eq (tgt := 67) ok_X5_hasMajorities (mi 14 rfl) rfl (fun h22 => ?_) (fun h22 => ?_)
          · skip
            refine ex_iincx (w := (nI (k2 + 1))) ok_X5_hasMajorities (mi 38 rfl) rfl (nI_1 _) ?_
            refine ex_goto (tgt := 2) ok_X5_hasMajorities (mi 39 rfl) rfl ?_
            exact ex_ls (ls' := [(0, .ref a), (1, .int (nI (k2 + 1)))]) ⟨rfl, rfl, trivial⟩ (ih2 (k2 + 1) (by omega) )
          · skip
            refine ex_iload_n ok_X5_hasMajorities (mi 15 rfl) rfl ?_
            refine ex_bipush ok_X5_hasMajorities (mi 16 rfl) ?_
            refine ex_imul ok_X5_hasMajorities (mi 17 rfl) ?_
            refine ex_gen (fun w6 => ?_)
            refine ex_iload_n ok_X5_hasMajorities (mi 18 rfl) rfl ?_
            refine ex_iadd ok_X5_hasMajorities (mi 19 rfl) ?_
            refine ex_gen (fun w7 => ?_)
            refine ex_istore_n ok_X5_hasMajorities (mi 20 rfl) ?_
            refine ex_aload_n ok_X5_hasMajorities (mi 21 rfl) rfl ?_
            refine ex_getRx ok_X5_hasMajorities (mi 22 rfl) rfl rfl (fk (INV_5 I ha).1 0 rfl) (fr (INV_5 I ha).1 3 rfl) (fk (INV_5 I ha).1 1 rfl) (by decide) ?_
            refine ex_iload_n ok_X5_hasMajorities (mi 23 rfl) rfl ?_
            refine sf_Sp (As := [_, _]) ok_X5_hasMajorities (mi 24 rfl) rfl (s_X7_has hst I (LDR_rd1 ha)) rfl rfl rfl (by decide) (Nat.le_of_ble_eq_true rfl) (by decide) (fun z8 p10 => ?_)
            obtain ⟨v12, rfl, hbv12, hfv12⟩ := p10
            refine ex_if_eq (tgt := 61) ok_X5_hasMajorities (mi 25 rfl) rfl (fun h40 => ?_) (fun h40 => ?_)
            · skip
              refine ex_iincx (w := (nI (k10 + 1))) ok_X5_hasMajorities (mi 36 rfl) rfl (nI_1 _) ?_
              refine ex_goto (tgt := 10) ok_X5_hasMajorities (mi 37 rfl) rfl ?_
              exact ex_ls (ls' := [(0, .ref a), (1, .int (nI k2)), (2, .int (nI (k10 + 1)))]) ⟨rfl, rfl, rfl, trivial⟩ (ih10 (k10 + 1) (by omega) )
            · skip
              refine ex_aload_n ok_X5_hasMajorities (mi 26 rfl) rfl ?_
              refine sf_getI ok_X5_hasMajorities (mi 27 rfl) rfl rfl (fk (INV_5 I ha).1 0 rfl) (fun v13 => ?_)
              refine ex_aload_n ok_X5_hasMajorities (mi 28 rfl) rfl ?_
              refine ex_getRx ok_X5_hasMajorities (mi 29 rfl) rfl rfl (fk (INV_5 I ha).1 0 rfl) (INV_5 I ha).2.2.1 (fk I.1 3 rfl) (by decide) ?_
              refine ex_iload_n ok_X5_hasMajorities (mi 30 rfl) rfl ?_
              refine sf_iald ok_X5_hasMajorities (mi 31 rfl) (fk I.1 3 rfl) (fn I.1 3 rfl) (hfv12 h40) (fun v14 => ?_)
              refine sf_SNp (As := [_, _]) ok_X5_hasMajorities (mi 32 rfl) rfl (s_X11_isMajority hst I) rfl (List.mem_of_getElem? (i := 4) rfl) rfl rfl (by decide) (Nat.le_of_ble_eq_true rfl) (by decide) (fun z15 p17 => ?_)
              obtain ⟨v19, rfl, hbv19⟩ := p17
              refine ex_if_ne (tgt := 61) ok_X5_hasMajorities (mi 33 rfl) rfl (fun h56 => ?_) (fun h56 => ?_)
              · skip
                refine ex_iincx (w := (nI (k10 + 1))) ok_X5_hasMajorities (mi 36 rfl) rfl (nI_1 _) ?_
                refine ex_goto (tgt := 10) ok_X5_hasMajorities (mi 37 rfl) rfl ?_
                exact ex_ls (ls' := [(0, .ref a), (1, .int (nI k2)), (2, .int (nI (k10 + 1)))]) ⟨rfl, rfl, rfl, trivial⟩ (ih10 (k10 + 1) (by omega) )
              · skip
                refine ex_iconst ok_X5_hasMajorities (mi 34 rfl) ?_
                refine ex_zret ok_X5_hasMajorities (mi 35 rfl) rfl (by decide) ?_
                exact ⟨_, rfl, ⟨_, rfl, (by decide)⟩, rfl⟩
      exact ex_ls (ls' := [(0, .ref a), (1, .int (nI k2)), (2, .int (nI 0))]) ⟨rfl, rfl, rfl, trivial⟩ (lp10 32 0 (by decide) )
  exact ex_ls (ls' := [(0, .ref a), (1, .int (nI 0))]) ⟨rfl, rfl, trivial⟩ (lp2 10 0 (by decide) )
theorem s_X5_beginRound {G : GE} (hst : (ge_l G).stackTraces = false) {x : Nat} {U : UT} {g : GT} (I : INV x U g) {a : Nat} (ha : LDR x a) {p0 : Int32} {p1 : Int32} : ex_M G 6 0 0 my_X5_beginRound [.ref a, .int p0, .int p1] g (SV x U pN) := by
  refine ex_M_of ok_X5_beginRound cw_X5_beginRound rfl hst (Nat.le_of_ble_eq_true rfl) ?_
  refine ex_aload_n ok_X5_beginRound (mi 0 rfl) rfl ?_
  refine sf_V (As := []) ok_X5_beginRound (mi 1 rfl) rfl (s_X5_forgetRound hst I ha) rfl (fk (INV_5 I ha).1 0 rfl) rfl rfl (by decide) (by decide) (Nat.le_of_ble_eq_true rfl) (by decide) (fun z1 g2 p3 J4 => ?_)
  obtain rfl : z1 = none := p3
  refine ex_aload_n ok_X5_beginRound (mi 2 rfl) rfl ?_
  refine ex_iconst ok_X5_beginRound (mi 3 rfl) ?_
  refine sf_putI J4 ok_X5_beginRound (mi 4 rfl) rfl rfl (by decide) (by decide) (by decide +kernel) (fk (INV_5 J4 ha).1 0 rfl) (LDR_ne ha 0 (by decide)).1 (fun g5 J6 => ?_)
  refine ex_aload_n ok_X5_beginRound (mi 5 rfl) rfl ?_
  refine ex_iload_n ok_X5_beginRound (mi 6 rfl) rfl ?_
  refine sf_putI J6 ok_X5_beginRound (mi 7 rfl) rfl rfl (by decide) (by decide) (by decide +kernel) (fk (INV_5 J6 ha).1 0 rfl) (LDR_ne ha 0 (by decide)).1 (fun g7 J8 => ?_)
  refine ex_aload_n ok_X5_beginRound (mi 8 rfl) rfl ?_
  refine ex_iload_n ok_X5_beginRound (mi 9 rfl) rfl ?_
  refine sf_putI J8 ok_X5_beginRound (mi 10 rfl) rfl rfl (by decide) (by decide) (by decide +kernel) (fk (INV_5 J8 ha).1 0 rfl) (LDR_ne ha 0 (by decide)).1 (fun g9 J10 => ?_)
  refine ex_aload_n ok_X5_beginRound (mi 11 rfl) rfl ?_
  refine ex_getRx ok_X5_beginRound (mi 12 rfl) rfl rfl (fk (INV_5 J10 ha).1 0 rfl) (INV_5 J10 ha).2.1 (fk J10.1 1 rfl) (by decide) ?_
  refine ex_iconst ok_X5_beginRound (mi 13 rfl) ?_
  refine ex_aload_n ok_X5_beginRound (mi 14 rfl) rfl ?_
  refine sf_getI ok_X5_beginRound (mi 15 rfl) rfl rfl (fk (INV_5 J10 ha).1 0 rfl) (fun v11 => ?_)
  refine ex_aload_n ok_X5_beginRound (mi 16 rfl) rfl ?_
  refine ex_getRx ok_X5_beginRound (mi 17 rfl) rfl rfl (fk (INV_5 J10 ha).1 0 rfl) (fr (INV_5 J10 ha).1 0 rfl) (fk (INV_5 J10 ha).1 3 rfl) (by decide) ?_
  refine sf_getI ok_X5_beginRound (mi 18 rfl) rfl rfl (fk (INV_5 J10 ha).1 3 rfl) (fun v12 => ?_)
  refine ex_aload_n ok_X5_beginRound (mi 19 rfl) rfl ?_
  refine ex_getRx ok_X5_beginRound (mi 20 rfl) rfl rfl (fk (INV_5 J10 ha).1 0 rfl) (fr (INV_5 J10 ha).1 0 rfl) (fk (INV_5 J10 ha).1 3 rfl) (by decide) ?_
  refine sf_getI ok_X5_beginRound (mi 21 rfl) rfl rfl (fk (INV_5 J10 ha).1 3 rfl) (fun v13 => ?_)
  refine ex_aload_n ok_X5_beginRound (mi 22 rfl) rfl ?_
  refine sf_getI ok_X5_beginRound (mi 23 rfl) rfl rfl (fk (INV_5 J10 ha).1 0 rfl) (fun v14 => ?_)
  refine ex_aload_n ok_X5_beginRound (mi 24 rfl) rfl ?_
  refine sf_getI ok_X5_beginRound (mi 25 rfl) rfl rfl (fk (INV_5 J10 ha).1 0 rfl) (fun v15 => ?_)
  refine sf_V (As := [_, _, _, _, _, _]) ok_X5_beginRound (mi 26 rfl) rfl (s_X0_sendEach hst J10) rfl (fk J10.1 1 rfl) rfl rfl (by decide) (by decide) (Nat.le_of_ble_eq_true rfl) (by decide) (fun z16 g17 p18 J19 => ?_)
  obtain rfl : z16 = none := p18
  refine ex_vret ok_X5_beginRound (mi 27 rfl) rfl ?_
  exact ⟨_, rfl, rfl, J19⟩
theorem s_X5_proposeNext {G : GE} (hst : (ge_l G).stackTraces = false) {x : Nat} {U : UT} {g : GT} (I : INV x U g) {a : Nat} (ha : LDR x a) {p0 : Int32} : ex_M G 3 0 0 my_X5_proposeNext [.ref a, .int p0] g (SV x U pI) := by
  refine ex_M_of ok_X5_proposeNext cw_X5_proposeNext rfl hst (Nat.le_of_ble_eq_true rfl) ?_
  refine ex_aload_n ok_X5_proposeNext (mi 0 rfl) rfl ?_
  refine sf_getI ok_X5_proposeNext (mi 1 rfl) rfl rfl (fk (INV_5 I ha).1 0 rfl) (fun v1 => ?_)
  refine ex_iconst ok_X5_proposeNext (mi 2 rfl) ?_
  refine ex_icmp_ne (tgt := 17) ok_X5_proposeNext (mi 3 rfl) rfl (fun h5 => ?_) (fun h5 => ?_)
  · skip
    refine ex_iconst ok_X5_proposeNext (mi 8 rfl) ?_
    refine ex_iret ok_X5_proposeNext (mi 9 rfl) rfl ?_
    exact ⟨_, rfl, ⟨_, rfl⟩, I⟩
  · skip
    refine ex_aload_n ok_X5_proposeNext (mi 4 rfl) rfl ?_
    refine sf_getI ok_X5_proposeNext (mi 5 rfl) rfl rfl (fk (INV_5 I ha).1 0 rfl) (fun v2 => ?_)
    refine ex_bipush ok_X5_proposeNext (mi 6 rfl) ?_
    refine ex_icmp_lt (tgt := 19) ok_X5_proposeNext (mi 7 rfl) rfl (fun h14 => ?_) (fun h14 => ?_)
    · skip
      refine ex_aload_n ok_X5_proposeNext (mi 10 rfl) rfl ?_
      refine sf_getI ok_X5_proposeNext (mi 11 rfl) rfl rfl (fk (INV_5 I ha).1 0 rfl) (fun v3 => ?_)
      refine ex_istore_n ok_X5_proposeNext (mi 12 rfl) ?_
      refine ex_aload_n ok_X5_proposeNext (mi 13 rfl) rfl ?_
      refine ex_dup ok_X5_proposeNext (mi 14 rfl) rfl ?_
      refine sf_getI ok_X5_proposeNext (mi 15 rfl) rfl rfl (fk (INV_5 I ha).1 0 rfl) (fun v4 => ?_)
      refine ex_iconst ok_X5_proposeNext (mi 16 rfl) ?_
      refine ex_iadd ok_X5_proposeNext (mi 17 rfl) ?_
      refine ex_gen (fun w5 => ?_)
      refine sf_putI I ok_X5_proposeNext (mi 18 rfl) rfl rfl (by decide) (by decide) (by decide +kernel) (fk (INV_5 I ha).1 0 rfl) (LDR_ne ha 0 (by decide)).1 (fun g6 J7 => ?_)
      refine ex_aload_n ok_X5_proposeNext (mi 19 rfl) rfl ?_
      refine ex_getRx ok_X5_proposeNext (mi 20 rfl) rfl rfl (fk (INV_5 J7 ha).1 0 rfl) (fr (INV_5 J7 ha).1 1 rfl) (fk (INV_5 J7 ha).1 5 rfl) (by decide) ?_
      refine ex_iload_n ok_X5_proposeNext (mi 21 rfl) rfl ?_
      refine ex_iload_n ok_X5_proposeNext (mi 22 rfl) rfl ?_
      refine sf_V (As := [_, _]) ok_X5_proposeNext (mi 23 rfl) rfl (s_X8_put hst J7 (LDR_sl ha)) rfl (fk (INV_5 J7 ha).1 5 rfl) rfl rfl (by decide) (by decide) (Nat.le_of_ble_eq_true rfl) (by decide) (fun z8 g9 p10 J11 => ?_)
      obtain rfl : z8 = none := p10
      refine ex_aload_n ok_X5_proposeNext (mi 24 rfl) rfl ?_
      refine ex_getRx ok_X5_proposeNext (mi 25 rfl) rfl rfl (fk (INV_5 J11 ha).1 0 rfl) (INV_5 J11 ha).2.1 (fk J11.1 1 rfl) (by decide) ?_
      refine ex_iconst ok_X5_proposeNext (mi 26 rfl) ?_
      refine ex_aload_n ok_X5_proposeNext (mi 27 rfl) rfl ?_
      refine sf_getI ok_X5_proposeNext (mi 28 rfl) rfl rfl (fk (INV_5 J11 ha).1 0 rfl) (fun v12 => ?_)
      refine ex_aload_n ok_X5_proposeNext (mi 29 rfl) rfl ?_
      refine sf_getI ok_X5_proposeNext (mi 30 rfl) rfl rfl (fk (INV_5 J11 ha).1 0 rfl) (fun v13 => ?_)
      refine ex_aload_n ok_X5_proposeNext (mi 31 rfl) rfl ?_
      refine sf_getI ok_X5_proposeNext (mi 32 rfl) rfl rfl (fk (INV_5 J11 ha).1 0 rfl) (fun v14 => ?_)
      refine ex_iload_n ok_X5_proposeNext (mi 33 rfl) rfl ?_
      refine ex_iload_n ok_X5_proposeNext (mi 34 rfl) rfl ?_
      refine sf_V (As := [_, _, _, _, _, _]) ok_X5_proposeNext (mi 35 rfl) rfl (s_X0_sendEach hst J11) rfl (fk J11.1 1 rfl) rfl rfl (by decide) (by decide) (Nat.le_of_ble_eq_true rfl) (by decide) (fun z15 g16 p17 J18 => ?_)
      obtain rfl : z15 = none := p17
      refine ex_iload_n ok_X5_proposeNext (mi 36 rfl) rfl ?_
      refine ex_iret ok_X5_proposeNext (mi 37 rfl) rfl ?_
      exact ⟨_, rfl, ⟨_, rfl⟩, J18⟩
    · skip
      refine ex_iconst ok_X5_proposeNext (mi 8 rfl) ?_
      refine ex_iret ok_X5_proposeNext (mi 9 rfl) rfl ?_
      exact ⟨_, rfl, ⟨_, rfl⟩, I⟩
theorem s_X5_startCollecting {G : GE} (hst : (ge_l G).stackTraces = false) {x : Nat} {U : UT} {g : GT} (I : INV x U g) {a : Nat} (ha : LDR x a) : ex_M G 3 0 0 my_X5_startCollecting [.ref a] g (SV x U pZ) := by
  refine ex_M_of ok_X5_startCollecting cw_X5_startCollecting rfl hst (Nat.le_of_ble_eq_true rfl) ?_
  refine ex_aload_n ok_X5_startCollecting (mi 0 rfl) rfl ?_
  refine sf_getI ok_X5_startCollecting (mi 1 rfl) rfl rfl (fk (INV_5 I ha).1 0 rfl) (fun v1 => ?_)
  refine ex_iconst ok_X5_startCollecting (mi 2 rfl) ?_
  refine ex_icmp_ne (tgt := 29) ok_X5_startCollecting (mi 3 rfl) rfl (fun h5 => ?_) (fun h5 => ?_)
  · skip
    refine ex_iconst ok_X5_startCollecting (mi 13 rfl) ?_
    refine ex_zret ok_X5_startCollecting (mi 14 rfl) rfl (by decide) ?_
    exact ⟨_, rfl, ⟨_, rfl, (by decide)⟩, I⟩
  · skip
    refine ex_aload_n ok_X5_startCollecting (mi 4 rfl) rfl ?_
    refine ex_getRx ok_X5_startCollecting (mi 5 rfl) rfl rfl (fk (INV_5 I ha).1 0 rfl) (fr (INV_5 I ha).1 1 rfl) (fk (INV_5 I ha).1 5 rfl) (by decide) ?_
    refine ex_aload_n ok_X5_startCollecting (mi 6 rfl) rfl ?_
    refine ex_getRx ok_X5_startCollecting (mi 7 rfl) rfl rfl (fk (INV_5 I ha).1 0 rfl) (fr (INV_5 I ha).1 1 rfl) (fk (INV_5 I ha).1 5 rfl) (by decide) ?_
    refine sf_Vp (As := []) ok_X5_startCollecting (mi 8 rfl) rfl (s_X8_firm hst I (LDR_sl ha)) rfl (fk (INV_5 I ha).1 5 rfl) rfl rfl (by decide) (by decide) (Nat.le_of_ble_eq_true rfl) (by decide) (fun z2 p4 => ?_)
    obtain ⟨v6, rfl⟩ := p4
    refine ex_aload_n ok_X5_startCollecting (mi 9 rfl) rfl ?_
    refine sf_getI ok_X5_startCollecting (mi 10 rfl) rfl rfl (fk (INV_5 I ha).1 0 rfl) (fun v7 => ?_)
    refine sf_Vp (As := [_, _]) ok_X5_startCollecting (mi 11 rfl) rfl (s_X8_areChosen hst I (LDR_sl ha)) rfl (fk (INV_5 I ha).1 5 rfl) rfl rfl (by decide) (by decide) (Nat.le_of_ble_eq_true rfl) (by decide) (fun z8 p10 => ?_)
    obtain ⟨v12, rfl, hbv12⟩ := p10
    refine ex_if_ne (tgt := 31) ok_X5_startCollecting (mi 12 rfl) rfl (fun h26 => ?_) (fun h26 => ?_)
    · skip
      refine ex_aload_n ok_X5_startCollecting (mi 15 rfl) rfl ?_
      refine ex_getRx ok_X5_startCollecting (mi 16 rfl) rfl rfl (fk (INV_5 I ha).1 0 rfl) (fr (INV_5 I ha).1 2 rfl) (fk (INV_5 I ha).1 10 rfl) (by decide) ?_
      refine sf_V (As := []) ok_X5_startCollecting (mi 17 rfl) rfl (s_X1_reset hst I (LDR_cl ha)) rfl (fk (INV_5 I ha).1 10 rfl) rfl rfl (by decide) (by decide) (Nat.le_of_ble_eq_true rfl) (by decide) (fun z13 g14 p15 J16 => ?_)
      obtain rfl : z13 = none := p15
      refine ex_aload_n ok_X5_startCollecting (mi 18 rfl) rfl ?_
      refine ex_getRx ok_X5_startCollecting (mi 19 rfl) rfl rfl (fk (INV_5 J16 ha).1 0 rfl) (fr (INV_5 J16 ha).1 2 rfl) (fk (INV_5 J16 ha).1 10 rfl) (by decide) ?_
      refine ex_iconst ok_X5_startCollecting (mi 20 rfl) ?_
      refine sf_putI J16 ok_X5_startCollecting (mi 21 rfl) rfl rfl (by decide) (by decide) (by decide +kernel) (fk (INV_5 J16 ha).1 10 rfl) (LDR_ne ha 10 (by decide)).1 (fun g17 J18 => ?_)
      refine ex_aload_n ok_X5_startCollecting (mi 22 rfl) rfl ?_
      refine ex_getRx ok_X5_startCollecting (mi 23 rfl) rfl rfl (fk (INV_5 J18 ha).1 0 rfl) (fr (INV_5 J18 ha).1 2 rfl) (fk (INV_5 J18 ha).1 10 rfl) (by decide) ?_
      refine ex_aload_n ok_X5_startCollecting (mi 24 rfl) rfl ?_
      refine ex_getRx ok_X5_startCollecting (mi 25 rfl) rfl rfl (fk (INV_5 J18 ha).1 0 rfl) (fr (INV_5 J18 ha).1 1 rfl) (fk (INV_5 J18 ha).1 5 rfl) (by decide) ?_
      refine sf_Vp (As := []) ok_X5_startCollecting (mi 26 rfl) rfl (s_X8_firm hst J18 (LDR_sl ha)) rfl (fk (INV_5 J18 ha).1 5 rfl) rfl rfl (by decide) (by decide) (Nat.le_of_ble_eq_true rfl) (by decide) (fun z19 p21 => ?_)
      obtain ⟨v23, rfl⟩ := p21
      refine sf_putI J18 ok_X5_startCollecting (mi 27 rfl) rfl rfl (by decide) (by decide) (by decide +kernel) (fk (INV_5 J18 ha).1 10 rfl) (LDR_ne ha 10 (by decide)).1 (fun g24 J25 => ?_)
      refine ex_aload_n ok_X5_startCollecting (mi 28 rfl) rfl ?_
      refine ex_getRx ok_X5_startCollecting (mi 29 rfl) rfl rfl (fk (INV_5 J25 ha).1 0 rfl) (INV_5 J25 ha).2.1 (fk J25.1 1 rfl) (by decide) ?_
      refine ex_bipush ok_X5_startCollecting (mi 30 rfl) ?_
      refine ex_aload_n ok_X5_startCollecting (mi 31 rfl) rfl ?_
      refine sf_getI ok_X5_startCollecting (mi 32 rfl) rfl rfl (fk (INV_5 J25 ha).1 0 rfl) (fun v26 => ?_)
      refine ex_aload_n ok_X5_startCollecting (mi 33 rfl) rfl ?_
      refine sf_getI ok_X5_startCollecting (mi 34 rfl) rfl rfl (fk (INV_5 J25 ha).1 0 rfl) (fun v27 => ?_)
      refine ex_aload_n ok_X5_startCollecting (mi 35 rfl) rfl ?_
      refine sf_getI ok_X5_startCollecting (mi 36 rfl) rfl rfl (fk (INV_5 J25 ha).1 0 rfl) (fun v28 => ?_)
      refine ex_aload_n ok_X5_startCollecting (mi 37 rfl) rfl ?_
      refine ex_getRx ok_X5_startCollecting (mi 38 rfl) rfl rfl (fk (INV_5 J25 ha).1 0 rfl) (fr (INV_5 J25 ha).1 2 rfl) (fk (INV_5 J25 ha).1 10 rfl) (by decide) ?_
      refine sf_getI ok_X5_startCollecting (mi 39 rfl) rfl rfl (fk (INV_5 J25 ha).1 10 rfl) (fun v29 => ?_)
      refine ex_iconst ok_X5_startCollecting (mi 40 rfl) ?_
      refine sf_V (As := [_, _, _, _, _, _]) ok_X5_startCollecting (mi 41 rfl) rfl (s_X0_sendEach hst J25) rfl (fk J25.1 1 rfl) rfl rfl (by decide) (by decide) (Nat.le_of_ble_eq_true rfl) (by decide) (fun z30 g31 p32 J33 => ?_)
      obtain rfl : z30 = none := p32
      refine ex_iconst ok_X5_startCollecting (mi 42 rfl) ?_
      refine ex_zret ok_X5_startCollecting (mi 43 rfl) rfl (by decide) ?_
      exact ⟨_, rfl, ⟨_, rfl, (by decide)⟩, J33⟩
    · skip
      refine ex_iconst ok_X5_startCollecting (mi 13 rfl) ?_
      refine ex_zret ok_X5_startCollecting (mi 14 rfl) rfl (by decide) ?_
      exact ⟨_, rfl, ⟨_, rfl, (by decide)⟩, I⟩
theorem s_X5_sendStageAgain {G : GE} (hst : (ge_l G).stackTraces = false) {x : Nat} {U : UT} {g : GT} (I : INV x U g) {a : Nat} (ha : LDR x a) : ex_M G 3 0 0 my_X5_sendStageAgain [.ref a] g (SV x U pN) := by
  refine ex_M_of ok_X5_sendStageAgain cw_X5_sendStageAgain rfl hst (Nat.le_of_ble_eq_true rfl) ?_
  refine ex_aload_n ok_X5_sendStageAgain (mi 0 rfl) rfl ?_
  refine ex_getRx ok_X5_sendStageAgain (mi 1 rfl) rfl rfl (fk (INV_5 I ha).1 0 rfl) (fr (INV_5 I ha).1 2 rfl) (fk (INV_5 I ha).1 10 rfl) (by decide) ?_
  refine sf_getI ok_X5_sendStageAgain (mi 2 rfl) rfl rfl (fk (INV_5 I ha).1 10 rfl) (fun v1 => ?_)
  refine ex_iconst ok_X5_sendStageAgain (mi 3 rfl) ?_
  refine ex_icmp_ne (tgt := 53) ok_X5_sendStageAgain (mi 4 rfl) rfl (fun h8 => ?_) (fun h8 => ?_)
  · skip
    refine ex_aload_n ok_X5_sendStageAgain (mi 26 rfl) rfl ?_
    refine ex_getRx ok_X5_sendStageAgain (mi 27 rfl) rfl rfl (fk (INV_5 I ha).1 0 rfl) (fr (INV_5 I ha).1 2 rfl) (fk (INV_5 I ha).1 10 rfl) (by decide) ?_
    refine sf_getI ok_X5_sendStageAgain (mi 28 rfl) rfl rfl (fk (INV_5 I ha).1 10 rfl) (fun v2 => ?_)
    refine ex_iconst ok_X5_sendStageAgain (mi 29 rfl) ?_
    refine ex_icmp_ne (tgt := 109) ok_X5_sendStageAgain (mi 30 rfl) rfl (fun h61 => ?_) (fun h61 => ?_)
    · skip
      refine ex_aload_n ok_X5_sendStageAgain (mi 53 rfl) rfl ?_
      refine ex_getRx ok_X5_sendStageAgain (mi 54 rfl) rfl rfl (fk (INV_5 I ha).1 0 rfl) (fr (INV_5 I ha).1 2 rfl) (fk (INV_5 I ha).1 10 rfl) (by decide) ?_
      refine sf_getI ok_X5_sendStageAgain (mi 55 rfl) rfl rfl (fk (INV_5 I ha).1 10 rfl) (fun v3 => ?_)
      refine ex_iconst ok_X5_sendStageAgain (mi 56 rfl) ?_
      refine ex_icmp_ne (tgt := 156) ok_X5_sendStageAgain (mi 57 rfl) rfl (fun h117 => ?_) (fun h117 => ?_)
      · skip
        refine ex_vret ok_X5_sendStageAgain (mi 77 rfl) rfl ?_
        exact ⟨_, rfl, rfl, I⟩
      · skip
        refine ex_aload_n ok_X5_sendStageAgain (mi 58 rfl) rfl ?_
        refine ex_getRx ok_X5_sendStageAgain (mi 59 rfl) rfl rfl (fk (INV_5 I ha).1 0 rfl) (INV_5 I ha).2.1 (fk I.1 1 rfl) (by decide) ?_
        refine ex_bipush ok_X5_sendStageAgain (mi 60 rfl) ?_
        refine ex_aload_n ok_X5_sendStageAgain (mi 61 rfl) rfl ?_
        refine sf_getI ok_X5_sendStageAgain (mi 62 rfl) rfl rfl (fk (INV_5 I ha).1 0 rfl) (fun v4 => ?_)
        refine ex_aload_n ok_X5_sendStageAgain (mi 63 rfl) rfl ?_
        refine ex_getRx ok_X5_sendStageAgain (mi 64 rfl) rfl rfl (fk (INV_5 I ha).1 0 rfl) (fr (INV_5 I ha).1 2 rfl) (fk (INV_5 I ha).1 10 rfl) (by decide) ?_
        refine sf_getI ok_X5_sendStageAgain (mi 65 rfl) rfl rfl (fk (INV_5 I ha).1 10 rfl) (fun v5 => ?_)
        refine ex_aload_n ok_X5_sendStageAgain (mi 66 rfl) rfl ?_
        refine ex_getRx ok_X5_sendStageAgain (mi 67 rfl) rfl rfl (fk (INV_5 I ha).1 0 rfl) (fr (INV_5 I ha).1 2 rfl) (fk (INV_5 I ha).1 10 rfl) (by decide) ?_
        refine sf_getI ok_X5_sendStageAgain (mi 68 rfl) rfl rfl (fk (INV_5 I ha).1 10 rfl) (fun v6 => ?_)
        refine ex_iconst ok_X5_sendStageAgain (mi 69 rfl) ?_
        refine ex_ixor ok_X5_sendStageAgain (mi 70 rfl) ?_
        refine ex_gen (fun w7 => ?_)
        refine ex_iand ok_X5_sendStageAgain (mi 71 rfl) ?_
        refine ex_gen (fun w8 => ?_)
        refine ex_aload_n ok_X5_sendStageAgain (mi 72 rfl) rfl ?_
        refine sf_getI ok_X5_sendStageAgain (mi 73 rfl) rfl rfl (fk (INV_5 I ha).1 0 rfl) (fun v9 => ?_)
        refine ex_iconst ok_X5_sendStageAgain (mi 74 rfl) ?_
        refine ex_iconst ok_X5_sendStageAgain (mi 75 rfl) ?_
        refine sf_V (As := [_, _, _, _, _, _]) ok_X5_sendStageAgain (mi 76 rfl) rfl (s_X0_sendEach hst I) rfl (fk I.1 1 rfl) rfl rfl (by decide) (by decide) (Nat.le_of_ble_eq_true rfl) (by decide) (fun z10 g11 p12 J13 => ?_)
        obtain rfl : z10 = none := p12
        refine ex_vret ok_X5_sendStageAgain (mi 77 rfl) rfl ?_
        exact ⟨_, rfl, rfl, J13⟩
    · skip
      refine ex_aload_n ok_X5_sendStageAgain (mi 31 rfl) rfl ?_
      refine ex_getRx ok_X5_sendStageAgain (mi 32 rfl) rfl rfl (fk (INV_5 I ha).1 0 rfl) (INV_5 I ha).2.1 (fk I.1 1 rfl) (by decide) ?_
      refine ex_bipush ok_X5_sendStageAgain (mi 33 rfl) ?_
      refine ex_aload_n ok_X5_sendStageAgain (mi 34 rfl) rfl ?_
      refine sf_getI ok_X5_sendStageAgain (mi 35 rfl) rfl rfl (fk (INV_5 I ha).1 0 rfl) (fun v14 => ?_)
      refine ex_aload_n ok_X5_sendStageAgain (mi 36 rfl) rfl ?_
      refine ex_getRx ok_X5_sendStageAgain (mi 37 rfl) rfl rfl (fk (INV_5 I ha).1 0 rfl) (fr (INV_5 I ha).1 0 rfl) (fk (INV_5 I ha).1 3 rfl) (by decide) ?_
      refine sf_getI ok_X5_sendStageAgain (mi 38 rfl) rfl rfl (fk (INV_5 I ha).1 3 rfl) (fun v15 => ?_)
      refine ex_aload_n ok_X5_sendStageAgain (mi 39 rfl) rfl ?_
      refine ex_getRx ok_X5_sendStageAgain (mi 40 rfl) rfl rfl (fk (INV_5 I ha).1 0 rfl) (fr (INV_5 I ha).1 2 rfl) (fk (INV_5 I ha).1 10 rfl) (by decide) ?_
      refine sf_getI ok_X5_sendStageAgain (mi 41 rfl) rfl rfl (fk (INV_5 I ha).1 10 rfl) (fun v16 => ?_)
      refine ex_iconst ok_X5_sendStageAgain (mi 42 rfl) ?_
      refine ex_ixor ok_X5_sendStageAgain (mi 43 rfl) ?_
      refine ex_gen (fun w17 => ?_)
      refine ex_iand ok_X5_sendStageAgain (mi 44 rfl) ?_
      refine ex_gen (fun w18 => ?_)
      refine ex_aload_n ok_X5_sendStageAgain (mi 45 rfl) rfl ?_
      refine ex_getRx ok_X5_sendStageAgain (mi 46 rfl) rfl rfl (fk (INV_5 I ha).1 0 rfl) (fr (INV_5 I ha).1 0 rfl) (fk (INV_5 I ha).1 3 rfl) (by decide) ?_
      refine sf_getI ok_X5_sendStageAgain (mi 47 rfl) rfl rfl (fk (INV_5 I ha).1 3 rfl) (fun v19 => ?_)
      refine ex_aload_n ok_X5_sendStageAgain (mi 48 rfl) rfl ?_
      refine sf_getI ok_X5_sendStageAgain (mi 49 rfl) rfl rfl (fk (INV_5 I ha).1 0 rfl) (fun v20 => ?_)
      refine ex_iconst ok_X5_sendStageAgain (mi 50 rfl) ?_
      refine sf_V (As := [_, _, _, _, _, _]) ok_X5_sendStageAgain (mi 51 rfl) rfl (s_X0_sendEach hst I) rfl (fk I.1 1 rfl) rfl rfl (by decide) (by decide) (Nat.le_of_ble_eq_true rfl) (by decide) (fun z21 g22 p23 J24 => ?_)
      obtain rfl : z21 = none := p23
      refine ex_goto (tgt := 156) ok_X5_sendStageAgain (mi 52 rfl) rfl ?_
      refine ex_vret ok_X5_sendStageAgain (mi 77 rfl) rfl ?_
      exact ⟨_, rfl, rfl, J24⟩
  · skip
    refine ex_aload_n ok_X5_sendStageAgain (mi 5 rfl) rfl ?_
    refine ex_getRx ok_X5_sendStageAgain (mi 6 rfl) rfl rfl (fk (INV_5 I ha).1 0 rfl) (INV_5 I ha).2.1 (fk I.1 1 rfl) (by decide) ?_
    refine ex_bipush ok_X5_sendStageAgain (mi 7 rfl) ?_
    refine ex_aload_n ok_X5_sendStageAgain (mi 8 rfl) rfl ?_
    refine sf_getI ok_X5_sendStageAgain (mi 9 rfl) rfl rfl (fk (INV_5 I ha).1 0 rfl) (fun v25 => ?_)
    refine ex_aload_n ok_X5_sendStageAgain (mi 10 rfl) rfl ?_
    refine sf_getI ok_X5_sendStageAgain (mi 11 rfl) rfl rfl (fk (INV_5 I ha).1 0 rfl) (fun v26 => ?_)
    refine ex_aload_n ok_X5_sendStageAgain (mi 12 rfl) rfl ?_
    refine ex_getRx ok_X5_sendStageAgain (mi 13 rfl) rfl rfl (fk (INV_5 I ha).1 0 rfl) (fr (INV_5 I ha).1 2 rfl) (fk (INV_5 I ha).1 10 rfl) (by decide) ?_
    refine sf_getI ok_X5_sendStageAgain (mi 14 rfl) rfl rfl (fk (INV_5 I ha).1 10 rfl) (fun v27 => ?_)
    refine ex_iconst ok_X5_sendStageAgain (mi 15 rfl) ?_
    refine ex_ixor ok_X5_sendStageAgain (mi 16 rfl) ?_
    refine ex_gen (fun w28 => ?_)
    refine ex_iand ok_X5_sendStageAgain (mi 17 rfl) ?_
    refine ex_gen (fun w29 => ?_)
    refine ex_aload_n ok_X5_sendStageAgain (mi 18 rfl) rfl ?_
    refine sf_getI ok_X5_sendStageAgain (mi 19 rfl) rfl rfl (fk (INV_5 I ha).1 0 rfl) (fun v30 => ?_)
    refine ex_aload_n ok_X5_sendStageAgain (mi 20 rfl) rfl ?_
    refine ex_getRx ok_X5_sendStageAgain (mi 21 rfl) rfl rfl (fk (INV_5 I ha).1 0 rfl) (fr (INV_5 I ha).1 2 rfl) (fk (INV_5 I ha).1 10 rfl) (by decide) ?_
    refine sf_getI ok_X5_sendStageAgain (mi 22 rfl) rfl rfl (fk (INV_5 I ha).1 10 rfl) (fun v31 => ?_)
    refine ex_iconst ok_X5_sendStageAgain (mi 23 rfl) ?_
    refine sf_V (As := [_, _, _, _, _, _]) ok_X5_sendStageAgain (mi 24 rfl) rfl (s_X0_sendEach hst I) rfl (fk I.1 1 rfl) rfl rfl (by decide) (by decide) (Nat.le_of_ble_eq_true rfl) (by decide) (fun z32 g33 p34 J35 => ?_)
    obtain rfl : z32 = none := p34
    refine ex_goto (tgt := 156) ok_X5_sendStageAgain (mi 25 rfl) rfl ?_
    refine ex_vret ok_X5_sendStageAgain (mi 77 rfl) rfl ?_
    exact ⟨_, rfl, rfl, J35⟩
theorem s_X5_sendAgain {G : GE} (hst : (ge_l G).stackTraces = false) {x : Nat} {U : UT} {g : GT} (I : INV x U g) {a : Nat} (ha : LDR x a) : ex_M G 4 0 0 my_X5_sendAgain [.ref a] g (SV x U pN) := by
  refine ex_M_of ok_X5_sendAgain cw_X5_sendAgain rfl hst (Nat.le_of_ble_eq_true rfl) ?_
  refine ex_aload_n ok_X5_sendAgain (mi 0 rfl) rfl ?_
  refine sf_getI ok_X5_sendAgain (mi 1 rfl) rfl rfl (fk (INV_5 I ha).1 0 rfl) (fun v1 => ?_)
  refine ex_iconst ok_X5_sendAgain (mi 2 rfl) ?_
  refine ex_icmp_ne (tgt := 52) ok_X5_sendAgain (mi 3 rfl) rfl (fun h5 => ?_) (fun h5 => ?_)
  · skip
    refine ex_aload_n ok_X5_sendAgain (mi 26 rfl) rfl ?_
    refine sf_getI ok_X5_sendAgain (mi 27 rfl) rfl rfl (fk (INV_5 I ha).1 0 rfl) (fun v2 => ?_)
    refine ex_iconst ok_X5_sendAgain (mi 28 rfl) ?_
    refine ex_icmp_ne (tgt := 92) ok_X5_sendAgain (mi 29 rfl) rfl (fun h57 => ?_) (fun h57 => ?_)
    · skip
      refine ex_aload_n ok_X5_sendAgain (mi 48 rfl) rfl ?_
      refine sf_getI ok_X5_sendAgain (mi 49 rfl) rfl rfl (fk (INV_5 I ha).1 0 rfl) (fun v3 => ?_)
      refine ex_iconst ok_X5_sendAgain (mi 50 rfl) ?_
      refine ex_icmp_ne (tgt := 119) ok_X5_sendAgain (mi 51 rfl) rfl (fun h97 => ?_) (fun h97 => ?_)
      · skip
        refine ex_aload_n ok_X5_sendAgain (mi 61 rfl) rfl ?_
        refine ex_getRx ok_X5_sendAgain (mi 62 rfl) rfl rfl (fk (INV_5 I ha).1 0 rfl) (fr (INV_5 I ha).1 0 rfl) (fk (INV_5 I ha).1 3 rfl) (by decide) ?_
        refine sf_V (As := []) ok_X5_sendAgain (mi 63 rfl) rfl (s_X4_sendStep hst I (LDR_kg ha)) rfl (fk (INV_5 I ha).1 3 rfl) rfl rfl (by decide) (by decide) (Nat.le_of_ble_eq_true rfl) (by decide) (fun z4 g5 p6 J7 => ?_)
        obtain rfl : z4 = none := p6
        refine ex_vret ok_X5_sendAgain (mi 64 rfl) rfl ?_
        exact ⟨_, rfl, rfl, J7⟩
      · skip
        refine ex_aload_n ok_X5_sendAgain (mi 52 rfl) rfl ?_
        refine ex_getRx ok_X5_sendAgain (mi 53 rfl) rfl rfl (fk (INV_5 I ha).1 0 rfl) (fr (INV_5 I ha).1 1 rfl) (fk (INV_5 I ha).1 5 rfl) (by decide) ?_
        refine ex_aload_n ok_X5_sendAgain (mi 54 rfl) rfl ?_
        refine sf_getI ok_X5_sendAgain (mi 55 rfl) rfl rfl (fk (INV_5 I ha).1 0 rfl) (fun v8 => ?_)
        refine ex_aload_n ok_X5_sendAgain (mi 56 rfl) rfl ?_
        refine sf_getI ok_X5_sendAgain (mi 57 rfl) rfl rfl (fk (INV_5 I ha).1 0 rfl) (fun v9 => ?_)
        refine sf_V (As := [_, _]) ok_X5_sendAgain (mi 58 rfl) rfl (s_X8_sendAgain hst I (LDR_sl ha)) rfl (fk (INV_5 I ha).1 5 rfl) rfl rfl (by decide) (by decide) (Nat.le_of_ble_eq_true rfl) (by decide) (fun z10 g11 p12 J13 => ?_)
        obtain rfl : z10 = none := p12
        refine ex_aload_n ok_X5_sendAgain (mi 59 rfl) rfl ?_
        refine sf_V (As := []) ok_X5_sendAgain (mi 60 rfl) rfl (s_X5_sendStageAgain hst J13 ha) rfl (fk (INV_5 J13 ha).1 0 rfl) rfl rfl (by decide) (by decide) (Nat.le_of_ble_eq_true rfl) (by decide) (fun z14 g15 p16 J17 => ?_)
        obtain rfl : z14 = none := p16
        refine ex_aload_n ok_X5_sendAgain (mi 61 rfl) rfl ?_
        refine ex_getRx ok_X5_sendAgain (mi 62 rfl) rfl rfl (fk (INV_5 J17 ha).1 0 rfl) (fr (INV_5 J17 ha).1 0 rfl) (fk (INV_5 J17 ha).1 3 rfl) (by decide) ?_
        refine sf_V (As := []) ok_X5_sendAgain (mi 63 rfl) rfl (s_X4_sendStep hst J17 (LDR_kg ha)) rfl (fk (INV_5 J17 ha).1 3 rfl) rfl rfl (by decide) (by decide) (Nat.le_of_ble_eq_true rfl) (by decide) (fun z18 g19 p20 J21 => ?_)
        obtain rfl : z18 = none := p20
        refine ex_vret ok_X5_sendAgain (mi 64 rfl) rfl ?_
        exact ⟨_, rfl, rfl, J21⟩
    · skip
      refine ex_aload_n ok_X5_sendAgain (mi 30 rfl) rfl ?_
      refine ex_getRx ok_X5_sendAgain (mi 31 rfl) rfl rfl (fk (INV_5 I ha).1 0 rfl) (INV_5 I ha).2.1 (fk I.1 1 rfl) (by decide) ?_
      refine ex_iconst ok_X5_sendAgain (mi 32 rfl) ?_
      refine ex_aload_n ok_X5_sendAgain (mi 33 rfl) rfl ?_
      refine sf_getI ok_X5_sendAgain (mi 34 rfl) rfl rfl (fk (INV_5 I ha).1 0 rfl) (fun v22 => ?_)
      refine ex_aload_n ok_X5_sendAgain (mi 35 rfl) rfl ?_
      refine sf_Vp (As := []) ok_X5_sendAgain (mi 36 rfl) rfl (s_X5_historyVoters hst I ha) rfl (fk (INV_5 I ha).1 0 rfl) rfl rfl (by decide) (by decide) (Nat.le_of_ble_eq_true rfl) (by decide) (fun z23 p25 => ?_)
      obtain ⟨v27, rfl⟩ := p25
      refine ex_aload_n ok_X5_sendAgain (mi 37 rfl) rfl ?_
      refine sf_getI ok_X5_sendAgain (mi 38 rfl) rfl rfl (fk (INV_5 I ha).1 0 rfl) (fun v28 => ?_)
      refine ex_iconst ok_X5_sendAgain (mi 39 rfl) ?_
      refine ex_ixor ok_X5_sendAgain (mi 40 rfl) ?_
      refine ex_gen (fun w29 => ?_)
      refine ex_iand ok_X5_sendAgain (mi 41 rfl) ?_
      refine ex_gen (fun w30 => ?_)
      refine ex_aload_n ok_X5_sendAgain (mi 42 rfl) rfl ?_
      refine sf_getI ok_X5_sendAgain (mi 43 rfl) rfl rfl (fk (INV_5 I ha).1 0 rfl) (fun v31 => ?_)
      refine ex_iconst ok_X5_sendAgain (mi 44 rfl) ?_
      refine ex_iconst ok_X5_sendAgain (mi 45 rfl) ?_
      refine sf_V (As := [_, _, _, _, _, _]) ok_X5_sendAgain (mi 46 rfl) rfl (s_X0_sendEach hst I) rfl (fk I.1 1 rfl) rfl rfl (by decide) (by decide) (Nat.le_of_ble_eq_true rfl) (by decide) (fun z32 g33 p34 J35 => ?_)
      obtain rfl : z32 = none := p34
      refine ex_goto (tgt := 119) ok_X5_sendAgain (mi 47 rfl) rfl ?_
      refine ex_aload_n ok_X5_sendAgain (mi 61 rfl) rfl ?_
      refine ex_getRx ok_X5_sendAgain (mi 62 rfl) rfl rfl (fk (INV_5 J35 ha).1 0 rfl) (fr (INV_5 J35 ha).1 0 rfl) (fk (INV_5 J35 ha).1 3 rfl) (by decide) ?_
      refine sf_V (As := []) ok_X5_sendAgain (mi 63 rfl) rfl (s_X4_sendStep hst J35 (LDR_kg ha)) rfl (fk (INV_5 J35 ha).1 3 rfl) rfl rfl (by decide) (by decide) (Nat.le_of_ble_eq_true rfl) (by decide) (fun z36 g37 p38 J39 => ?_)
      obtain rfl : z36 = none := p38
      refine ex_vret ok_X5_sendAgain (mi 64 rfl) rfl ?_
      exact ⟨_, rfl, rfl, J39⟩
  · skip
    refine ex_aload_n ok_X5_sendAgain (mi 4 rfl) rfl ?_
    refine ex_getRx ok_X5_sendAgain (mi 5 rfl) rfl rfl (fk (INV_5 I ha).1 0 rfl) (INV_5 I ha).2.1 (fk I.1 1 rfl) (by decide) ?_
    refine ex_iconst ok_X5_sendAgain (mi 6 rfl) ?_
    refine ex_aload_n ok_X5_sendAgain (mi 7 rfl) rfl ?_
    refine sf_getI ok_X5_sendAgain (mi 8 rfl) rfl rfl (fk (INV_5 I ha).1 0 rfl) (fun v40 => ?_)
    refine ex_aload_n ok_X5_sendAgain (mi 9 rfl) rfl ?_
    refine ex_getRx ok_X5_sendAgain (mi 10 rfl) rfl rfl (fk (INV_5 I ha).1 0 rfl) (fr (INV_5 I ha).1 0 rfl) (fk (INV_5 I ha).1 3 rfl) (by decide) ?_
    refine sf_getI ok_X5_sendAgain (mi 11 rfl) rfl rfl (fk (INV_5 I ha).1 3 rfl) (fun v41 => ?_)
    refine ex_aload_n ok_X5_sendAgain (mi 12 rfl) rfl ?_
    refine sf_getI ok_X5_sendAgain (mi 13 rfl) rfl rfl (fk (INV_5 I ha).1 0 rfl) (fun v42 => ?_)
    refine ex_iconst ok_X5_sendAgain (mi 14 rfl) ?_
    refine ex_ixor ok_X5_sendAgain (mi 15 rfl) ?_
    refine ex_gen (fun w43 => ?_)
    refine ex_iand ok_X5_sendAgain (mi 16 rfl) ?_
    refine ex_gen (fun w44 => ?_)
    refine ex_aload_n ok_X5_sendAgain (mi 17 rfl) rfl ?_
    refine ex_getRx ok_X5_sendAgain (mi 18 rfl) rfl rfl (fk (INV_5 I ha).1 0 rfl) (fr (INV_5 I ha).1 0 rfl) (fk (INV_5 I ha).1 3 rfl) (by decide) ?_
    refine sf_getI ok_X5_sendAgain (mi 19 rfl) rfl rfl (fk (INV_5 I ha).1 3 rfl) (fun v45 => ?_)
    refine ex_aload_n ok_X5_sendAgain (mi 20 rfl) rfl ?_
    refine sf_getI ok_X5_sendAgain (mi 21 rfl) rfl rfl (fk (INV_5 I ha).1 0 rfl) (fun v46 => ?_)
    refine ex_aload_n ok_X5_sendAgain (mi 22 rfl) rfl ?_
    refine sf_getI ok_X5_sendAgain (mi 23 rfl) rfl rfl (fk (INV_5 I ha).1 0 rfl) (fun v47 => ?_)
    refine sf_V (As := [_, _, _, _, _, _]) ok_X5_sendAgain (mi 24 rfl) rfl (s_X0_sendEach hst I) rfl (fk I.1 1 rfl) rfl rfl (by decide) (by decide) (Nat.le_of_ble_eq_true rfl) (by decide) (fun z48 g49 p50 J51 => ?_)
    obtain rfl : z48 = none := p50
    refine ex_goto (tgt := 119) ok_X5_sendAgain (mi 25 rfl) rfl ?_
    refine ex_aload_n ok_X5_sendAgain (mi 61 rfl) rfl ?_
    refine ex_getRx ok_X5_sendAgain (mi 62 rfl) rfl rfl (fk (INV_5 J51 ha).1 0 rfl) (fr (INV_5 J51 ha).1 0 rfl) (fk (INV_5 J51 ha).1 3 rfl) (by decide) ?_
    refine sf_V (As := []) ok_X5_sendAgain (mi 63 rfl) rfl (s_X4_sendStep hst J51 (LDR_kg ha)) rfl (fk (INV_5 J51 ha).1 3 rfl) rfl rfl (by decide) (by decide) (Nat.le_of_ble_eq_true rfl) (by decide) (fun z52 g53 p54 J55 => ?_)
    obtain rfl : z52 = none := p54
    refine ex_vret ok_X5_sendAgain (mi 64 rfl) rfl ?_
    exact ⟨_, rfl, rfl, J55⟩
