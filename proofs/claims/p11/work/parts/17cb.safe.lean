theorem s_X9_agree {G : GE} (hst : (ge_l G).stackTraces = false) {x : Nat} {U : UT} {g : GT} (I : INV x U g) {p0 : Int32} {p1 : Int32} (hk : vp_in p0 16) : ex_M G 1 0 0 my_X9_agree [.ref (x + 808), .int p0, .int p1] g (SV x U pN) := by
  refine ex_M_of ok_X9_agree cw_X9_agree rfl hst (Nat.le_of_ble_eq_true rfl) ?_
  refine ex_aload_n ok_X9_agree (mi 0 rfl) rfl ?_
  refine ex_getRx ok_X9_agree (mi 1 rfl) rfl rfl (fk I.1 4 rfl) (fr I.1 5 rfl) (fk I.1 6 rfl) (by decide) ?_
  refine ex_iload_n ok_X9_agree (mi 2 rfl) rfl ?_
  refine sf_iald ok_X9_agree (mi 3 rfl) (fk I.1 6 rfl) (fn I.1 6 rfl) hk (fun v1 => ?_)
  refine ex_iconst ok_X9_agree (mi 4 rfl) ?_
  refine ex_icmp_ne (tgt := 20) ok_X9_agree (mi 5 rfl) rfl (fun h7 => ?_) (fun h7 => ?_)
  · skip
    refine ex_aload_n ok_X9_agree (mi 12 rfl) rfl ?_
    refine ex_getRx ok_X9_agree (mi 13 rfl) rfl rfl (fk I.1 4 rfl) (fr I.1 5 rfl) (fk I.1 6 rfl) (by decide) ?_
    refine ex_iload_n ok_X9_agree (mi 14 rfl) rfl ?_
    refine sf_iald ok_X9_agree (mi 15 rfl) (fk I.1 6 rfl) (fn I.1 6 rfl) hk (fun v2 => ?_)
    refine ex_iload_n ok_X9_agree (mi 16 rfl) rfl ?_
    refine ex_icmp_ne (tgt := 41) ok_X9_agree (mi 17 rfl) rfl (fun h27 => ?_) (fun h27 => ?_)
    · skip
      refine ex_aload_n ok_X9_agree (mi 25 rfl) rfl ?_
      refine ex_dup ok_X9_agree (mi 26 rfl) rfl ?_
      refine sf_getI ok_X9_agree (mi 27 rfl) rfl rfl (fk I.1 4 rfl) (fun v3 => ?_)
      refine ex_iconst ok_X9_agree (mi 28 rfl) ?_
      refine ex_iload_n ok_X9_agree (mi 29 rfl) rfl ?_
      refine ex_ishl ok_X9_agree (mi 30 rfl) ?_
      refine ex_gen (fun w4 => ?_)
      refine ex_ior ok_X9_agree (mi 31 rfl) ?_
      refine ex_gen (fun w5 => ?_)
      refine sf_putI I ok_X9_agree (mi 32 rfl) rfl rfl (by decide) (by decide) (by decide +kernel) (fk I.1 4 rfl) ⟨by omega, by omega⟩ (fun g6 J7 => ?_)
      refine ex_aload_n ok_X9_agree (mi 33 rfl) rfl ?_
      refine ex_dup ok_X9_agree (mi 34 rfl) rfl ?_
      refine sf_getI ok_X9_agree (mi 35 rfl) rfl rfl (fk J7.1 4 rfl) (fun v8 => ?_)
      refine ex_iconst ok_X9_agree (mi 36 rfl) ?_
      refine ex_iadd ok_X9_agree (mi 37 rfl) ?_
      refine ex_gen (fun w9 => ?_)
      refine sf_putI J7 ok_X9_agree (mi 38 rfl) rfl rfl (by decide) (by decide) (by decide +kernel) (fk J7.1 4 rfl) ⟨by omega, by omega⟩ (fun g10 J11 => ?_)
      refine ex_vret ok_X9_agree (mi 39 rfl) rfl ?_
      exact ⟨_, rfl, rfl, J11⟩
    · skip
      refine ex_aload_n ok_X9_agree (mi 18 rfl) rfl ?_
      refine sf_getI ok_X9_agree (mi 19 rfl) rfl rfl (fk I.1 4 rfl) (fun v12 => ?_)
      refine ex_iload_n ok_X9_agree (mi 20 rfl) rfl ?_
      refine ex_ishr ok_X9_agree (mi 21 rfl) ?_
      refine ex_gen (fun w13 => ?_)
      refine ex_iconst ok_X9_agree (mi 22 rfl) ?_
      refine ex_iand ok_X9_agree (mi 23 rfl) ?_
      refine ex_gen (fun w14 => ?_)
      refine ex_if_eq (tgt := 63) ok_X9_agree (mi 24 rfl) rfl (fun h38 => ?_) (fun h38 => ?_)
      · skip
        refine ex_vret ok_X9_agree (mi 39 rfl) rfl ?_
        exact ⟨_, rfl, rfl, I⟩
      · skip
        refine ex_aload_n ok_X9_agree (mi 25 rfl) rfl ?_
        refine ex_dup ok_X9_agree (mi 26 rfl) rfl ?_
        refine sf_getI ok_X9_agree (mi 27 rfl) rfl rfl (fk I.1 4 rfl) (fun v15 => ?_)
        refine ex_iconst ok_X9_agree (mi 28 rfl) ?_
        refine ex_iload_n ok_X9_agree (mi 29 rfl) rfl ?_
        refine ex_ishl ok_X9_agree (mi 30 rfl) ?_
        refine ex_gen (fun w16 => ?_)
        refine ex_ior ok_X9_agree (mi 31 rfl) ?_
        refine ex_gen (fun w17 => ?_)
        refine sf_putI I ok_X9_agree (mi 32 rfl) rfl rfl (by decide) (by decide) (by decide +kernel) (fk I.1 4 rfl) ⟨by omega, by omega⟩ (fun g18 J19 => ?_)
        refine ex_aload_n ok_X9_agree (mi 33 rfl) rfl ?_
        refine ex_dup ok_X9_agree (mi 34 rfl) rfl ?_
        refine sf_getI ok_X9_agree (mi 35 rfl) rfl rfl (fk J19.1 4 rfl) (fun v20 => ?_)
        refine ex_iconst ok_X9_agree (mi 36 rfl) ?_
        refine ex_iadd ok_X9_agree (mi 37 rfl) ?_
        refine ex_gen (fun w21 => ?_)
        refine sf_putI J19 ok_X9_agree (mi 38 rfl) rfl rfl (by decide) (by decide) (by decide +kernel) (fk J19.1 4 rfl) ⟨by omega, by omega⟩ (fun g22 J23 => ?_)
        refine ex_vret ok_X9_agree (mi 39 rfl) rfl ?_
        exact ⟨_, rfl, rfl, J23⟩
  · skip
    refine ex_aload_n ok_X9_agree (mi 6 rfl) rfl ?_
    refine ex_getRx ok_X9_agree (mi 7 rfl) rfl rfl (fk I.1 4 rfl) (fr I.1 5 rfl) (fk I.1 6 rfl) (by decide) ?_
    refine ex_iload_n ok_X9_agree (mi 8 rfl) rfl ?_
    refine ex_iload_n ok_X9_agree (mi 9 rfl) rfl ?_
    refine sf_iast I ok_X9_agree (mi 10 rfl) (fk I.1 6 rfl) (fn I.1 6 rfl) hk ⟨⟨by omega, by omega⟩, by omega⟩ (fun g24 J25 => ?_)
    refine ex_goto (tgt := 63) ok_X9_agree (mi 11 rfl) rfl ?_
    refine ex_vret ok_X9_agree (mi 39 rfl) rfl ?_
    exact ⟨_, rfl, rfl, J25⟩
theorem s_X9_note {G : GE} (hst : (ge_l G).stackTraces = false) {x : Nat} {U : UT} {g : GT} (I : INV x U g) {p0 : Int32} {p1 : Int32} {p2 : Int32} {p3 : Int32} : ex_M G 3 0 0 my_X9_note [.ref (x + 808), .int p0, .int p1, .int p2, .int p3] g (SV x U pN) := by
  refine ex_M_of ok_X9_note cw_X9_note rfl hst (Nat.le_of_ble_eq_true rfl) ?_
  refine ex_iload_n ok_X9_note (mi 0 rfl) rfl ?_
  refine ex_if_lt (tgt := 18) ok_X9_note (mi 1 rfl) rfl (fun h1 => ?_) (fun h1 => ?_)
  · skip
    refine ex_vret ok_X9_note (mi 8 rfl) rfl ?_
    exact ⟨_, rfl, rfl, I⟩
  · skip
    refine ex_iload_n ok_X9_note (mi 2 rfl) rfl ?_
    refine ex_sipush ok_X9_note (mi 3 rfl) ?_
    refine ex_icmp_ge (tgt := 18) ok_X9_note (mi 4 rfl) rfl (fun h8 => ?_) (fun h8 => ?_)
    · skip
      refine ex_vret ok_X9_note (mi 8 rfl) rfl ?_
      exact ⟨_, rfl, rfl, I⟩
    · skip
      refine ex_iload_n ok_X9_note (mi 5 rfl) rfl ?_
      refine sf_SNp (As := [_]) ok_X9_note (mi 6 rfl) rfl (s_X11_isSlot hst I) rfl (List.mem_of_getElem? (i := 9) rfl) rfl rfl (by decide) (Nat.le_of_ble_eq_true rfl) (by decide) (fun z1 p3 => ?_)
      obtain ⟨v5, rfl, hbv5, hfv5⟩ := p3
      refine ex_if_ne (tgt := 19) ok_X9_note (mi 7 rfl) rfl (fun h15 => ?_) (fun h15 => ?_)
      · skip
        refine ex_iload_n ok_X9_note (mi 9 rfl) rfl ?_
        refine ex_iconst ok_X9_note (mi 10 rfl) ?_
        refine ex_imul ok_X9_note (mi 11 rfl) ?_
        refine ex_iload_n ok_X9_note (mi 12 rfl) rfl ?_
        refine ex_iconst ok_X9_note (mi 13 rfl) ?_
        refine ex_idiv ok_X9_note (mi 14 rfl) (by decide) ?_
        refine ex_iadd ok_X9_note (mi 15 rfl) ?_
        refine ex_istore ok_X9_note (mi 16 rfl) ?_
        refine ex_iload_n ok_X9_note (mi 17 rfl) rfl ?_
        refine ex_iconst ok_X9_note (mi 18 rfl) ?_
        refine ex_irem ok_X9_note (mi 19 rfl) (by decide) ?_
        refine ex_gen (fun w6 => ?_)
        refine ex_bipush ok_X9_note (mi 20 rfl) ?_
        refine ex_imul ok_X9_note (mi 21 rfl) ?_
        refine ex_gen (fun w7 => ?_)
        refine ex_istore ok_X9_note (mi 22 rfl) ?_
        refine ex_aload_n ok_X9_note (mi 23 rfl) rfl ?_
        refine ex_getRx ok_X9_note (mi 24 rfl) rfl rfl (fk I.1 4 rfl) (fr I.1 4 rfl) (fk I.1 5 rfl) (by decide) ?_
        refine ex_iload ok_X9_note (mi 25 rfl) rfl ?_
        refine sf_lald ok_X9_note (mi 26 rfl) (fk I.1 5 rfl) (fn I.1 5 rfl) (w1200 h1 h8 (hfv5 h15)) (fun _ => ?_)
        refine ex_iload ok_X9_note (mi 27 rfl) rfl ?_
        refine ex_lushr ok_X9_note (mi 28 rfl) ?_
        refine ex_l2i ok_X9_note (mi 29 rfl) ?_
        refine ex_gen (fun w8 => ?_)
        refine ex_sipush ok_X9_note (mi 30 rfl) ?_
        refine ex_iand ok_X9_note (mi 31 rfl) ?_
        refine ex_gen (fun w9 => ?_)
        refine ex_istore ok_X9_note (mi 32 rfl) ?_
        refine ex_iload ok_X9_note (mi 33 rfl) rfl ?_
        refine ex_iconst ok_X9_note (mi 34 rfl) ?_
        refine ex_iload_n ok_X9_note (mi 35 rfl) rfl ?_
        refine ex_ishl ok_X9_note (mi 36 rfl) ?_
        refine ex_gen (fun w10 => ?_)
        refine ex_ior ok_X9_note (mi 37 rfl) ?_
        refine ex_gen (fun w11 => ?_)
        refine ex_istore ok_X9_note (mi 38 rfl) ?_
        refine ex_aload_n ok_X9_note (mi 39 rfl) rfl ?_
        refine ex_getRx ok_X9_note (mi 40 rfl) rfl rfl (fk I.1 4 rfl) (fr I.1 4 rfl) (fk I.1 5 rfl) (by decide) ?_
        refine ex_iload ok_X9_note (mi 41 rfl) rfl ?_
        refine ex_dup2 ok_X9_note (mi 42 rfl) rfl rfl ?_
        refine sf_lald ok_X9_note (mi 43 rfl) (fk I.1 5 rfl) (fn I.1 5 rfl) (w1200 h1 h8 (hfv5 h15)) (fun _ => ?_)
        refine ex_iload ok_X9_note (mi 44 rfl) rfl ?_
        refine ex_i2l ok_X9_note (mi 45 rfl) ?_
        refine ex_iload ok_X9_note (mi 46 rfl) rfl ?_
        refine ex_lshl ok_X9_note (mi 47 rfl) ?_
        refine ex_lor ok_X9_note (mi 48 rfl) ?_
        refine sf_last I ok_X9_note (mi 49 rfl) (fk I.1 5 rfl) (fn I.1 5 rfl) (w1200 h1 h8 (hfv5 h15)) ⟨by omega, by omega⟩ (fun g12 J13 => ?_)
        refine ex_iload ok_X9_note (mi 50 rfl) rfl ?_
        refine ex_aload_n ok_X9_note (mi 51 rfl) rfl ?_
        refine ex_getRx ok_X9_note (mi 52 rfl) rfl rfl (fk J13.1 4 rfl) (fr J13.1 6 rfl) (fk J13.1 3 rfl) (by decide) ?_
        refine ex_iload_n ok_X9_note (mi 53 rfl) rfl ?_
        refine sf_iald ok_X9_note (mi 54 rfl) (fk J13.1 3 rfl) (fn J13.1 3 rfl) (vin_of h1 (not_le_lt h8) (by decide)) (fun v14 => ?_)
        refine sf_SNp (As := [_, _]) ok_X9_note (mi 55 rfl) rfl (s_X11_isMajority hst J13) rfl (List.mem_of_getElem? (i := 10) rfl) rfl rfl (by decide) (Nat.le_of_ble_eq_true rfl) (by decide) (fun z15 p17 => ?_)
        obtain ⟨v19, rfl, hbv19⟩ := p17
        refine ex_if_eq (tgt := 112) ok_X9_note (mi 56 rfl) rfl (fun h88 => ?_) (fun h88 => ?_)
        · skip
          refine ex_vret ok_X9_note (mi 68 rfl) rfl ?_
          exact ⟨_, rfl, rfl, J13⟩
        · skip
          refine ex_iload ok_X9_note (mi 57 rfl) rfl ?_
          refine ex_aload_n ok_X9_note (mi 58 rfl) rfl ?_
          refine ex_getRx ok_X9_note (mi 59 rfl) rfl rfl (fk J13.1 4 rfl) (fr J13.1 6 rfl) (fk J13.1 3 rfl) (by decide) ?_
          refine ex_iload_n ok_X9_note (mi 60 rfl) rfl ?_
          refine sf_iald ok_X9_note (mi 61 rfl) (fk J13.1 3 rfl) (fn J13.1 3 rfl) (vin_of h1 (not_le_lt h8) (by decide)) (fun v20 => ?_)
          refine sf_SNp (As := [_, _]) ok_X9_note (mi 62 rfl) rfl (s_X11_isMajority hst J13) rfl (List.mem_of_getElem? (i := 10) rfl) rfl rfl (by decide) (Nat.le_of_ble_eq_true rfl) (by decide) (fun z21 p23 => ?_)
          obtain ⟨v25, rfl, hbv25⟩ := p23
          refine ex_if_ne (tgt := 112) ok_X9_note (mi 63 rfl) rfl (fun h102 => ?_) (fun h102 => ?_)
          · skip
            refine ex_vret ok_X9_note (mi 68 rfl) rfl ?_
            exact ⟨_, rfl, rfl, J13⟩
          · skip
            refine ex_aload_n ok_X9_note (mi 64 rfl) rfl ?_
            refine ex_iload_n ok_X9_note (mi 65 rfl) rfl ?_
            refine ex_iload ok_X9_note (mi 66 rfl) rfl ?_
            refine sf_V (As := [_, _]) ok_X9_note (mi 67 rfl) rfl (s_X9_agree hst J13 (hfv5 h15)) rfl (fk J13.1 4 rfl) rfl rfl (by decide) (by decide) (Nat.le_of_ble_eq_true rfl) (by decide) (fun z26 g27 p28 J29 => ?_)
            obtain rfl : z26 = none := p28
            refine ex_vret ok_X9_note (mi 68 rfl) rfl ?_
            exact ⟨_, rfl, rfl, J29⟩
      · skip
        refine ex_vret ok_X9_note (mi 8 rfl) rfl ?_
        exact ⟨_, rfl, rfl, I⟩
theorem s_X2_receive {G : GE} (hst : (ge_l G).stackTraces = false) {x : Nat} {U : UT} {g : GT} (I : INV x U g) {m0 : Nat} (hm0 : MSR x m0) : ex_M G 2 0 0 my_X2_receive [.ref (x + 811), .ref m0] g (SV x U pN) := by
  refine ex_M_of ok_X2_receive cw_X2_receive rfl hst (Nat.le_of_ble_eq_true rfl) ?_
  refine ex_aload_n ok_X2_receive (mi 0 rfl) rfl ?_
  refine ex_getI ok_X2_receive (mi 1 rfl) rfl rfl (fk (INV_6 I hm0) 0 rfl) ?_
  refine ex_if_lt (tgt := 25) ok_X2_receive (mi 2 rfl) rfl (fun h4 => ?_) (fun h4 => ?_)
  · skip
    refine ex_vret ok_X2_receive (mi 11 rfl) rfl ?_
    exact ⟨_, rfl, rfl, I⟩
  · skip
    refine ex_aload_n ok_X2_receive (mi 3 rfl) rfl ?_
    refine ex_getI ok_X2_receive (mi 4 rfl) rfl rfl (fk (INV_6 I hm0) 0 rfl) ?_
    refine ex_iconst ok_X2_receive (mi 5 rfl) ?_
    refine ex_icmp_ge (tgt := 25) ok_X2_receive (mi 6 rfl) rfl (fun h12 => ?_) (fun h12 => ?_)
    · skip
      refine ex_vret ok_X2_receive (mi 11 rfl) rfl ?_
      exact ⟨_, rfl, rfl, I⟩
    · skip
      refine ex_aload_n ok_X2_receive (mi 7 rfl) rfl ?_
      refine ex_getI ok_X2_receive (mi 8 rfl) rfl rfl (fk (INV_6 I hm0) 0 rfl) ?_
      refine sf_SNp (As := [_]) ok_X2_receive (mi 9 rfl) rfl (s_X11_isSlot hst I) rfl (List.mem_of_getElem? (i := 11) rfl) rfl rfl (by decide) (Nat.le_of_ble_eq_true rfl) (by decide) (fun z1 p3 => ?_)
      obtain ⟨v5, rfl, hbv5, hfv5⟩ := p3
      refine ex_if_ne (tgt := 26) ok_X2_receive (mi 10 rfl) rfl (fun h22 => ?_) (fun h22 => ?_)
      · skip
        refine ex_aload_n ok_X2_receive (mi 12 rfl) rfl ?_
        refine ex_getI ok_X2_receive (mi 13 rfl) rfl rfl (fk (INV_6 I hm0) 0 rfl) ?_
        refine ex_bipush ok_X2_receive (mi 14 rfl) ?_
        refine ex_imul ok_X2_receive (mi 15 rfl) ?_
        refine ex_aload_n ok_X2_receive (mi 16 rfl) rfl ?_
        refine ex_getI ok_X2_receive (mi 17 rfl) rfl rfl (fk (INV_6 I hm0) 0 rfl) ?_
        refine ex_iadd ok_X2_receive (mi 18 rfl) ?_
        refine ex_istore_n ok_X2_receive (mi 19 rfl) ?_
        refine ex_aload_n ok_X2_receive (mi 20 rfl) rfl ?_
        refine ex_getRx ok_X2_receive (mi 21 rfl) rfl rfl (fk I.1 7 rfl) (fr I.1 8 rfl) (fk I.1 8 rfl) (by decide) ?_
        refine ex_iload_n ok_X2_receive (mi 22 rfl) rfl ?_
        refine sf_iald ok_X2_receive (mi 23 rfl) (fk I.1 8 rfl) (fn I.1 8 rfl) (w48 h4 h12 (hfv5 h22)) (fun v6 => ?_)
        refine ex_iconst ok_X2_receive (mi 24 rfl) ?_
        refine ex_icmp_ne (tgt := 62) ok_X2_receive (mi 25 rfl) rfl (fun h46 => ?_) (fun h46 => ?_)
        · skip
          refine ex_aload_n ok_X2_receive (mi 33 rfl) rfl ?_
          refine ex_getRx ok_X2_receive (mi 34 rfl) rfl rfl (fk I.1 7 rfl) (fr I.1 8 rfl) (fk I.1 8 rfl) (by decide) ?_
          refine ex_iload_n ok_X2_receive (mi 35 rfl) rfl ?_
          refine sf_iald ok_X2_receive (mi 36 rfl) (fk I.1 8 rfl) (fn I.1 8 rfl) (w48 h4 h12 (hfv5 h22)) (fun v7 => ?_)
          refine ex_aload_n ok_X2_receive (mi 37 rfl) rfl ?_
          refine ex_getI ok_X2_receive (mi 38 rfl) rfl rfl (fk (INV_6 I hm0) 0 rfl) ?_
          refine ex_icmp_eq (tgt := 85) ok_X2_receive (mi 39 rfl) rfl (fun h72 => ?_) (fun h72 => ?_)
          · skip
            refine ex_aload_n ok_X2_receive (mi 46 rfl) rfl ?_
            refine ex_getRx ok_X2_receive (mi 47 rfl) rfl rfl (fk I.1 7 rfl) (fr I.1 9 rfl) (fk I.1 1 rfl) (by decide) ?_
            refine ex_bipush ok_X2_receive (mi 48 rfl) ?_
            refine ex_aload_n ok_X2_receive (mi 49 rfl) rfl ?_
            refine ex_getI ok_X2_receive (mi 50 rfl) rfl rfl (fk (INV_6 I hm0) 0 rfl) ?_
            refine ex_aload_n ok_X2_receive (mi 51 rfl) rfl ?_
            refine ex_getI ok_X2_receive (mi 52 rfl) rfl rfl (fk (INV_6 I hm0) 0 rfl) ?_
            refine ex_aload_n ok_X2_receive (mi 53 rfl) rfl ?_
            refine ex_getI ok_X2_receive (mi 54 rfl) rfl rfl (fk (INV_6 I hm0) 0 rfl) ?_
            refine ex_aload_n ok_X2_receive (mi 55 rfl) rfl ?_
            refine ex_getRx ok_X2_receive (mi 56 rfl) rfl rfl (fk I.1 7 rfl) (fr I.1 8 rfl) (fk I.1 8 rfl) (by decide) ?_
            refine ex_iload_n ok_X2_receive (mi 57 rfl) rfl ?_
            refine sf_iald ok_X2_receive (mi 58 rfl) (fk I.1 8 rfl) (fn I.1 8 rfl) (w48 h4 h12 (hfv5 h22)) (fun v8 => ?_)
            refine ex_iconst ok_X2_receive (mi 59 rfl) ?_
            refine sf_V (As := [_, _, _, _, _, _]) ok_X2_receive (mi 60 rfl) rfl (s_X0_send hst I) rfl (fk I.1 1 rfl) rfl rfl (by decide) (by decide) (Nat.le_of_ble_eq_true rfl) (by decide) (fun z9 g10 p11 J12 => ?_)
            obtain ⟨m13, rfl, hm13⟩ := p11
            refine ex_pop ok_X2_receive (mi 61 rfl) rfl ?_
            refine ex_vret ok_X2_receive (mi 62 rfl) rfl ?_
            exact ⟨_, rfl, rfl, J12⟩
          · skip
            refine ex_aload_n ok_X2_receive (mi 40 rfl) rfl ?_
            refine ex_dup ok_X2_receive (mi 41 rfl) rfl ?_
            refine sf_getI ok_X2_receive (mi 42 rfl) rfl rfl (fk I.1 7 rfl) (fun v14 => ?_)
            refine ex_iconst ok_X2_receive (mi 43 rfl) ?_
            refine ex_iadd ok_X2_receive (mi 44 rfl) ?_
            refine ex_gen (fun w15 => ?_)
            refine sf_putI I ok_X2_receive (mi 45 rfl) rfl rfl (by decide) (by decide) (by decide +kernel) (fk I.1 7 rfl) ⟨by omega, by omega⟩ (fun g16 J17 => ?_)
            refine ex_aload_n ok_X2_receive (mi 46 rfl) rfl ?_
            refine ex_getRx ok_X2_receive (mi 47 rfl) rfl rfl (fk J17.1 7 rfl) (fr J17.1 9 rfl) (fk J17.1 1 rfl) (by decide) ?_
            refine ex_bipush ok_X2_receive (mi 48 rfl) ?_
            refine ex_aload_n ok_X2_receive (mi 49 rfl) rfl ?_
            refine ex_getI ok_X2_receive (mi 50 rfl) rfl rfl (fk (INV_6 J17 hm0) 0 rfl) ?_
            refine ex_aload_n ok_X2_receive (mi 51 rfl) rfl ?_
            refine ex_getI ok_X2_receive (mi 52 rfl) rfl rfl (fk (INV_6 J17 hm0) 0 rfl) ?_
            refine ex_aload_n ok_X2_receive (mi 53 rfl) rfl ?_
            refine ex_getI ok_X2_receive (mi 54 rfl) rfl rfl (fk (INV_6 J17 hm0) 0 rfl) ?_
            refine ex_aload_n ok_X2_receive (mi 55 rfl) rfl ?_
            refine ex_getRx ok_X2_receive (mi 56 rfl) rfl rfl (fk J17.1 7 rfl) (fr J17.1 8 rfl) (fk J17.1 8 rfl) (by decide) ?_
            refine ex_iload_n ok_X2_receive (mi 57 rfl) rfl ?_
            refine sf_iald ok_X2_receive (mi 58 rfl) (fk J17.1 8 rfl) (fn J17.1 8 rfl) (w48 h4 h12 (hfv5 h22)) (fun v18 => ?_)
            refine ex_iconst ok_X2_receive (mi 59 rfl) ?_
            refine sf_V (As := [_, _, _, _, _, _]) ok_X2_receive (mi 60 rfl) rfl (s_X0_send hst J17) rfl (fk J17.1 1 rfl) rfl rfl (by decide) (by decide) (Nat.le_of_ble_eq_true rfl) (by decide) (fun z19 g20 p21 J22 => ?_)
            obtain ⟨m23, rfl, hm23⟩ := p21
            refine ex_pop ok_X2_receive (mi 61 rfl) rfl ?_
            refine ex_vret ok_X2_receive (mi 62 rfl) rfl ?_
            exact ⟨_, rfl, rfl, J22⟩
        · skip
          refine ex_aload_n ok_X2_receive (mi 26 rfl) rfl ?_
          refine ex_getRx ok_X2_receive (mi 27 rfl) rfl rfl (fk I.1 7 rfl) (fr I.1 8 rfl) (fk I.1 8 rfl) (by decide) ?_
          refine ex_iload_n ok_X2_receive (mi 28 rfl) rfl ?_
          refine ex_aload_n ok_X2_receive (mi 29 rfl) rfl ?_
          refine ex_getI ok_X2_receive (mi 30 rfl) rfl rfl (fk (INV_6 I hm0) 0 rfl) ?_
          refine sf_iast I ok_X2_receive (mi 31 rfl) (fk I.1 8 rfl) (fn I.1 8 rfl) (w48 h4 h12 (hfv5 h22)) ⟨⟨by omega, by omega⟩, by omega⟩ (fun g24 J25 => ?_)
          refine ex_goto (tgt := 85) ok_X2_receive (mi 32 rfl) rfl ?_
          refine ex_aload_n ok_X2_receive (mi 46 rfl) rfl ?_
          refine ex_getRx ok_X2_receive (mi 47 rfl) rfl rfl (fk J25.1 7 rfl) (fr J25.1 9 rfl) (fk J25.1 1 rfl) (by decide) ?_
          refine ex_bipush ok_X2_receive (mi 48 rfl) ?_
          refine ex_aload_n ok_X2_receive (mi 49 rfl) rfl ?_
          refine ex_getI ok_X2_receive (mi 50 rfl) rfl rfl (fk (INV_6 J25 hm0) 0 rfl) ?_
          refine ex_aload_n ok_X2_receive (mi 51 rfl) rfl ?_
          refine ex_getI ok_X2_receive (mi 52 rfl) rfl rfl (fk (INV_6 J25 hm0) 0 rfl) ?_
          refine ex_aload_n ok_X2_receive (mi 53 rfl) rfl ?_
          refine ex_getI ok_X2_receive (mi 54 rfl) rfl rfl (fk (INV_6 J25 hm0) 0 rfl) ?_
          refine ex_aload_n ok_X2_receive (mi 55 rfl) rfl ?_
          refine ex_getRx ok_X2_receive (mi 56 rfl) rfl rfl (fk J25.1 7 rfl) (fr J25.1 8 rfl) (fk J25.1 8 rfl) (by decide) ?_
          refine ex_iload_n ok_X2_receive (mi 57 rfl) rfl ?_
          refine sf_iald ok_X2_receive (mi 58 rfl) (fk J25.1 8 rfl) (fn J25.1 8 rfl) (w48 h4 h12 (hfv5 h22)) (fun v26 => ?_)
          refine ex_iconst ok_X2_receive (mi 59 rfl) ?_
          refine sf_V (As := [_, _, _, _, _, _]) ok_X2_receive (mi 60 rfl) rfl (s_X0_send hst J25) rfl (fk J25.1 1 rfl) rfl rfl (by decide) (by decide) (Nat.le_of_ble_eq_true rfl) (by decide) (fun z27 g28 p29 J30 => ?_)
          obtain ⟨m31, rfl, hm31⟩ := p29
          refine ex_pop ok_X2_receive (mi 61 rfl) rfl ?_
          refine ex_vret ok_X2_receive (mi 62 rfl) rfl ?_
          exact ⟨_, rfl, rfl, J30⟩
      · skip
        refine ex_vret ok_X2_receive (mi 11 rfl) rfl ?_
        exact ⟨_, rfl, rfl, I⟩
theorem s_X10_castVote {G : GE} (hst : (ge_l G).stackTraces = false) {x : Nat} {U : UT} {g : GT} (I : INV x U g) {a : Nat} (ha : VTR x a) {m0 : Nat} (hm0 : MSR x m0) : ex_M G 4 0 0 my_X10_castVote [.ref a, .ref m0] g (SV x U pN) := by
  refine ex_M_of ok_X10_castVote cw_X10_castVote rfl hst (Nat.le_of_ble_eq_true rfl) ?_
  refine ex_aload_n ok_X10_castVote (mi 0 rfl) rfl ?_
  refine ex_getI ok_X10_castVote (mi 1 rfl) rfl rfl (fk (INV_6 I hm0) 0 rfl) ?_
  refine sf_SNp (As := [_]) ok_X10_castVote (mi 2 rfl) rfl (s_X11_isSlot hst I) rfl (List.mem_of_getElem? (i := 8) rfl) rfl rfl (by decide) (Nat.le_of_ble_eq_true rfl) (by decide) (fun z1 p3 => ?_)
  obtain ⟨v5, rfl, hbv5, hfv5⟩ := p3
  refine ex_if_ne (tgt := 11) ok_X10_castVote (mi 3 rfl) rfl (fun h7 => ?_) (fun h7 => ?_)
  · skip
    refine ex_aload_n ok_X10_castVote (mi 5 rfl) rfl ?_
    refine ex_getRx ok_X10_castVote (mi 6 rfl) rfl rfl (fk (INV_10 I ha).1 0 rfl) (fr (INV_10 I ha).1 0 rfl) (fk (INV_10 I ha).1 1 rfl) (by decide) ?_
    refine ex_aload_n ok_X10_castVote (mi 7 rfl) rfl ?_
    refine ex_getI ok_X10_castVote (mi 8 rfl) rfl rfl (fk (INV_6 I hm0) 0 rfl) ?_
    refine ex_aload_n ok_X10_castVote (mi 9 rfl) rfl ?_
    refine ex_getI ok_X10_castVote (mi 10 rfl) rfl rfl (fk (INV_6 I hm0) 0 rfl) ?_
    refine ex_bipush ok_X10_castVote (mi 11 rfl) ?_
    refine ex_ishl ok_X10_castVote (mi 12 rfl) ?_
    refine ex_gen (fun w6 => ?_)
    refine ex_aload_n ok_X10_castVote (mi 13 rfl) rfl ?_
    refine ex_getI ok_X10_castVote (mi 14 rfl) rfl rfl (fk (INV_6 I hm0) 0 rfl) ?_
    refine ex_ior ok_X10_castVote (mi 15 rfl) ?_
    refine ex_gen (fun w7 => ?_)
    refine sf_iast I ok_X10_castVote (mi 16 rfl) (fk (INV_10 I ha).1 1 rfl) (fn (INV_10 I ha).1 1 rfl) (hfv5 h7) (VTR_ne ha 1 (by decide)) (fun g8 J9 => ?_)
    refine ex_aload_n ok_X10_castVote (mi 17 rfl) rfl ?_
    refine ex_getRx ok_X10_castVote (mi 18 rfl) rfl rfl (fk (INV_10 J9 ha).1 0 rfl) (INV_10 J9 ha).2.2 (fk J9.1 4 rfl) (by decide) ?_
    refine ex_aload_n ok_X10_castVote (mi 19 rfl) rfl ?_
    refine ex_getI ok_X10_castVote (mi 20 rfl) rfl rfl (fk (INV_6 J9 hm0) 0 rfl) ?_
    refine ex_aload_n ok_X10_castVote (mi 21 rfl) rfl ?_
    refine ex_getI ok_X10_castVote (mi 22 rfl) rfl rfl (fk (INV_6 J9 hm0) 0 rfl) ?_
    refine ex_aload_n ok_X10_castVote (mi 23 rfl) rfl ?_
    refine sf_getI ok_X10_castVote (mi 24 rfl) rfl rfl (fk (INV_10 J9 ha).1 0 rfl) (fun v10 => ?_)
    refine ex_aload_n ok_X10_castVote (mi 25 rfl) rfl ?_
    refine ex_getI ok_X10_castVote (mi 26 rfl) rfl rfl (fk (INV_6 J9 hm0) 0 rfl) ?_
    refine sf_V (As := [_, _, _, _]) ok_X10_castVote (mi 27 rfl) rfl (s_X9_note hst J9) rfl (fk J9.1 4 rfl) rfl rfl (by decide) (by decide) (Nat.le_of_ble_eq_true rfl) (by decide) (fun z11 g12 p13 J14 => ?_)
    obtain rfl : z11 = none := p13
    refine ex_aload_n ok_X10_castVote (mi 28 rfl) rfl ?_
    refine ex_getRx ok_X10_castVote (mi 29 rfl) rfl rfl (fk (INV_10 J14 ha).1 0 rfl) (INV_10 J14 ha).2.1 (fk J14.1 1 rfl) (by decide) ?_
    refine ex_bipush ok_X10_castVote (mi 30 rfl) ?_
    refine ex_aload_n ok_X10_castVote (mi 31 rfl) rfl ?_
    refine sf_getI ok_X10_castVote (mi 32 rfl) rfl rfl (fk (INV_10 J14 ha).1 0 rfl) (fun v15 => ?_)
    refine ex_aload_n ok_X10_castVote (mi 33 rfl) rfl ?_
    refine ex_getI ok_X10_castVote (mi 34 rfl) rfl rfl (fk (INV_6 J14 hm0) 0 rfl) ?_
    refine ex_aload_n ok_X10_castVote (mi 35 rfl) rfl ?_
    refine ex_getI ok_X10_castVote (mi 36 rfl) rfl rfl (fk (INV_6 J14 hm0) 0 rfl) ?_
    refine ex_aload_n ok_X10_castVote (mi 37 rfl) rfl ?_
    refine ex_getI ok_X10_castVote (mi 38 rfl) rfl rfl (fk (INV_6 J14 hm0) 0 rfl) ?_
    refine ex_iconst ok_X10_castVote (mi 39 rfl) ?_
    refine sf_V (As := [_, _, _, _, _, _]) ok_X10_castVote (mi 40 rfl) rfl (s_X0_send hst J14) rfl (fk J14.1 1 rfl) rfl rfl (by decide) (by decide) (Nat.le_of_ble_eq_true rfl) (by decide) (fun z16 g17 p18 J19 => ?_)
    obtain ⟨m20, rfl, hm20⟩ := p18
    refine ex_pop ok_X10_castVote (mi 41 rfl) rfl ?_
    refine ex_vret ok_X10_castVote (mi 42 rfl) rfl ?_
    exact ⟨_, rfl, rfl, J19⟩
  · skip
    refine ex_vret ok_X10_castVote (mi 4 rfl) rfl ?_
    exact ⟨_, rfl, rfl, I⟩
theorem s_X10_release {G : GE} (hst : (ge_l G).stackTraces = false) {x : Nat} {U : UT} {g : GT} (I : INV x U g) {a : Nat} (ha : VTR x a) {m0 : Nat} (hm0 : MSR x m0) : ex_M G 2 0 0 my_X10_release [.ref a, .ref m0] g (SV x U pN) := by
  refine ex_M_of ok_X10_release cw_X10_release rfl hst (Nat.le_of_ble_eq_true rfl) ?_
  refine ex_iconst ok_X10_release (mi 0 rfl) ?_
  refine ex_istore_n ok_X10_release (mi 1 rfl) ?_
  have lp2 : ∀ n2 k2 : Nat, k2 + n2 = 16 → ∀ (g1 : GT), INV x U g1 → ex_W G 2 0 0 M_X10_release 2 [(0, .ref a), (1, .ref m0), (2, .int (nI k2))] [] g1 (SV x U pN) := by
    intro n2
    induction n2 with
    | zero =>
      intro k2 hk2  g1 J2
      obtain rfl : k2 = 16 := by omega
      refine ex_iload_n ok_X10_release (mi 2 rfl) rfl ?_
      refine ex_bipush ok_X10_release (mi 3 rfl) ?_
      refine ex_icmp_ge (tgt := 37) ok_X10_release (mi 4 rfl) rfl (fun _ => ?_) (fun hn => absurd (by decide) hn)
      refine ex_aload_n ok_X10_release (mi 20 rfl) rfl ?_
      refine ex_getRx ok_X10_release (mi 21 rfl) rfl rfl (fk (INV_10 J2 ha).1 0 rfl) (INV_10 J2 ha).2.1 (fk J2.1 1 rfl) (by decide) ?_
      refine ex_bipush ok_X10_release (mi 22 rfl) ?_
      refine ex_aload_n ok_X10_release (mi 23 rfl) rfl ?_
      refine sf_getI ok_X10_release (mi 24 rfl) rfl rfl (fk (INV_10 J2 ha).1 0 rfl) (fun v3 => ?_)
      refine ex_aload_n ok_X10_release (mi 25 rfl) rfl ?_
      refine ex_getI ok_X10_release (mi 26 rfl) rfl rfl (fk (INV_6 J2 hm0) 0 rfl) ?_
      refine ex_aload_n ok_X10_release (mi 27 rfl) rfl ?_
      refine ex_getI ok_X10_release (mi 28 rfl) rfl rfl (fk (INV_6 J2 hm0) 0 rfl) ?_
      refine ex_iconst ok_X10_release (mi 29 rfl) ?_
      refine ex_iconst ok_X10_release (mi 30 rfl) ?_
      refine sf_V (As := [_, _, _, _, _, _]) ok_X10_release (mi 31 rfl) rfl (s_X0_send hst J2) rfl (fk J2.1 1 rfl) rfl rfl (by decide) (by decide) (Nat.le_of_ble_eq_true rfl) (by decide) (fun z4 g5 p6 J7 => ?_)
      obtain ⟨m8, rfl, hm8⟩ := p6
      refine ex_pop ok_X10_release (mi 32 rfl) rfl ?_
      refine ex_vret ok_X10_release (mi 33 rfl) rfl ?_
      exact ⟨_, rfl, rfl, J7⟩
    | succ n2 ih2 =>
      intro k2 hk2  g1 J2
      have hr2 : k2 < 16 := by omega
      refine ex_iload_n ok_X10_release (mi 2 rfl) rfl ?_
      refine ex_bipush ok_X10_release (mi 3 rfl) ?_
      refine ex_icmp_ge (tgt := 37) ok_X10_release (mi 4 rfl) rfl (fun hn => absurd hn (nI_ge hr2 (by decide))) (fun _ => ?_)
      refine ex_aload_n ok_X10_release (mi 5 rfl) rfl ?_
      refine ex_getRx ok_X10_release (mi 6 rfl) rfl rfl (fk (INV_10 J2 ha).1 0 rfl) (fr (INV_10 J2 ha).1 0 rfl) (fk (INV_10 J2 ha).1 1 rfl) (by decide) ?_
      refine ex_iload_n ok_X10_release (mi 7 rfl) rfl ?_
      refine sf_iald ok_X10_release (mi 8 rfl) (fk (INV_10 J2 ha).1 1 rfl) (fn (INV_10 J2 ha).1 1 rfl) (vp_in_nI (by omega) (by decide)) (fun v9 => ?_)
      refine sf_Sp (As := [_]) ok_X10_release (mi 9 rfl) rfl (s_X10_roundOf hst J2) rfl rfl rfl (by decide) (Nat.le_of_ble_eq_true rfl) (by decide) (fun z10 p12 => ?_)
      obtain ⟨v14, rfl⟩ := p12
      refine ex_aload_n ok_X10_release (mi 10 rfl) rfl ?_
      refine ex_getI ok_X10_release (mi 11 rfl) rfl rfl (fk (INV_6 J2 hm0) 0 rfl) ?_
      refine ex_icmp_ge (tgt := 31) ok_X10_release (mi 12 rfl) rfl (fun h21 => ?_) (fun h21 => ?_)
      · skip
        refine ex_iincx (w := (nI (k2 + 1))) ok_X10_release (mi 18 rfl) rfl (nI_1 _) ?_
        refine ex_goto (tgt := 2) ok_X10_release (mi 19 rfl) rfl ?_
        exact ex_ls (ls' := [(0, .ref a), (1, .ref m0), (2, .int (nI (k2 + 1)))]) ⟨rfl, rfl, rfl, trivial⟩ (ih2 (k2 + 1) (by omega) g1 J2)
      · skip
        refine ex_aload_n ok_X10_release (mi 13 rfl) rfl ?_
        refine ex_getRx ok_X10_release (mi 14 rfl) rfl rfl (fk (INV_10 J2 ha).1 0 rfl) (fr (INV_10 J2 ha).1 0 rfl) (fk (INV_10 J2 ha).1 1 rfl) (by decide) ?_
        refine ex_iload_n ok_X10_release (mi 15 rfl) rfl ?_
        refine ex_iconst ok_X10_release (mi 16 rfl) ?_
        refine sf_iast J2 ok_X10_release (mi 17 rfl) (fk (INV_10 J2 ha).1 1 rfl) (fn (INV_10 J2 ha).1 1 rfl) (vp_in_nI (by omega) (by decide)) (VTR_ne ha 1 (by decide)) (fun g15 J16 => ?_)
        refine ex_iincx (w := (nI (k2 + 1))) ok_X10_release (mi 18 rfl) rfl (nI_1 _) ?_
        refine ex_goto (tgt := 2) ok_X10_release (mi 19 rfl) rfl ?_
        exact ex_ls (ls' := [(0, .ref a), (1, .ref m0), (2, .int (nI (k2 + 1)))]) ⟨rfl, rfl, rfl, trivial⟩ (ih2 (k2 + 1) (by omega) g15 J16)
  exact ex_ls (ls' := [(0, .ref a), (1, .ref m0), (2, .int (nI 0))]) ⟨rfl, rfl, rfl, trivial⟩ (lp2 16 0 (by decide) g I)
theorem s_X10_receive {G : GE} (hst : (ge_l G).stackTraces = false) {x : Nat} {U : UT} {g : GT} (I : INV x U g) {a : Nat} (ha : VTR x a) {m0 : Nat} (hm0 : MSR x m0) : ex_M G 5 0 0 my_X10_receive [.ref a, .ref m0] g (SV x U pN) := by
  refine ex_M_of ok_X10_receive cw_X10_receive rfl hst (Nat.le_of_ble_eq_true rfl) ?_
  refine ex_aload_n ok_X10_receive (mi 0 rfl) rfl ?_
  refine ex_getI ok_X10_receive (mi 1 rfl) rfl rfl (fk (INV_6 I hm0) 0 rfl) ?_
  refine ex_bipush ok_X10_receive (mi 2 rfl) ?_
  refine ex_icmp_ne (tgt := 15) ok_X10_receive (mi 3 rfl) rfl (fun h6 => ?_) (fun h6 => ?_)
  · skip
    refine ex_aload_n ok_X10_receive (mi 8 rfl) rfl ?_
    refine ex_getI ok_X10_receive (mi 9 rfl) rfl rfl (fk (INV_6 I hm0) 0 rfl) ?_
    refine ex_aload_n ok_X10_receive (mi 10 rfl) rfl ?_
    refine sf_getI ok_X10_receive (mi 11 rfl) rfl rfl (fk (INV_10 I ha).1 0 rfl) (fun v1 => ?_)
    refine ex_icmp_ge (tgt := 54) ok_X10_receive (mi 12 rfl) rfl (fun h23 => ?_) (fun h23 => ?_)
    · skip
      refine ex_aload_n ok_X10_receive (mi 28 rfl) rfl ?_
      refine ex_aload_n ok_X10_receive (mi 29 rfl) rfl ?_
      refine ex_getI ok_X10_receive (mi 30 rfl) rfl rfl (fk (INV_6 I hm0) 0 rfl) ?_
      refine sf_putI I ok_X10_receive (mi 31 rfl) rfl rfl (by decide) (by decide) (by decide +kernel) (fk (INV_10 I ha).1 0 rfl) (VTR_ne ha 0 (by decide)).1 (fun g2 J3 => ?_)
      refine ex_aload_n ok_X10_receive (mi 32 rfl) rfl ?_
      refine ex_getI ok_X10_receive (mi 33 rfl) rfl rfl (fk (INV_6 J3 hm0) 0 rfl) ?_
      refine ex_iconst ok_X10_receive (mi 34 rfl) ?_
      refine ex_icmp_ne (tgt := 114) ok_X10_receive (mi 35 rfl) rfl (fun h67 => ?_) (fun h67 => ?_)
      · skip
        refine ex_aload_n ok_X10_receive (mi 59 rfl) rfl ?_
        refine ex_getI ok_X10_receive (mi 60 rfl) rfl rfl (fk (INV_6 J3 hm0) 0 rfl) ?_
        refine ex_iconst ok_X10_receive (mi 61 rfl) ?_
        refine ex_icmp_ne (tgt := 130) ok_X10_receive (mi 62 rfl) rfl (fun h119 => ?_) (fun h119 => ?_)
        · skip
          refine ex_aload_n ok_X10_receive (mi 67 rfl) rfl ?_
          refine ex_getI ok_X10_receive (mi 68 rfl) rfl rfl (fk (INV_6 J3 hm0) 0 rfl) ?_
          refine ex_bipush ok_X10_receive (mi 69 rfl) ?_
          refine ex_icmp_ne (tgt := 181) ok_X10_receive (mi 70 rfl) rfl (fun h136 => ?_) (fun h136 => ?_)
          · skip
            refine ex_vret ok_X10_receive (mi 92 rfl) rfl ?_
            exact ⟨_, rfl, rfl, J3⟩
          · skip
            refine ex_aload_n ok_X10_receive (mi 71 rfl) rfl ?_
            refine ex_aload_n ok_X10_receive (mi 72 rfl) rfl ?_
            refine sf_getI ok_X10_receive (mi 73 rfl) rfl rfl (fk (INV_10 J3 ha).1 0 rfl) (fun v4 => ?_)
            refine ex_aload_n ok_X10_receive (mi 74 rfl) rfl ?_
            refine ex_getI ok_X10_receive (mi 75 rfl) rfl rfl (fk (INV_6 J3 hm0) 0 rfl) ?_
            refine sf_max ok_X10_receive (mi 76 rfl) rfl (Nat.le_of_ble_eq_true rfl) (fun v5 => ?_)
            refine sf_putI J3 ok_X10_receive (mi 77 rfl) rfl rfl (by decide) (by decide) (by decide +kernel) (fk (INV_10 J3 ha).1 0 rfl) (VTR_ne ha 0 (by decide)).1 (fun g6 J7 => ?_)
            refine ex_aload_n ok_X10_receive (mi 78 rfl) rfl ?_
            refine ex_getRx ok_X10_receive (mi 79 rfl) rfl rfl (fk (INV_10 J7 ha).1 0 rfl) (INV_10 J7 ha).2.1 (fk J7.1 1 rfl) (by decide) ?_
            refine ex_bipush ok_X10_receive (mi 80 rfl) ?_
            refine ex_aload_n ok_X10_receive (mi 81 rfl) rfl ?_
            refine sf_getI ok_X10_receive (mi 82 rfl) rfl rfl (fk (INV_10 J7 ha).1 0 rfl) (fun v8 => ?_)
            refine ex_aload_n ok_X10_receive (mi 83 rfl) rfl ?_
            refine ex_getI ok_X10_receive (mi 84 rfl) rfl rfl (fk (INV_6 J7 hm0) 0 rfl) ?_
            refine ex_aload_n ok_X10_receive (mi 85 rfl) rfl ?_
            refine ex_getI ok_X10_receive (mi 86 rfl) rfl rfl (fk (INV_6 J7 hm0) 0 rfl) ?_
            refine ex_aload_n ok_X10_receive (mi 87 rfl) rfl ?_
            refine ex_getI ok_X10_receive (mi 88 rfl) rfl rfl (fk (INV_6 J7 hm0) 0 rfl) ?_
            refine ex_iconst ok_X10_receive (mi 89 rfl) ?_
            refine sf_V (As := [_, _, _, _, _, _]) ok_X10_receive (mi 90 rfl) rfl (s_X0_send hst J7) rfl (fk J7.1 1 rfl) rfl rfl (by decide) (by decide) (Nat.le_of_ble_eq_true rfl) (by decide) (fun z9 g10 p11 J12 => ?_)
            obtain ⟨m13, rfl, hm13⟩ := p11
            refine ex_pop ok_X10_receive (mi 91 rfl) rfl ?_
            refine ex_vret ok_X10_receive (mi 92 rfl) rfl ?_
            exact ⟨_, rfl, rfl, J12⟩
        · skip
          refine ex_aload_n ok_X10_receive (mi 63 rfl) rfl ?_
          refine ex_aload_n ok_X10_receive (mi 64 rfl) rfl ?_
          refine sf_V (As := [_]) ok_X10_receive (mi 65 rfl) rfl (s_X10_castVote hst J3 ha hm0) rfl (fk (INV_10 J3 ha).1 0 rfl) rfl rfl (by decide) (by decide) (Nat.le_of_ble_eq_true rfl) (by decide) (fun z14 g15 p16 J17 => ?_)
          obtain rfl : z14 = none := p16
          refine ex_goto (tgt := 181) ok_X10_receive (mi 66 rfl) rfl ?_
          refine ex_vret ok_X10_receive (mi 92 rfl) rfl ?_
          exact ⟨_, rfl, rfl, J17⟩
      · skip
        refine ex_aload_n ok_X10_receive (mi 36 rfl) rfl ?_
        refine ex_getRx ok_X10_receive (mi 37 rfl) rfl rfl (fk (INV_10 J3 ha).1 0 rfl) (INV_10 J3 ha).2.1 (fk J3.1 1 rfl) (by decide) ?_
        refine ex_iconst ok_X10_receive (mi 38 rfl) ?_
        refine ex_aload_n ok_X10_receive (mi 39 rfl) rfl ?_
        refine sf_getI ok_X10_receive (mi 40 rfl) rfl rfl (fk (INV_10 J3 ha).1 0 rfl) (fun v18 => ?_)
        refine ex_aload_n ok_X10_receive (mi 41 rfl) rfl ?_
        refine ex_getI ok_X10_receive (mi 42 rfl) rfl rfl (fk (INV_6 J3 hm0) 0 rfl) ?_
        refine ex_aload_n ok_X10_receive (mi 43 rfl) rfl ?_
        refine ex_getI ok_X10_receive (mi 44 rfl) rfl rfl (fk (INV_6 J3 hm0) 0 rfl) ?_
        refine ex_aload_n ok_X10_receive (mi 45 rfl) rfl ?_
        refine sf_getI ok_X10_receive (mi 46 rfl) rfl rfl (fk (INV_10 J3 ha).1 0 rfl) (fun v19 => ?_)
        refine ex_iconst ok_X10_receive (mi 47 rfl) ?_
        refine sf_V (As := [_, _, _, _, _, _]) ok_X10_receive (mi 48 rfl) rfl (s_X0_send hst J3) rfl (fk J3.1 1 rfl) rfl rfl (by decide) (by decide) (Nat.le_of_ble_eq_true rfl) (by decide) (fun z20 g21 p22 J23 => ?_)
        obtain ⟨m24, rfl, hm24⟩ := p22
        refine ex_astore_n ok_X10_receive (mi 49 rfl) ?_
        refine ex_aload_n ok_X10_receive (mi 50 rfl) rfl ?_
        refine ex_getRx ok_X10_receive (mi 51 rfl) rfl rfl (fk (INV_10 J23 ha).1 0 rfl) (fr (INV_10 J23 ha).1 0 rfl) (fk (INV_10 J23 ha).1 1 rfl) (by decide) ?_
        refine ex_iconst ok_X10_receive (mi 52 rfl) ?_
        refine ex_aload_n ok_X10_receive (mi 53 rfl) rfl ?_
        refine ex_getRx ok_X10_receive (mi 54 rfl) rfl rfl (fk (INV_6 J23 hm24) 0 rfl) (fr (INV_6 J23 hm24) 0 rfl) (fk (INV_6 J23 hm24) 1 rfl) (by decide) ?_
        refine ex_iconst ok_X10_receive (mi 55 rfl) ?_
        refine ex_bipush ok_X10_receive (mi 56 rfl) ?_
        refine sf_copy J23 ok_X10_receive (mi 57 rfl) rfl (fk (INV_10 J23 ha).1 1 rfl) (fk (INV_6 J23 hm24) 1 rfl) (Nat.le_of_eq (fn (INV_10 J23 ha).1 1 rfl).symm) (Nat.le_of_eq (fn (INV_6 J23 hm24) 1 rfl).symm) (by decide) (by decide) (by decide) (by decide) (by decide) (Nat.le_of_ble_eq_true rfl) (MSR_ne hm24 1 (by decide)) (fun g25 J26 => ?_)
        refine ex_goto (tgt := 181) ok_X10_receive (mi 58 rfl) rfl ?_
        refine ex_vret ok_X10_receive (mi 92 rfl) rfl ?_
        exact ⟨_, rfl, rfl, J26⟩
    · skip
      refine ex_aload_n ok_X10_receive (mi 13 rfl) rfl ?_
      refine ex_getRx ok_X10_receive (mi 14 rfl) rfl rfl (fk (INV_10 I ha).1 0 rfl) (INV_10 I ha).2.1 (fk I.1 1 rfl) (by decide) ?_
      refine ex_bipush ok_X10_receive (mi 15 rfl) ?_
      refine ex_aload_n ok_X10_receive (mi 16 rfl) rfl ?_
      refine sf_getI ok_X10_receive (mi 17 rfl) rfl rfl (fk (INV_10 I ha).1 0 rfl) (fun v27 => ?_)
      refine ex_aload_n ok_X10_receive (mi 18 rfl) rfl ?_
      refine ex_getI ok_X10_receive (mi 19 rfl) rfl rfl (fk (INV_6 I hm0) 0 rfl) ?_
      refine ex_aload_n ok_X10_receive (mi 20 rfl) rfl ?_
      refine ex_getI ok_X10_receive (mi 21 rfl) rfl rfl (fk (INV_6 I hm0) 0 rfl) ?_
      refine ex_aload_n ok_X10_receive (mi 22 rfl) rfl ?_
      refine sf_getI ok_X10_receive (mi 23 rfl) rfl rfl (fk (INV_10 I ha).1 0 rfl) (fun v28 => ?_)
      refine ex_iconst ok_X10_receive (mi 24 rfl) ?_
      refine sf_V (As := [_, _, _, _, _, _]) ok_X10_receive (mi 25 rfl) rfl (s_X0_send hst I) rfl (fk I.1 1 rfl) rfl rfl (by decide) (by decide) (Nat.le_of_ble_eq_true rfl) (by decide) (fun z29 g30 p31 J32 => ?_)
      obtain ⟨m33, rfl, hm33⟩ := p31
      refine ex_pop ok_X10_receive (mi 26 rfl) rfl ?_
      refine ex_vret ok_X10_receive (mi 27 rfl) rfl ?_
      exact ⟨_, rfl, rfl, J32⟩
  · skip
    refine ex_aload_n ok_X10_receive (mi 4 rfl) rfl ?_
    refine ex_aload_n ok_X10_receive (mi 5 rfl) rfl ?_
    refine sf_V (As := [_]) ok_X10_receive (mi 6 rfl) rfl (s_X10_release hst I ha hm0) rfl (fk (INV_10 I ha).1 0 rfl) rfl rfl (by decide) (by decide) (Nat.le_of_ble_eq_true rfl) (by decide) (fun z34 g35 p36 J37 => ?_)
    obtain rfl : z34 = none := p36
    refine ex_vret ok_X10_receive (mi 7 rfl) rfl ?_
    exact ⟨_, rfl, rfl, J37⟩
theorem s_X10_tell {G : GE} (hst : (ge_l G).stackTraces = false) {x : Nat} {U : UT} {g : GT} (I : INV x U g) {a : Nat} (ha : VTR x a) {p0 : Int32} : ex_M G 2 0 0 my_X10_tell [.ref a, .int p0] g (SVp g pI) := by
  refine ex_M_of ok_X10_tell cw_X10_tell rfl hst (Nat.le_of_ble_eq_true rfl) ?_
  refine ex_iload_n ok_X10_tell (mi 0 rfl) rfl ?_
  refine sf_lookup [28, 33, 38] ok_X10_tell (mi 1 rfl) (by decide) (by decide) (fun t ht => ?_)
  simp only [List.mem_cons, List.not_mem_nil, or_false] at ht
  rcases ht with rfl | rfl | rfl
  · skip
    refine ex_aload_n ok_X10_tell (mi 2 rfl) rfl ?_
    refine sf_getI ok_X10_tell (mi 3 rfl) rfl rfl (fk (INV_10 I ha).1 0 rfl) (fun v1 => ?_)
    refine ex_iret ok_X10_tell (mi 4 rfl) rfl ?_
    exact ⟨_, rfl, ⟨_, rfl⟩, rfl⟩
  · skip
    refine ex_aload_n ok_X10_tell (mi 5 rfl) rfl ?_
    refine sf_getI ok_X10_tell (mi 6 rfl) rfl rfl (fk (INV_10 I ha).1 0 rfl) (fun v2 => ?_)
    refine ex_iret ok_X10_tell (mi 7 rfl) rfl ?_
    exact ⟨_, rfl, ⟨_, rfl⟩, rfl⟩
  · skip
    refine ex_aload_n ok_X10_tell (mi 8 rfl) rfl ?_
    refine ex_getRx ok_X10_tell (mi 9 rfl) rfl rfl (fk (INV_10 I ha).1 0 rfl) (fr (INV_10 I ha).1 0 rfl) (fk (INV_10 I ha).1 1 rfl) (by decide) ?_
    refine sf_Sp (As := [_]) ok_X10_tell (mi 10 rfl) rfl (s_X10_votesIn hst I (VTR_w16 ha)) rfl rfl rfl (by decide) (Nat.le_of_ble_eq_true rfl) (by decide) (fun z3 p5 => ?_)
    obtain ⟨v7, rfl⟩ := p5
    refine ex_iret ok_X10_tell (mi 11 rfl) rfl ?_
    exact ⟨_, rfl, ⟨_, rfl⟩, rfl⟩
theorem s_X3_forgetReform {G : GE} (hst : (ge_l G).stackTraces = false) {x : Nat} {U : UT} {g : GT} (I : INV x U g) {a : Nat} (ha : KPR x a) : ex_M G 1 0 0 my_X3_forgetReform [.ref a] g (SV x U pN) := by
  refine ex_M_of ok_X3_forgetReform cw_X3_forgetReform rfl hst (Nat.le_of_ble_eq_true rfl) ?_
  refine ex_aload_n ok_X3_forgetReform (mi 0 rfl) rfl ?_
  refine ex_iconst ok_X3_forgetReform (mi 1 rfl) ?_
  refine sf_putI I ok_X3_forgetReform (mi 2 rfl) rfl rfl (by decide) (by decide) (by decide +kernel) (fk (INV_3 I ha).1 0 rfl) (KPR_ne ha 0 (by decide)).1 (fun g1 J2 => ?_)
  refine ex_aload_n ok_X3_forgetReform (mi 3 rfl) rfl ?_
  refine ex_iconst ok_X3_forgetReform (mi 4 rfl) ?_
  refine sf_putI J2 ok_X3_forgetReform (mi 5 rfl) rfl rfl (by decide) (by decide) (by decide +kernel) (fk (INV_3 J2 ha).1 0 rfl) (KPR_ne ha 0 (by decide)).1 (fun g3 J4 => ?_)
  refine ex_aload_n ok_X3_forgetReform (mi 6 rfl) rfl ?_
  refine ex_iconst ok_X3_forgetReform (mi 7 rfl) ?_
  refine sf_putI J4 ok_X3_forgetReform (mi 8 rfl) rfl rfl (by decide) (by decide) (by decide +kernel) (fk (INV_3 J4 ha).1 0 rfl) (KPR_ne ha 0 (by decide)).1 (fun g5 J6 => ?_)
  refine ex_aload_n ok_X3_forgetReform (mi 9 rfl) rfl ?_
  refine ex_iconst ok_X3_forgetReform (mi 10 rfl) ?_
  refine sf_putI J6 ok_X3_forgetReform (mi 11 rfl) rfl rfl (by decide) (by decide) (by decide +kernel) (fk (INV_3 J6 ha).1 0 rfl) (KPR_ne ha 0 (by decide)).1 (fun g7 J8 => ?_)
  refine ex_vret ok_X3_forgetReform (mi 12 rfl) rfl ?_
  exact ⟨_, rfl, rfl, J8⟩
theorem s_X3_isOnIn {G : GE} (hst : (ge_l G).stackTraces = false) {x : Nat} {U : UT} {g : GT} (I : INV x U g) {a : Nat} (ha : KPR x a) {p0 : Int32} : ex_M G 1 0 0 my_X3_isOnIn [.ref a, .int p0] g (SVp g pZ) := by
  refine ex_M_of ok_X3_isOnIn cw_X3_isOnIn rfl hst (Nat.le_of_ble_eq_true rfl) ?_
  refine ex_aload_n ok_X3_isOnIn (mi 0 rfl) rfl ?_
  refine sf_getI ok_X3_isOnIn (mi 1 rfl) rfl rfl (fk (INV_3 I ha).1 0 rfl) (fun v1 => ?_)
  refine ex_iconst ok_X3_isOnIn (mi 2 rfl) ?_
  refine ex_icmp_ne (tgt := 20) ok_X3_isOnIn (mi 3 rfl) rfl (fun h5 => ?_) (fun h5 => ?_)
  · skip
    refine ex_iconst ok_X3_isOnIn (mi 10 rfl) ?_
    refine ex_zret ok_X3_isOnIn (mi 11 rfl) rfl (by decide) ?_
    exact ⟨_, rfl, ⟨_, rfl, (by decide)⟩, rfl⟩
  · skip
    refine ex_aload_n ok_X3_isOnIn (mi 4 rfl) rfl ?_
    refine sf_getI ok_X3_isOnIn (mi 5 rfl) rfl rfl (fk (INV_3 I ha).1 0 rfl) (fun v2 => ?_)
    refine ex_iload_n ok_X3_isOnIn (mi 6 rfl) rfl ?_
    refine ex_icmp_ne (tgt := 20) ok_X3_isOnIn (mi 7 rfl) rfl (fun h13 => ?_) (fun h13 => ?_)
    · skip
      refine ex_iconst ok_X3_isOnIn (mi 10 rfl) ?_
      refine ex_zret ok_X3_isOnIn (mi 11 rfl) rfl (by decide) ?_
      exact ⟨_, rfl, ⟨_, rfl, (by decide)⟩, rfl⟩
    · skip
      refine ex_iconst ok_X3_isOnIn (mi 8 rfl) ?_
      refine ex_goto (tgt := 21) ok_X3_isOnIn (mi 9 rfl) rfl ?_
      refine ex_zret ok_X3_isOnIn (mi 11 rfl) rfl (by decide) ?_
      exact ⟨_, rfl, ⟨_, rfl, (by decide)⟩, rfl⟩
theorem s_X3_knowsNext {G : GE} (hst : (ge_l G).stackTraces = false) {x : Nat} {U : UT} {g : GT} (I : INV x U g) {a : Nat} (ha : KPR x a) : ex_M G 1 0 0 my_X3_knowsNext [.ref a] g (SVp g pZ) := by
  refine ex_M_of ok_X3_knowsNext cw_X3_knowsNext rfl hst (Nat.le_of_ble_eq_true rfl) ?_
  refine ex_aload_n ok_X3_knowsNext (mi 0 rfl) rfl ?_
  refine sf_getI ok_X3_knowsNext (mi 1 rfl) rfl rfl (fk (INV_3 I ha).1 0 rfl) (fun v1 => ?_)
  refine ex_if_eq (tgt := 11) ok_X3_knowsNext (mi 2 rfl) rfl (fun h4 => ?_) (fun h4 => ?_)
  · skip
    refine ex_iconst ok_X3_knowsNext (mi 5 rfl) ?_
    refine ex_zret ok_X3_knowsNext (mi 6 rfl) rfl (by decide) ?_
    exact ⟨_, rfl, ⟨_, rfl, (by decide)⟩, rfl⟩
  · skip
    refine ex_iconst ok_X3_knowsNext (mi 3 rfl) ?_
    refine ex_goto (tgt := 12) ok_X3_knowsNext (mi 4 rfl) rfl ?_
    refine ex_zret ok_X3_knowsNext (mi 6 rfl) rfl (by decide) ?_
    exact ⟨_, rfl, ⟨_, rfl, (by decide)⟩, rfl⟩
theorem s_X3_sendGone {G : GE} (hst : (ge_l G).stackTraces = false) {x : Nat} {U : UT} {g : GT} (I : INV x U g) {a : Nat} (ha : KPR x a) {p0 : Int32} : ex_M G 2 0 0 my_X3_sendGone [.ref a, .int p0] g (SV x U pN) := by
  refine ex_M_of ok_X3_sendGone cw_X3_sendGone rfl hst (Nat.le_of_ble_eq_true rfl) ?_
  refine ex_aload_n ok_X3_sendGone (mi 0 rfl) rfl ?_
  refine sf_Vp (As := []) ok_X3_sendGone (mi 1 rfl) rfl (s_X3_knowsNext hst I ha) rfl (fk (INV_3 I ha).1 0 rfl) rfl rfl (by decide) (by decide) (Nat.le_of_ble_eq_true rfl) (by decide) (fun z1 p3 => ?_)
  obtain ⟨v5, rfl, hbv5⟩ := p3
  refine ex_if_eq (tgt := 33) ok_X3_sendGone (mi 2 rfl) rfl (fun h4 => ?_) (fun h4 => ?_)
  · skip
    refine ex_vret ok_X3_sendGone (mi 18 rfl) rfl ?_
    exact ⟨_, rfl, rfl, I⟩
  · skip
    refine ex_aload_n ok_X3_sendGone (mi 3 rfl) rfl ?_
    refine ex_getRx ok_X3_sendGone (mi 4 rfl) rfl rfl (fk (INV_3 I ha).1 0 rfl) (INV_3 I ha).2.1 (fk I.1 1 rfl) (by decide) ?_
    refine ex_bipush ok_X3_sendGone (mi 5 rfl) ?_
    refine ex_aload_n ok_X3_sendGone (mi 6 rfl) rfl ?_
    refine sf_getI ok_X3_sendGone (mi 7 rfl) rfl rfl (fk (INV_3 I ha).1 0 rfl) (fun v6 => ?_)
    refine ex_iload_n ok_X3_sendGone (mi 8 rfl) rfl ?_
    refine ex_aload_n ok_X3_sendGone (mi 9 rfl) rfl ?_
    refine sf_getI ok_X3_sendGone (mi 10 rfl) rfl rfl (fk (INV_3 I ha).1 0 rfl) (fun v7 => ?_)
    refine ex_iconst ok_X3_sendGone (mi 11 rfl) ?_
    refine ex_iadd ok_X3_sendGone (mi 12 rfl) ?_
    refine ex_gen (fun w8 => ?_)
    refine ex_aload_n ok_X3_sendGone (mi 13 rfl) rfl ?_
    refine sf_getI ok_X3_sendGone (mi 14 rfl) rfl rfl (fk (INV_3 I ha).1 0 rfl) (fun v9 => ?_)
    refine ex_iconst ok_X3_sendGone (mi 15 rfl) ?_
    refine sf_V (As := [_, _, _, _, _, _]) ok_X3_sendGone (mi 16 rfl) rfl (s_X0_send hst I) rfl (fk I.1 1 rfl) rfl rfl (by decide) (by decide) (Nat.le_of_ble_eq_true rfl) (by decide) (fun z10 g11 p12 J13 => ?_)
    obtain ⟨m14, rfl, hm14⟩ := p12
    refine ex_pop ok_X3_sendGone (mi 17 rfl) rfl ?_
    refine ex_vret ok_X3_sendGone (mi 18 rfl) rfl ?_
    exact ⟨_, rfl, rfl, J13⟩
theorem s_X3_refuses {G : GE} (hst : (ge_l G).stackTraces = false) {x : Nat} {U : UT} {g : GT} (I : INV x U g) {a : Nat} (ha : KPR x a) {p0 : Int32} {p1 : Int32} {p2 : Int32} : ex_M G 3 0 0 my_X3_refuses [.ref a, .int p0, .int p1, .int p2] g (SVp g pZ) := by
  refine ex_M_of ok_X3_refuses cw_X3_refuses rfl hst (Nat.le_of_ble_eq_true rfl) ?_
  refine ex_aload_n ok_X3_refuses (mi 0 rfl) rfl ?_
  refine ex_getRx ok_X3_refuses (mi 1 rfl) rfl rfl (fk (INV_3 I ha).1 0 rfl) (fr (INV_3 I ha).1 0 rfl) (fk (INV_3 I ha).1 1 rfl) (by decide) ?_
  refine sf_Sp (As := [_]) ok_X3_refuses (mi 2 rfl) rfl (s_X7_size hst I (KPR_rd ha)) rfl rfl rfl (by decide) (Nat.le_of_ble_eq_true rfl) (by decide) (fun z1 p3 => ?_)
  obtain ⟨v5, rfl⟩ := p3
  refine ex_bipush ok_X3_refuses (mi 3 rfl) ?_
  refine ex_icmp_lt (tgt := 14) ok_X3_refuses (mi 4 rfl) rfl (fun h9 => ?_) (fun h9 => ?_)
  · skip
    refine ex_aload_n ok_X3_refuses (mi 7 rfl) rfl ?_
    refine ex_getRx ok_X3_refuses (mi 8 rfl) rfl rfl (fk (INV_3 I ha).1 0 rfl) (fr (INV_3 I ha).1 0 rfl) (fk (INV_3 I ha).1 1 rfl) (by decide) ?_
    refine ex_iload_n ok_X3_refuses (mi 9 rfl) rfl ?_
    refine sf_Sp (As := [_, _]) ok_X3_refuses (mi 10 rfl) rfl (s_X7_has hst I (KPR_rd ha)) rfl rfl rfl (by decide) (Nat.le_of_ble_eq_true rfl) (by decide) (fun z6 p8 => ?_)
    obtain ⟨v10, rfl, hbv10, hfv10⟩ := p8
    refine ex_if_eq (tgt := 41) ok_X3_refuses (mi 11 rfl) rfl (fun h22 => ?_) (fun h22 => ?_)
    · skip
      refine ex_iload_n ok_X3_refuses (mi 22 rfl) rfl ?_
      refine ex_iload_n ok_X3_refuses (mi 23 rfl) rfl ?_
      refine ex_icmp_ge (tgt := 50) ok_X3_refuses (mi 24 rfl) rfl (fun h43 => ?_) (fun h43 => ?_)
      · skip
        refine ex_iconst ok_X3_refuses (mi 27 rfl) ?_
        refine ex_zret ok_X3_refuses (mi 28 rfl) rfl (by decide) ?_
        exact ⟨_, rfl, ⟨_, rfl, (by decide)⟩, rfl⟩
      · skip
        refine ex_iconst ok_X3_refuses (mi 25 rfl) ?_
        refine ex_goto (tgt := 51) ok_X3_refuses (mi 26 rfl) rfl ?_
        refine ex_zret ok_X3_refuses (mi 28 rfl) rfl (by decide) ?_
        exact ⟨_, rfl, ⟨_, rfl, (by decide)⟩, rfl⟩
    · skip
      refine ex_aload_n ok_X3_refuses (mi 12 rfl) rfl ?_
      refine ex_getRx ok_X3_refuses (mi 13 rfl) rfl rfl (fk (INV_3 I ha).1 0 rfl) (INV_3 I ha).2.2 (fk I.1 3 rfl) (by decide) ?_
      refine ex_iload_n ok_X3_refuses (mi 14 rfl) rfl ?_
      refine sf_iald ok_X3_refuses (mi 15 rfl) (fk I.1 3 rfl) (fn I.1 3 rfl) (hfv10 h22) (fun v11 => ?_)
      refine ex_iload_n ok_X3_refuses (mi 16 rfl) rfl ?_
      refine ex_icmp_eq (tgt := 39) ok_X3_refuses (mi 17 rfl) rfl (fun h32 => ?_) (fun h32 => ?_)
      · skip
        refine ex_iconst ok_X3_refuses (mi 20 rfl) ?_
        refine ex_zret ok_X3_refuses (mi 21 rfl) rfl (by decide) ?_
        exact ⟨_, rfl, ⟨_, rfl, (by decide)⟩, rfl⟩
      · skip
        refine ex_iconst ok_X3_refuses (mi 18 rfl) ?_
        refine ex_goto (tgt := 40) ok_X3_refuses (mi 19 rfl) rfl ?_
        refine ex_zret ok_X3_refuses (mi 21 rfl) rfl (by decide) ?_
        exact ⟨_, rfl, ⟨_, rfl, (by decide)⟩, rfl⟩
  · skip
    refine ex_iconst ok_X3_refuses (mi 5 rfl) ?_
    refine ex_zret ok_X3_refuses (mi 6 rfl) rfl (by decide) ?_
    exact ⟨_, rfl, ⟨_, rfl, (by decide)⟩, rfl⟩
theorem s_X3_receiveMatch {G : GE} (hst : (ge_l G).stackTraces = false) {x : Nat} {U : UT} {g : GT} (I : INV x U g) {a : Nat} (ha : KPR x a) {m0 : Nat} (hm0 : MSR x m0) : ex_M G 4 0 0 my_X3_receiveMatch [.ref a, .ref m0] g (SV x U pN) := by
  refine ex_M_of ok_X3_receiveMatch cw_X3_receiveMatch rfl hst (Nat.le_of_ble_eq_true rfl) ?_
  refine ex_aload_n ok_X3_receiveMatch (mi 0 rfl) rfl ?_
  refine ex_aload_n ok_X3_receiveMatch (mi 1 rfl) rfl ?_
  refine ex_getI ok_X3_receiveMatch (mi 2 rfl) rfl rfl (fk (INV_6 I hm0) 0 rfl) ?_
  refine sf_Vp (As := [_]) ok_X3_receiveMatch (mi 3 rfl) rfl (s_X3_isOnIn hst I ha) rfl (fk (INV_3 I ha).1 0 rfl) rfl rfl (by decide) (by decide) (Nat.le_of_ble_eq_true rfl) (by decide) (fun z1 p3 => ?_)
  obtain ⟨v5, rfl, hbv5⟩ := p3
  refine ex_if_ne (tgt := 20) ok_X3_receiveMatch (mi 4 rfl) rfl (fun h8 => ?_) (fun h8 => ?_)
  · skip
    refine ex_aload_n ok_X3_receiveMatch (mi 10 rfl) rfl ?_
    refine ex_getI ok_X3_receiveMatch (mi 11 rfl) rfl rfl (fk (INV_6 I hm0) 0 rfl) ?_
    refine ex_istore_n ok_X3_receiveMatch (mi 12 rfl) ?_
    refine ex_aload_n ok_X3_receiveMatch (mi 13 rfl) rfl ?_
    refine ex_getRx ok_X3_receiveMatch (mi 14 rfl) rfl rfl (fk (INV_3 I ha).1 0 rfl) (fr (INV_3 I ha).1 0 rfl) (fk (INV_3 I ha).1 1 rfl) (by decide) ?_
    refine sf_Sp (As := [_]) ok_X3_receiveMatch (mi 15 rfl) rfl (s_X7_greatest hst I (KPR_rd ha)) rfl rfl rfl (by decide) (Nat.le_of_ble_eq_true rfl) (by decide) (fun z6 p8 => ?_)
    obtain ⟨v10, rfl⟩ := p8
    refine ex_aload_n ok_X3_receiveMatch (mi 16 rfl) rfl ?_
    refine sf_getI ok_X3_receiveMatch (mi 17 rfl) rfl rfl (fk (INV_3 I ha).1 0 rfl) (fun v11 => ?_)
    refine sf_max ok_X3_receiveMatch (mi 18 rfl) rfl (Nat.le_of_ble_eq_true rfl) (fun v12 => ?_)
    refine ex_istore_n ok_X3_receiveMatch (mi 19 rfl) ?_
    refine ex_aload_n ok_X3_receiveMatch (mi 20 rfl) rfl ?_
    refine ex_iload_n ok_X3_receiveMatch (mi 21 rfl) rfl ?_
    refine ex_aload_n ok_X3_receiveMatch (mi 22 rfl) rfl ?_
    refine ex_getI ok_X3_receiveMatch (mi 23 rfl) rfl rfl (fk (INV_6 I hm0) 0 rfl) ?_
    refine ex_iload_n ok_X3_receiveMatch (mi 24 rfl) rfl ?_
    refine sf_Vp (As := [_, _, _]) ok_X3_receiveMatch (mi 25 rfl) rfl (s_X3_refuses hst I ha) rfl (fk (INV_3 I ha).1 0 rfl) rfl rfl (by decide) (by decide) (Nat.le_of_ble_eq_true rfl) (by decide) (fun z13 p15 => ?_)
    obtain ⟨v17, rfl, hbv17⟩ := p15
    refine ex_if_eq (tgt := 75) ok_X3_receiveMatch (mi 26 rfl) rfl (fun h50 => ?_) (fun h50 => ?_)
    · skip
      refine ex_aload_n ok_X3_receiveMatch (mi 40 rfl) rfl ?_
      refine ex_getRx ok_X3_receiveMatch (mi 41 rfl) rfl rfl (fk (INV_3 I ha).1 0 rfl) (fr (INV_3 I ha).1 0 rfl) (fk (INV_3 I ha).1 1 rfl) (by decide) ?_
      refine ex_iload_n ok_X3_receiveMatch (mi 42 rfl) rfl ?_
      refine sf_S (As := [_, _]) ok_X3_receiveMatch (mi 43 rfl) rfl (s_X7_add hst I (KPR_rd ha)) rfl rfl rfl (by decide) (Nat.le_of_ble_eq_true rfl) (by decide) (fun z18 g19 p20 J21 => ?_)
      obtain rfl : z18 = none := p20
      refine ex_aload_n ok_X3_receiveMatch (mi 44 rfl) rfl ?_
      refine ex_getRx ok_X3_receiveMatch (mi 45 rfl) rfl rfl (fk (INV_3 J21 ha).1 0 rfl) (INV_3 J21 ha).2.1 (fk J21.1 1 rfl) (by decide) ?_
      refine ex_iconst ok_X3_receiveMatch (mi 46 rfl) ?_
      refine ex_aload_n ok_X3_receiveMatch (mi 47 rfl) rfl ?_
      refine sf_getI ok_X3_receiveMatch (mi 48 rfl) rfl rfl (fk (INV_3 J21 ha).1 0 rfl) (fun v22 => ?_)
      refine ex_aload_n ok_X3_receiveMatch (mi 49 rfl) rfl ?_
      refine ex_getI ok_X3_receiveMatch (mi 50 rfl) rfl rfl (fk (INV_6 J21 hm0) 0 rfl) ?_
      refine ex_aload_n ok_X3_receiveMatch (mi 51 rfl) rfl ?_
      refine sf_getI ok_X3_receiveMatch (mi 52 rfl) rfl rfl (fk (INV_3 J21 ha).1 0 rfl) (fun v23 => ?_)
      refine ex_iload_n ok_X3_receiveMatch (mi 53 rfl) rfl ?_
      refine ex_aload_n ok_X3_receiveMatch (mi 54 rfl) rfl ?_
      refine sf_getI ok_X3_receiveMatch (mi 55 rfl) rfl rfl (fk (INV_3 J21 ha).1 0 rfl) (fun v24 => ?_)
      refine sf_V (As := [_, _, _, _, _, _]) ok_X3_receiveMatch (mi 56 rfl) rfl (s_X0_send hst J21) rfl (fk J21.1 1 rfl) rfl rfl (by decide) (by decide) (Nat.le_of_ble_eq_true rfl) (by decide) (fun z25 g26 p27 J28 => ?_)
      obtain ⟨m29, rfl, hm29⟩ := p27
      refine ex_astore ok_X3_receiveMatch (mi 57 rfl) ?_
      refine ex_aload ok_X3_receiveMatch (mi 58 rfl) rfl ?_
      refine ex_getRx ok_X3_receiveMatch (mi 59 rfl) rfl rfl (fk (INV_6 J28 hm29) 0 rfl) (fr (INV_6 J28 hm29) 0 rfl) (fk (INV_6 J28 hm29) 1 rfl) (by decide) ?_
      refine ex_aload_n ok_X3_receiveMatch (mi 60 rfl) rfl ?_
      refine ex_getRx ok_X3_receiveMatch (mi 61 rfl) rfl rfl (fk (INV_3 J28 ha).1 0 rfl) (fr (INV_3 J28 ha).1 0 rfl) (fk (INV_3 J28 ha).1 1 rfl) (by decide) ?_
      refine sf_S (As := [_, _]) ok_X3_receiveMatch (mi 62 rfl) rfl (s_X7_setTo hst J28 (MSR_rd hm29) (KPR_rd ha)) rfl rfl rfl (by decide) (Nat.le_of_ble_eq_true rfl) (by decide) (fun z30 g31 p32 J33 => ?_)
      obtain rfl : z30 = none := p32
      refine ex_aload ok_X3_receiveMatch (mi 63 rfl) rfl ?_
      refine ex_getRx ok_X3_receiveMatch (mi 64 rfl) rfl rfl (fk (INV_6 J33 hm29) 0 rfl) (fr (INV_6 J33 hm29) 0 rfl) (fk (INV_6 J33 hm29) 1 rfl) (by decide) ?_
      refine ex_iload_n ok_X3_receiveMatch (mi 65 rfl) rfl ?_
      refine sf_S (As := [_, _]) ok_X3_receiveMatch (mi 66 rfl) rfl (s_X7_keepBelow hst J33 (MSR_rd hm29)) rfl rfl rfl (by decide) (Nat.le_of_ble_eq_true rfl) (by decide) (fun z34 g35 p36 J37 => ?_)
      obtain rfl : z34 = none := p36
      refine ex_vret ok_X3_receiveMatch (mi 67 rfl) rfl ?_
      exact ⟨_, rfl, rfl, J37⟩
    · skip
      refine ex_aload_n ok_X3_receiveMatch (mi 27 rfl) rfl ?_
      refine ex_getRx ok_X3_receiveMatch (mi 28 rfl) rfl rfl (fk (INV_3 I ha).1 0 rfl) (INV_3 I ha).2.1 (fk I.1 1 rfl) (by decide) ?_
      refine ex_bipush ok_X3_receiveMatch (mi 29 rfl) ?_
      refine ex_aload_n ok_X3_receiveMatch (mi 30 rfl) rfl ?_
      refine sf_getI ok_X3_receiveMatch (mi 31 rfl) rfl rfl (fk (INV_3 I ha).1 0 rfl) (fun v38 => ?_)
      refine ex_aload_n ok_X3_receiveMatch (mi 32 rfl) rfl ?_
      refine ex_getI ok_X3_receiveMatch (mi 33 rfl) rfl rfl (fk (INV_6 I hm0) 0 rfl) ?_
      refine ex_iload_n ok_X3_receiveMatch (mi 34 rfl) rfl ?_
      refine ex_iload_n ok_X3_receiveMatch (mi 35 rfl) rfl ?_
      refine ex_iconst ok_X3_receiveMatch (mi 36 rfl) ?_
      refine sf_V (As := [_, _, _, _, _, _]) ok_X3_receiveMatch (mi 37 rfl) rfl (s_X0_send hst I) rfl (fk I.1 1 rfl) rfl rfl (by decide) (by decide) (Nat.le_of_ble_eq_true rfl) (by decide) (fun z39 g40 p41 J42 => ?_)
      obtain ⟨m43, rfl, hm43⟩ := p41
      refine ex_pop ok_X3_receiveMatch (mi 38 rfl) rfl ?_
      refine ex_vret ok_X3_receiveMatch (mi 39 rfl) rfl ?_
      exact ⟨_, rfl, rfl, J42⟩
  · skip
    refine ex_aload_n ok_X3_receiveMatch (mi 5 rfl) rfl ?_
    refine ex_aload_n ok_X3_receiveMatch (mi 6 rfl) rfl ?_
    refine ex_getI ok_X3_receiveMatch (mi 7 rfl) rfl rfl (fk (INV_6 I hm0) 0 rfl) ?_
    refine sf_V (As := [_]) ok_X3_receiveMatch (mi 8 rfl) rfl (s_X3_sendGone hst I ha) rfl (fk (INV_3 I ha).1 0 rfl) rfl rfl (by decide) (by decide) (Nat.le_of_ble_eq_true rfl) (by decide) (fun z44 g45 p46 J47 => ?_)
    obtain rfl : z44 = none := p46
    refine ex_vret ok_X3_receiveMatch (mi 9 rfl) rfl ?_
    exact ⟨_, rfl, rfl, J47⟩
theorem s_X3_receiveCollect {G : GE} (hst : (ge_l G).stackTraces = false) {x : Nat} {U : UT} {g : GT} (I : INV x U g) {a : Nat} (ha : KPR x a) {m0 : Nat} (hm0 : MSR x m0) : ex_M G 3 0 0 my_X3_receiveCollect [.ref a, .ref m0] g (SV x U pN) := by
  refine ex_M_of ok_X3_receiveCollect cw_X3_receiveCollect rfl hst (Nat.le_of_ble_eq_true rfl) ?_
  refine ex_aload_n ok_X3_receiveCollect (mi 0 rfl) rfl ?_
  refine ex_aload_n ok_X3_receiveCollect (mi 1 rfl) rfl ?_
  refine ex_getI ok_X3_receiveCollect (mi 2 rfl) rfl rfl (fk (INV_6 I hm0) 0 rfl) ?_
  refine sf_Vp (As := [_]) ok_X3_receiveCollect (mi 3 rfl) rfl (s_X3_isOnIn hst I ha) rfl (fk (INV_3 I ha).1 0 rfl) rfl rfl (by decide) (by decide) (Nat.le_of_ble_eq_true rfl) (by decide) (fun z1 p3 => ?_)
  obtain ⟨v5, rfl, hbv5⟩ := p3
  refine ex_if_ne (tgt := 20) ok_X3_receiveCollect (mi 4 rfl) rfl (fun h8 => ?_) (fun h8 => ?_)
  · skip
    refine ex_aload_n ok_X3_receiveCollect (mi 10 rfl) rfl ?_
    refine ex_getRx ok_X3_receiveCollect (mi 11 rfl) rfl rfl (fk (INV_3 I ha).1 0 rfl) (fr (INV_3 I ha).1 0 rfl) (fk (INV_3 I ha).1 1 rfl) (by decide) ?_
    refine ex_aload_n ok_X3_receiveCollect (mi 12 rfl) rfl ?_
    refine ex_getI ok_X3_receiveCollect (mi 13 rfl) rfl rfl (fk (INV_6 I hm0) 0 rfl) ?_
    refine sf_S (As := [_, _]) ok_X3_receiveCollect (mi 14 rfl) rfl (s_X7_dropBelow hst I (KPR_rd ha)) rfl rfl rfl (by decide) (Nat.le_of_ble_eq_true rfl) (by decide) (fun z6 g7 p8 J9 => ?_)
    obtain rfl : z6 = none := p8
    refine ex_aload_n ok_X3_receiveCollect (mi 15 rfl) rfl ?_
    refine ex_aload_n ok_X3_receiveCollect (mi 16 rfl) rfl ?_
    refine sf_getI ok_X3_receiveCollect (mi 17 rfl) rfl rfl (fk (INV_3 J9 ha).1 0 rfl) (fun v10 => ?_)
    refine ex_aload_n ok_X3_receiveCollect (mi 18 rfl) rfl ?_
    refine ex_getI ok_X3_receiveCollect (mi 19 rfl) rfl rfl (fk (INV_6 J9 hm0) 0 rfl) ?_
    refine sf_max ok_X3_receiveCollect (mi 20 rfl) rfl (Nat.le_of_ble_eq_true rfl) (fun v11 => ?_)
    refine sf_putI J9 ok_X3_receiveCollect (mi 21 rfl) rfl rfl (by decide) (by decide) (by decide +kernel) (fk (INV_3 J9 ha).1 0 rfl) (KPR_ne ha 0 (by decide)).1 (fun g12 J13 => ?_)
    refine ex_aload_n ok_X3_receiveCollect (mi 22 rfl) rfl ?_
    refine ex_getRx ok_X3_receiveCollect (mi 23 rfl) rfl rfl (fk (INV_3 J13 ha).1 0 rfl) (INV_3 J13 ha).2.1 (fk J13.1 1 rfl) (by decide) ?_
    refine ex_bipush ok_X3_receiveCollect (mi 24 rfl) ?_
    refine ex_aload_n ok_X3_receiveCollect (mi 25 rfl) rfl ?_
    refine sf_getI ok_X3_receiveCollect (mi 26 rfl) rfl rfl (fk (INV_3 J13 ha).1 0 rfl) (fun v14 => ?_)
    refine ex_aload_n ok_X3_receiveCollect (mi 27 rfl) rfl ?_
    refine ex_getI ok_X3_receiveCollect (mi 28 rfl) rfl rfl (fk (INV_6 J13 hm0) 0 rfl) ?_
    refine ex_aload_n ok_X3_receiveCollect (mi 29 rfl) rfl ?_
    refine sf_getI ok_X3_receiveCollect (mi 30 rfl) rfl rfl (fk (INV_3 J13 ha).1 0 rfl) (fun v15 => ?_)
    refine ex_aload_n ok_X3_receiveCollect (mi 31 rfl) rfl ?_
    refine ex_getI ok_X3_receiveCollect (mi 32 rfl) rfl rfl (fk (INV_6 J13 hm0) 0 rfl) ?_
    refine ex_iconst ok_X3_receiveCollect (mi 33 rfl) ?_
    refine sf_V (As := [_, _, _, _, _, _]) ok_X3_receiveCollect (mi 34 rfl) rfl (s_X0_send hst J13) rfl (fk J13.1 1 rfl) rfl rfl (by decide) (by decide) (Nat.le_of_ble_eq_true rfl) (by decide) (fun z16 g17 p18 J19 => ?_)
    obtain ⟨m20, rfl, hm20⟩ := p18
    refine ex_pop ok_X3_receiveCollect (mi 35 rfl) rfl ?_
    refine ex_vret ok_X3_receiveCollect (mi 36 rfl) rfl ?_
    exact ⟨_, rfl, rfl, J19⟩
  · skip
    refine ex_aload_n ok_X3_receiveCollect (mi 5 rfl) rfl ?_
    refine ex_aload_n ok_X3_receiveCollect (mi 6 rfl) rfl ?_
    refine ex_getI ok_X3_receiveCollect (mi 7 rfl) rfl rfl (fk (INV_6 I hm0) 0 rfl) ?_
    refine sf_V (As := [_]) ok_X3_receiveCollect (mi 8 rfl) rfl (s_X3_sendGone hst I ha) rfl (fk (INV_3 I ha).1 0 rfl) rfl rfl (by decide) (by decide) (Nat.le_of_ble_eq_true rfl) (by decide) (fun z21 g22 p23 J24 => ?_)
    obtain rfl : z21 = none := p23
    refine ex_vret ok_X3_receiveCollect (mi 9 rfl) rfl ?_
    exact ⟨_, rfl, rfl, J24⟩
