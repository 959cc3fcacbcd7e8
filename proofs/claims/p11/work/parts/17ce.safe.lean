theorem s_X5_leadsIn {G : GE} (hst : (ge_l G).stackTraces = false) {x : Nat} {U : UT} {g : GT} (I : INV x U g) {a : Nat} (ha : LDR x a) {p0 : Int32} : ex_M G 1 0 0 my_X5_leadsIn [.ref a, .int p0] g (SVp g pZ) := by
  refine ex_M_of ok_X5_leadsIn cw_X5_leadsIn rfl hst (Nat.le_of_ble_eq_true rfl) ?_
  refine ex_aload_n ok_X5_leadsIn (mi 0 rfl) rfl ?_
  refine sf_getI ok_X5_leadsIn (mi 1 rfl) rfl rfl (fk (INV_5 I ha).1 0 rfl) (fun v1 => ?_)
  refine ex_iconst ok_X5_leadsIn (mi 2 rfl) ?_
  refine ex_icmp_ne (tgt := 20) ok_X5_leadsIn (mi 3 rfl) rfl (fun h5 => ?_) (fun h5 => ?_)
  · skip
    refine ex_iconst ok_X5_leadsIn (mi 10 rfl) ?_
    refine ex_zret ok_X5_leadsIn (mi 11 rfl) rfl (by decide) ?_
    exact ⟨_, rfl, ⟨_, rfl, (by decide)⟩, rfl⟩
  · skip
    refine ex_aload_n ok_X5_leadsIn (mi 4 rfl) rfl ?_
    refine sf_getI ok_X5_leadsIn (mi 5 rfl) rfl rfl (fk (INV_5 I ha).1 0 rfl) (fun v2 => ?_)
    refine ex_iload_n ok_X5_leadsIn (mi 6 rfl) rfl ?_
    refine ex_icmp_ne (tgt := 20) ok_X5_leadsIn (mi 7 rfl) rfl (fun h13 => ?_) (fun h13 => ?_)
    · skip
      refine ex_iconst ok_X5_leadsIn (mi 10 rfl) ?_
      refine ex_zret ok_X5_leadsIn (mi 11 rfl) rfl (by decide) ?_
      exact ⟨_, rfl, ⟨_, rfl, (by decide)⟩, rfl⟩
    · skip
      refine ex_iconst ok_X5_leadsIn (mi 8 rfl) ?_
      refine ex_goto (tgt := 21) ok_X5_leadsIn (mi 9 rfl) rfl ?_
      refine ex_zret ok_X5_leadsIn (mi 11 rfl) rfl (by decide) ?_
      exact ⟨_, rfl, ⟨_, rfl, (by decide)⟩, rfl⟩
theorem s_X5_lead {G : GE} (hst : (ge_l G).stackTraces = false) {x : Nat} {U : UT} {g : GT} (I : INV x U g) {a : Nat} (ha : LDR x a) : ex_M G 3 0 0 my_X5_lead [.ref a] g (SV x U pN) := by
  refine ex_M_of ok_X5_lead cw_X5_lead rfl hst (Nat.le_of_ble_eq_true rfl) ?_
  refine ex_aload_n ok_X5_lead (mi 0 rfl) rfl ?_
  refine ex_iconst ok_X5_lead (mi 1 rfl) ?_
  refine sf_putI I ok_X5_lead (mi 2 rfl) rfl rfl (by decide) (by decide) (by decide +kernel) (fk (INV_5 I ha).1 0 rfl) (LDR_ne ha 0 (by decide)).1 (fun g1 J2 => ?_)
  refine ex_aload_n ok_X5_lead (mi 3 rfl) rfl ?_
  refine ex_aload_n ok_X5_lead (mi 4 rfl) rfl ?_
  refine sf_getI ok_X5_lead (mi 5 rfl) rfl rfl (fk (INV_5 J2 ha).1 0 rfl) (fun v3 => ?_)
  refine sf_putI J2 ok_X5_lead (mi 6 rfl) rfl rfl (by decide) (by decide) (by decide +kernel) (fk (INV_5 J2 ha).1 0 rfl) (LDR_ne ha 0 (by decide)).1 (fun g4 J5 => ?_)
  refine ex_iconst ok_X5_lead (mi 7 rfl) ?_
  refine ex_istore_n ok_X5_lead (mi 8 rfl) ?_
  have lp15 : ∀ n15 k15 : Nat, k15 + n15 = 16 → ∀ (g6 : GT), INV x U g6 → ex_W G 3 0 0 M_X5_lead 15 [(0, .ref a), (1, .int (nI k15))] [] g6 (SV x U pN) := by
    intro n15
    induction n15 with
    | zero =>
      intro k15 hk15  g6 J7
      obtain rfl : k15 = 16 := by omega
      refine ex_iload_n ok_X5_lead (mi 9 rfl) rfl ?_
      refine ex_bipush ok_X5_lead (mi 10 rfl) ?_
      refine ex_icmp_ge (tgt := 51) ok_X5_lead (mi 11 rfl) rfl (fun _ => ?_) (fun hn => absurd (by decide) hn)
      refine ex_aload_n ok_X5_lead (mi 28 rfl) rfl ?_
      refine ex_aload_n ok_X5_lead (mi 29 rfl) rfl ?_
      refine sf_getI ok_X5_lead (mi 30 rfl) rfl rfl (fk (INV_5 J7 ha).1 0 rfl) (fun v8 => ?_)
      refine sf_putI J7 ok_X5_lead (mi 31 rfl) rfl rfl (by decide) (by decide) (by decide +kernel) (fk (INV_5 J7 ha).1 0 rfl) (LDR_ne ha 0 (by decide)).1 (fun g9 J10 => ?_)
      refine ex_iconst ok_X5_lead (mi 32 rfl) ?_
      refine ex_istore_n ok_X5_lead (mi 33 rfl) ?_
      have lp61 : ∀ n61 k61 : Nat, k61 + n61 = 16 → ∀ (g11 : GT), INV x U g11 → ex_W G 3 0 0 M_X5_lead 61 [(0, .ref a), (1, .int (nI k61))] [] g11 (SV x U pN) := by
        intro n61
        induction n61 with
        | zero =>
          intro k61 hk61  g11 J12
          obtain rfl : k61 = 16 := by omega
          refine ex_iload_n ok_X5_lead (mi 34 rfl) rfl ?_
          refine ex_bipush ok_X5_lead (mi 35 rfl) ?_
          refine ex_icmp_ge (tgt := 155) ok_X5_lead (mi 36 rfl) rfl (fun _ => ?_) (fun hn => absurd (by decide) hn)
          refine ex_vret ok_X5_lead (mi 83 rfl) rfl ?_
          exact ⟨_, rfl, rfl, J12⟩
        | succ n61 ih61 =>
          intro k61 hk61  g11 J12
          have hr61 : k61 < 16 := by omega
          refine ex_iload_n ok_X5_lead (mi 34 rfl) rfl ?_
          refine ex_bipush ok_X5_lead (mi 35 rfl) ?_
          refine ex_icmp_ge (tgt := 155) ok_X5_lead (mi 36 rfl) rfl (fun hn => absurd hn (nI_ge hr61 (by decide))) (fun _ => ?_)
          refine ex_iload_n ok_X5_lead (mi 37 rfl) rfl ?_
          refine ex_aload_n ok_X5_lead (mi 38 rfl) rfl ?_
          refine sf_getI ok_X5_lead (mi 39 rfl) rfl rfl (fk (INV_5 J12 ha).1 0 rfl) (fun v13 => ?_)
          refine ex_icmp_ge (tgt := 155) ok_X5_lead (mi 40 rfl) rfl (fun h72 => ?_) (fun h72 => ?_)
          · skip
            refine ex_vret ok_X5_lead (mi 83 rfl) rfl ?_
            exact ⟨_, rfl, rfl, J12⟩
          · skip
            refine ex_iload_n ok_X5_lead (mi 41 rfl) rfl ?_
            refine ex_aload_n ok_X5_lead (mi 42 rfl) rfl ?_
            refine sf_getI ok_X5_lead (mi 43 rfl) rfl rfl (fk (INV_5 J12 ha).1 0 rfl) (fun v14 => ?_)
            refine ex_icmp_ge (tgt := 94) ok_X5_lead (mi 44 rfl) rfl (fun h80 => ?_) (fun h80 => ?_)
            · skip
              refine ex_aload_n ok_X5_lead (mi 50 rfl) rfl ?_
              refine ex_getRx ok_X5_lead (mi 51 rfl) rfl rfl (fk (INV_5 J12 ha).1 0 rfl) (fr (INV_5 J12 ha).1 4 rfl) (fk (INV_5 J12 ha).1 2 rfl) (by decide) ?_
              refine ex_iload_n ok_X5_lead (mi 52 rfl) rfl ?_
              refine sf_iald ok_X5_lead (mi 53 rfl) (fk (INV_5 J12 ha).1 2 rfl) (fn (INV_5 J12 ha).1 2 rfl) (vp_in_nI (by omega) (by decide)) (fun v15 => ?_)
              refine ex_iconst ok_X5_lead (mi 54 rfl) ?_
              refine ex_icmp_ne (tgt := 108) ok_X5_lead (mi 55 rfl) rfl (fun h101 => ?_) (fun h101 => ?_)
              · skip
                refine ex_aload_n ok_X5_lead (mi 58 rfl) rfl ?_
                refine ex_getRx ok_X5_lead (mi 59 rfl) rfl rfl (fk (INV_5 J12 ha).1 0 rfl) (fr (INV_5 J12 ha).1 4 rfl) (fk (INV_5 J12 ha).1 2 rfl) (by decide) ?_
                refine ex_iload_n ok_X5_lead (mi 60 rfl) rfl ?_
                refine sf_iald ok_X5_lead (mi 61 rfl) (fk (INV_5 J12 ha).1 2 rfl) (fn (INV_5 J12 ha).1 2 rfl) (vp_in_nI (by omega) (by decide)) (fun v16 => ?_)
                refine sf_Sp (As := [_]) ok_X5_lead (mi 62 rfl) rfl (s_X10_valueOf hst J12) rfl rfl rfl (by decide) (Nat.le_of_ble_eq_true rfl) (by decide) (fun z17 p19 => ?_)
                obtain ⟨v21, rfl⟩ := p19
                refine ex_istore_n ok_X5_lead (mi 63 rfl) ?_
                refine ex_aload_n ok_X5_lead (mi 64 rfl) rfl ?_
                refine ex_getRx ok_X5_lead (mi 65 rfl) rfl rfl (fk (INV_5 J12 ha).1 0 rfl) (fr (INV_5 J12 ha).1 1 rfl) (fk (INV_5 J12 ha).1 5 rfl) (by decide) ?_
                refine ex_iload_n ok_X5_lead (mi 66 rfl) rfl ?_
                refine ex_iload_n ok_X5_lead (mi 67 rfl) rfl ?_
                refine sf_V (As := [_, _]) ok_X5_lead (mi 68 rfl) rfl (s_X8_put hst J12 (LDR_sl ha)) rfl (fk (INV_5 J12 ha).1 5 rfl) rfl rfl (by decide) (by decide) (Nat.le_of_ble_eq_true rfl) (by decide) (fun z22 g23 p24 J25 => ?_)
                obtain rfl : z22 = none := p24
                refine ex_aload_n ok_X5_lead (mi 69 rfl) rfl ?_
                refine ex_getRx ok_X5_lead (mi 70 rfl) rfl rfl (fk (INV_5 J25 ha).1 0 rfl) (INV_5 J25 ha).2.1 (fk J25.1 1 rfl) (by decide) ?_
                refine ex_iconst ok_X5_lead (mi 71 rfl) ?_
                refine ex_aload_n ok_X5_lead (mi 72 rfl) rfl ?_
                refine sf_getI ok_X5_lead (mi 73 rfl) rfl rfl (fk (INV_5 J25 ha).1 0 rfl) (fun v26 => ?_)
                refine ex_aload_n ok_X5_lead (mi 74 rfl) rfl ?_
                refine sf_getI ok_X5_lead (mi 75 rfl) rfl rfl (fk (INV_5 J25 ha).1 0 rfl) (fun v27 => ?_)
                refine ex_aload_n ok_X5_lead (mi 76 rfl) rfl ?_
                refine sf_getI ok_X5_lead (mi 77 rfl) rfl rfl (fk (INV_5 J25 ha).1 0 rfl) (fun v28 => ?_)
                refine ex_iload_n ok_X5_lead (mi 78 rfl) rfl ?_
                refine ex_iload_n ok_X5_lead (mi 79 rfl) rfl ?_
                refine sf_V (As := [_, _, _, _, _, _]) ok_X5_lead (mi 80 rfl) rfl (s_X0_sendEach hst J25) rfl (fk J25.1 1 rfl) rfl rfl (by decide) (by decide) (Nat.le_of_ble_eq_true rfl) (by decide) (fun z29 g30 p31 J32 => ?_)
                obtain rfl : z29 = none := p31
                refine ex_iincx (w := (nI (k61 + 1))) ok_X5_lead (mi 81 rfl) rfl (nI_1 _) ?_
                refine ex_goto (tgt := 61) ok_X5_lead (mi 82 rfl) rfl ?_
                exact ex_ls (ls' := [(0, .ref a), (1, .int (nI (k61 + 1)))]) ⟨rfl, rfl, trivial⟩ (ih61 (k61 + 1) (by omega) g30 J32)
              · skip
                refine ex_iconst ok_X5_lead (mi 56 rfl) ?_
                refine ex_goto (tgt := 117) ok_X5_lead (mi 57 rfl) rfl ?_
                refine ex_istore_n ok_X5_lead (mi 63 rfl) ?_
                refine ex_aload_n ok_X5_lead (mi 64 rfl) rfl ?_
                refine ex_getRx ok_X5_lead (mi 65 rfl) rfl rfl (fk (INV_5 J12 ha).1 0 rfl) (fr (INV_5 J12 ha).1 1 rfl) (fk (INV_5 J12 ha).1 5 rfl) (by decide) ?_
                refine ex_iload_n ok_X5_lead (mi 66 rfl) rfl ?_
                refine ex_iload_n ok_X5_lead (mi 67 rfl) rfl ?_
                refine sf_V (As := [_, _]) ok_X5_lead (mi 68 rfl) rfl (s_X8_put hst J12 (LDR_sl ha)) rfl (fk (INV_5 J12 ha).1 5 rfl) rfl rfl (by decide) (by decide) (Nat.le_of_ble_eq_true rfl) (by decide) (fun z33 g34 p35 J36 => ?_)
                obtain rfl : z33 = none := p35
                refine ex_aload_n ok_X5_lead (mi 69 rfl) rfl ?_
                refine ex_getRx ok_X5_lead (mi 70 rfl) rfl rfl (fk (INV_5 J36 ha).1 0 rfl) (INV_5 J36 ha).2.1 (fk J36.1 1 rfl) (by decide) ?_
                refine ex_iconst ok_X5_lead (mi 71 rfl) ?_
                refine ex_aload_n ok_X5_lead (mi 72 rfl) rfl ?_
                refine sf_getI ok_X5_lead (mi 73 rfl) rfl rfl (fk (INV_5 J36 ha).1 0 rfl) (fun v37 => ?_)
                refine ex_aload_n ok_X5_lead (mi 74 rfl) rfl ?_
                refine sf_getI ok_X5_lead (mi 75 rfl) rfl rfl (fk (INV_5 J36 ha).1 0 rfl) (fun v38 => ?_)
                refine ex_aload_n ok_X5_lead (mi 76 rfl) rfl ?_
                refine sf_getI ok_X5_lead (mi 77 rfl) rfl rfl (fk (INV_5 J36 ha).1 0 rfl) (fun v39 => ?_)
                refine ex_iload_n ok_X5_lead (mi 78 rfl) rfl ?_
                refine ex_iload_n ok_X5_lead (mi 79 rfl) rfl ?_
                refine sf_V (As := [_, _, _, _, _, _]) ok_X5_lead (mi 80 rfl) rfl (s_X0_sendEach hst J36) rfl (fk J36.1 1 rfl) rfl rfl (by decide) (by decide) (Nat.le_of_ble_eq_true rfl) (by decide) (fun z40 g41 p42 J43 => ?_)
                obtain rfl : z40 = none := p42
                refine ex_iincx (w := (nI (k61 + 1))) ok_X5_lead (mi 81 rfl) rfl (nI_1 _) ?_
                refine ex_goto (tgt := 61) ok_X5_lead (mi 82 rfl) rfl ?_
                exact ex_ls (ls' := [(0, .ref a), (1, .int (nI (k61 + 1)))]) ⟨rfl, rfl, trivial⟩ (ih61 (k61 + 1) (by omega) g41 J43)
            · skip
              refine ex_aload_n ok_X5_lead (mi 45 rfl) rfl ?_
              refine ex_getRx ok_X5_lead (mi 46 rfl) rfl rfl (fk (INV_5 J12 ha).1 0 rfl) (fr (INV_5 J12 ha).1 1 rfl) (fk (INV_5 J12 ha).1 5 rfl) (by decide) ?_
              refine ex_iload_n ok_X5_lead (mi 47 rfl) rfl ?_
              refine sf_V (As := [_]) ok_X5_lead (mi 48 rfl) rfl (s_X8_settle hst J12 (LDR_sl ha)) rfl (fk (INV_5 J12 ha).1 5 rfl) rfl rfl (by decide) (by decide) (Nat.le_of_ble_eq_true rfl) (by decide) (fun z44 g45 p46 J47 => ?_)
              obtain rfl : z44 = none := p46
              refine ex_goto (tgt := 149) ok_X5_lead (mi 49 rfl) rfl ?_
              refine ex_iincx (w := (nI (k61 + 1))) ok_X5_lead (mi 81 rfl) rfl (nI_1 _) ?_
              refine ex_goto (tgt := 61) ok_X5_lead (mi 82 rfl) rfl ?_
              exact ex_ls (ls' := [(0, .ref a), (1, .int (nI (k61 + 1)))]) ⟨rfl, rfl, trivial⟩ (ih61 (k61 + 1) (by omega) g45 J47)
      exact ex_ls (ls' := [(0, .ref a), (1, .int (nI 0))]) ⟨rfl, rfl, trivial⟩ (lp61 16 0 (by decide) g9 J10)
    | succ n15 ih15 =>
      intro k15 hk15  g6 J7
      have hr15 : k15 < 16 := by omega
      refine ex_iload_n ok_X5_lead (mi 9 rfl) rfl ?_
      refine ex_bipush ok_X5_lead (mi 10 rfl) ?_
      refine ex_icmp_ge (tgt := 51) ok_X5_lead (mi 11 rfl) rfl (fun hn => absurd hn (nI_ge hr15 (by decide))) (fun _ => ?_)
      refine ex_aload_n ok_X5_lead (mi 12 rfl) rfl ?_
      refine ex_getRx ok_X5_lead (mi 13 rfl) rfl rfl (fk (INV_5 J7 ha).1 0 rfl) (fr (INV_5 J7 ha).1 4 rfl) (fk (INV_5 J7 ha).1 2 rfl) (by decide) ?_
      refine ex_iload_n ok_X5_lead (mi 14 rfl) rfl ?_
      refine sf_iald ok_X5_lead (mi 15 rfl) (fk (INV_5 J7 ha).1 2 rfl) (fn (INV_5 J7 ha).1 2 rfl) (vp_in_nI (by omega) (by decide)) (fun v48 => ?_)
      refine ex_iconst ok_X5_lead (mi 16 rfl) ?_
      refine ex_icmp_eq (tgt := 45) ok_X5_lead (mi 17 rfl) rfl (fun h28 => ?_) (fun h28 => ?_)
      · skip
        refine ex_iincx (w := (nI (k15 + 1))) ok_X5_lead (mi 26 rfl) rfl (nI_1 _) ?_
        refine ex_goto (tgt := 15) ok_X5_lead (mi 27 rfl) rfl ?_
        exact ex_ls (ls' := [(0, .ref a), (1, .int (nI (k15 + 1)))]) ⟨rfl, rfl, trivial⟩ (ih15 (k15 + 1) (by omega) g6 J7)
      · skip
        refine ex_aload_n ok_X5_lead (mi 18 rfl) rfl ?_
        refine ex_aload_n ok_X5_lead (mi 19 rfl) rfl ?_
        refine sf_getI ok_X5_lead (mi 20 rfl) rfl rfl (fk (INV_5 J7 ha).1 0 rfl) (fun v49 => ?_)
        refine ex_iload_n ok_X5_lead (mi 21 rfl) rfl ?_
        refine ex_iconst ok_X5_lead (mi 22 rfl) ?_
        refine ex_iadd ok_X5_lead (mi 23 rfl) ?_
        refine ex_gen (fun w50 => ?_)
        refine sf_max ok_X5_lead (mi 24 rfl) rfl (Nat.le_of_ble_eq_true rfl) (fun v51 => ?_)
        refine sf_putI J7 ok_X5_lead (mi 25 rfl) rfl rfl (by decide) (by decide) (by decide +kernel) (fk (INV_5 J7 ha).1 0 rfl) (LDR_ne ha 0 (by decide)).1 (fun g52 J53 => ?_)
        refine ex_iincx (w := (nI (k15 + 1))) ok_X5_lead (mi 26 rfl) rfl (nI_1 _) ?_
        refine ex_goto (tgt := 15) ok_X5_lead (mi 27 rfl) rfl ?_
        exact ex_ls (ls' := [(0, .ref a), (1, .int (nI (k15 + 1)))]) ⟨rfl, rfl, trivial⟩ (ih15 (k15 + 1) (by omega) g52 J53)
  exact ex_ls (ls' := [(0, .ref a), (1, .int (nI 0))]) ⟨rfl, rfl, trivial⟩ (lp15 16 0 (by decide) g4 J5)
theorem s_X5_receiveMatched {G : GE} (hst : (ge_l G).stackTraces = false) {x : Nat} {U : UT} {g : GT} (I : INV x U g) {a : Nat} (ha : LDR x a) {m0 : Nat} (hm0 : MSR x m0) : ex_M G 4 0 0 my_X5_receiveMatched [.ref a, .ref m0] g (SV x U pN) := by
  refine ex_M_of ok_X5_receiveMatched cw_X5_receiveMatched rfl hst (Nat.le_of_ble_eq_true rfl) ?_
  refine ex_aload_n ok_X5_receiveMatched (mi 0 rfl) rfl ?_
  refine sf_getI ok_X5_receiveMatched (mi 1 rfl) rfl rfl (fk (INV_5 I ha).1 0 rfl) (fun v1 => ?_)
  refine ex_iconst ok_X5_receiveMatched (mi 2 rfl) ?_
  refine ex_icmp_ne (tgt := 33) ok_X5_receiveMatched (mi 3 rfl) rfl (fun h5 => ?_) (fun h5 => ?_)
  · skip
    refine ex_vret ok_X5_receiveMatched (mi 15 rfl) rfl ?_
    exact ⟨_, rfl, rfl, I⟩
  · skip
    refine ex_aload_n ok_X5_receiveMatched (mi 4 rfl) rfl ?_
    refine ex_getI ok_X5_receiveMatched (mi 5 rfl) rfl rfl (fk (INV_6 I hm0) 0 rfl) ?_
    refine ex_aload_n ok_X5_receiveMatched (mi 6 rfl) rfl ?_
    refine sf_getI ok_X5_receiveMatched (mi 7 rfl) rfl rfl (fk (INV_5 I ha).1 0 rfl) (fun v2 => ?_)
    refine ex_icmp_ne (tgt := 33) ok_X5_receiveMatched (mi 8 rfl) rfl (fun h16 => ?_) (fun h16 => ?_)
    · skip
      refine ex_vret ok_X5_receiveMatched (mi 15 rfl) rfl ?_
      exact ⟨_, rfl, rfl, I⟩
    · skip
      refine ex_aload_n ok_X5_receiveMatched (mi 9 rfl) rfl ?_
      refine ex_getI ok_X5_receiveMatched (mi 10 rfl) rfl rfl (fk (INV_6 I hm0) 0 rfl) ?_
      refine ex_aload_n ok_X5_receiveMatched (mi 11 rfl) rfl ?_
      refine ex_getRx ok_X5_receiveMatched (mi 12 rfl) rfl rfl (fk (INV_5 I ha).1 0 rfl) (fr (INV_5 I ha).1 0 rfl) (fk (INV_5 I ha).1 3 rfl) (by decide) ?_
      refine sf_getI ok_X5_receiveMatched (mi 13 rfl) rfl rfl (fk (INV_5 I ha).1 3 rfl) (fun v3 => ?_)
      refine ex_icmp_eq (tgt := 34) ok_X5_receiveMatched (mi 14 rfl) rfl (fun h30 => ?_) (fun h30 => ?_)
      · skip
        refine ex_aload_n ok_X5_receiveMatched (mi 16 rfl) rfl ?_
        refine ex_dup ok_X5_receiveMatched (mi 17 rfl) rfl ?_
        refine sf_getI ok_X5_receiveMatched (mi 18 rfl) rfl rfl (fk (INV_5 I ha).1 0 rfl) (fun v4 => ?_)
        refine ex_iconst ok_X5_receiveMatched (mi 19 rfl) ?_
        refine ex_aload_n ok_X5_receiveMatched (mi 20 rfl) rfl ?_
        refine ex_getI ok_X5_receiveMatched (mi 21 rfl) rfl rfl (fk (INV_6 I hm0) 0 rfl) ?_
        refine ex_ishl ok_X5_receiveMatched (mi 22 rfl) ?_
        refine ex_gen (fun w5 => ?_)
        refine ex_ior ok_X5_receiveMatched (mi 23 rfl) ?_
        refine ex_gen (fun w6 => ?_)
        refine sf_putI I ok_X5_receiveMatched (mi 24 rfl) rfl rfl (by decide) (by decide) (by decide +kernel) (fk (INV_5 I ha).1 0 rfl) (LDR_ne ha 0 (by decide)).1 (fun g7 J8 => ?_)
        refine ex_aload_n ok_X5_receiveMatched (mi 25 rfl) rfl ?_
        refine ex_aload_n ok_X5_receiveMatched (mi 26 rfl) rfl ?_
        refine sf_getI ok_X5_receiveMatched (mi 27 rfl) rfl rfl (fk (INV_5 J8 ha).1 0 rfl) (fun v9 => ?_)
        refine ex_aload_n ok_X5_receiveMatched (mi 28 rfl) rfl ?_
        refine ex_getI ok_X5_receiveMatched (mi 29 rfl) rfl rfl (fk (INV_6 J8 hm0) 0 rfl) ?_
        refine sf_max ok_X5_receiveMatched (mi 30 rfl) rfl (Nat.le_of_ble_eq_true rfl) (fun v10 => ?_)
        refine sf_putI J8 ok_X5_receiveMatched (mi 31 rfl) rfl rfl (by decide) (by decide) (by decide +kernel) (fk (INV_5 J8 ha).1 0 rfl) (LDR_ne ha 0 (by decide)).1 (fun g11 J12 => ?_)
        refine ex_aload_n ok_X5_receiveMatched (mi 32 rfl) rfl ?_
        refine ex_getRx ok_X5_receiveMatched (mi 33 rfl) rfl rfl (fk (INV_5 J12 ha).1 0 rfl) (fr (INV_5 J12 ha).1 3 rfl) (fk (INV_5 J12 ha).1 1 rfl) (by decide) ?_
        refine ex_aload_n ok_X5_receiveMatched (mi 34 rfl) rfl ?_
        refine ex_getRx ok_X5_receiveMatched (mi 35 rfl) rfl rfl (fk (INV_6 J12 hm0) 0 rfl) (fr (INV_6 J12 hm0) 0 rfl) (fk (INV_6 J12 hm0) 1 rfl) (by decide) ?_
        refine sf_S (As := [_, _]) ok_X5_receiveMatched (mi 36 rfl) rfl (s_X7_addAll hst J12 (LDR_rd1 ha) (MSR_rd hm0)) rfl rfl rfl (by decide) (Nat.le_of_ble_eq_true rfl) (by decide) (fun z13 g14 p15 J16 => ?_)
        obtain rfl : z13 = none := p15
        refine ex_aload_n ok_X5_receiveMatched (mi 37 rfl) rfl ?_
        refine sf_getI ok_X5_receiveMatched (mi 38 rfl) rfl rfl (fk (INV_5 J16 ha).1 0 rfl) (fun v17 => ?_)
        refine ex_aload_n ok_X5_receiveMatched (mi 39 rfl) rfl ?_
        refine ex_getRx ok_X5_receiveMatched (mi 40 rfl) rfl rfl (fk (INV_5 J16 ha).1 0 rfl) (fr (INV_5 J16 ha).1 0 rfl) (fk (INV_5 J16 ha).1 3 rfl) (by decide) ?_
        refine sf_getI ok_X5_receiveMatched (mi 41 rfl) rfl rfl (fk (INV_5 J16 ha).1 3 rfl) (fun v18 => ?_)
        refine ex_iand ok_X5_receiveMatched (mi 42 rfl) ?_
        refine ex_gen (fun w19 => ?_)
        refine sf_SNp (As := [_]) ok_X5_receiveMatched (mi 43 rfl) rfl (s_X11_areTwo hst J16) rfl (List.mem_of_getElem? (i := 3) rfl) rfl rfl (by decide) (Nat.le_of_ble_eq_true rfl) (by decide) (fun z20 p22 => ?_)
        obtain ⟨v24, rfl, hbv24⟩ := p22
        refine ex_if_ne (tgt := 94) ok_X5_receiveMatched (mi 44 rfl) rfl (fun h90 => ?_) (fun h90 => ?_)
        · skip
          refine ex_aload_n ok_X5_receiveMatched (mi 46 rfl) rfl ?_
          refine ex_getRx ok_X5_receiveMatched (mi 47 rfl) rfl rfl (fk (INV_5 J16 ha).1 0 rfl) (fr (INV_5 J16 ha).1 3 rfl) (fk (INV_5 J16 ha).1 1 rfl) (by decide) ?_
          refine ex_aload_n ok_X5_receiveMatched (mi 48 rfl) rfl ?_
          refine sf_getI ok_X5_receiveMatched (mi 49 rfl) rfl rfl (fk (INV_5 J16 ha).1 0 rfl) (fun v25 => ?_)
          refine sf_S (As := [_, _]) ok_X5_receiveMatched (mi 50 rfl) rfl (s_X7_dropBelow hst J16 (LDR_rd1 ha)) rfl rfl rfl (by decide) (Nat.le_of_ble_eq_true rfl) (by decide) (fun z26 g27 p28 J29 => ?_)
          obtain rfl : z26 = none := p28
          refine ex_aload_n ok_X5_receiveMatched (mi 51 rfl) rfl ?_
          refine ex_iconst ok_X5_receiveMatched (mi 52 rfl) ?_
          refine sf_putI J29 ok_X5_receiveMatched (mi 53 rfl) rfl rfl (by decide) (by decide) (by decide +kernel) (fk (INV_5 J29 ha).1 0 rfl) (LDR_ne ha 0 (by decide)).1 (fun g30 J31 => ?_)
          refine ex_aload_n ok_X5_receiveMatched (mi 54 rfl) rfl ?_
          refine sf_Vp (As := []) ok_X5_receiveMatched (mi 55 rfl) rfl (s_X5_historyVoters hst J31 ha) rfl (fk (INV_5 J31 ha).1 0 rfl) rfl rfl (by decide) (by decide) (Nat.le_of_ble_eq_true rfl) (by decide) (fun z32 p34 => ?_)
          obtain ⟨v36, rfl⟩ := p34
          refine ex_istore_n ok_X5_receiveMatched (mi 56 rfl) ?_
          refine ex_iload_n ok_X5_receiveMatched (mi 57 rfl) rfl ?_
          refine ex_if_ne (tgt := 126) ok_X5_receiveMatched (mi 58 rfl) rfl (fun h116 => ?_) (fun h116 => ?_)
          · skip
            refine ex_aload_n ok_X5_receiveMatched (mi 62 rfl) rfl ?_
            refine ex_getRx ok_X5_receiveMatched (mi 63 rfl) rfl rfl (fk (INV_5 J31 ha).1 0 rfl) (INV_5 J31 ha).2.1 (fk J31.1 1 rfl) (by decide) ?_
            refine ex_iconst ok_X5_receiveMatched (mi 64 rfl) ?_
            refine ex_aload_n ok_X5_receiveMatched (mi 65 rfl) rfl ?_
            refine sf_getI ok_X5_receiveMatched (mi 66 rfl) rfl rfl (fk (INV_5 J31 ha).1 0 rfl) (fun v37 => ?_)
            refine ex_iload_n ok_X5_receiveMatched (mi 67 rfl) rfl ?_
            refine ex_aload_n ok_X5_receiveMatched (mi 68 rfl) rfl ?_
            refine sf_getI ok_X5_receiveMatched (mi 69 rfl) rfl rfl (fk (INV_5 J31 ha).1 0 rfl) (fun v38 => ?_)
            refine ex_iconst ok_X5_receiveMatched (mi 70 rfl) ?_
            refine ex_iconst ok_X5_receiveMatched (mi 71 rfl) ?_
            refine sf_V (As := [_, _, _, _, _, _]) ok_X5_receiveMatched (mi 72 rfl) rfl (s_X0_sendEach hst J31) rfl (fk J31.1 1 rfl) rfl rfl (by decide) (by decide) (Nat.le_of_ble_eq_true rfl) (by decide) (fun z39 g40 p41 J42 => ?_)
            obtain rfl : z39 = none := p41
            refine ex_vret ok_X5_receiveMatched (mi 73 rfl) rfl ?_
            exact ⟨_, rfl, rfl, J42⟩
          · skip
            refine ex_aload_n ok_X5_receiveMatched (mi 59 rfl) rfl ?_
            refine sf_V (As := []) ok_X5_receiveMatched (mi 60 rfl) rfl (s_X5_lead hst J31 ha) rfl (fk (INV_5 J31 ha).1 0 rfl) rfl rfl (by decide) (by decide) (Nat.le_of_ble_eq_true rfl) (by decide) (fun z43 g44 p45 J46 => ?_)
            obtain rfl : z43 = none := p45
            refine ex_goto (tgt := 145) ok_X5_receiveMatched (mi 61 rfl) rfl ?_
            refine ex_vret ok_X5_receiveMatched (mi 73 rfl) rfl ?_
            exact ⟨_, rfl, rfl, J46⟩
        · skip
          refine ex_vret ok_X5_receiveMatched (mi 45 rfl) rfl ?_
          exact ⟨_, rfl, rfl, J16⟩
      · skip
        refine ex_vret ok_X5_receiveMatched (mi 15 rfl) rfl ?_
        exact ⟨_, rfl, rfl, I⟩
theorem s_X5_receiveAsked {G : GE} (hst : (ge_l G).stackTraces = false) {x : Nat} {U : UT} {g : GT} (I : INV x U g) {a : Nat} (ha : LDR x a) {m0 : Nat} (hm0 : MSR x m0) : ex_M G 4 0 0 my_X5_receiveAsked [.ref a, .ref m0] g (SV x U pN) := by
  refine ex_M_of ok_X5_receiveAsked cw_X5_receiveAsked rfl hst (Nat.le_of_ble_eq_true rfl) ?_
  refine ex_aload_n ok_X5_receiveAsked (mi 0 rfl) rfl ?_
  refine sf_getI ok_X5_receiveAsked (mi 1 rfl) rfl rfl (fk (INV_5 I ha).1 0 rfl) (fun v1 => ?_)
  refine ex_iconst ok_X5_receiveAsked (mi 2 rfl) ?_
  refine ex_icmp_ne (tgt := 19) ok_X5_receiveAsked (mi 3 rfl) rfl (fun h5 => ?_) (fun h5 => ?_)
  · skip
    refine ex_vret ok_X5_receiveAsked (mi 9 rfl) rfl ?_
    exact ⟨_, rfl, rfl, I⟩
  · skip
    refine ex_aload_n ok_X5_receiveAsked (mi 4 rfl) rfl ?_
    refine ex_getI ok_X5_receiveAsked (mi 5 rfl) rfl rfl (fk (INV_6 I hm0) 0 rfl) ?_
    refine ex_aload_n ok_X5_receiveAsked (mi 6 rfl) rfl ?_
    refine sf_getI ok_X5_receiveAsked (mi 7 rfl) rfl rfl (fk (INV_5 I ha).1 0 rfl) (fun v2 => ?_)
    refine ex_icmp_eq (tgt := 20) ok_X5_receiveAsked (mi 8 rfl) rfl (fun h16 => ?_) (fun h16 => ?_)
    · skip
      refine ex_aload_n ok_X5_receiveAsked (mi 10 rfl) rfl ?_
      refine ex_dup ok_X5_receiveAsked (mi 11 rfl) rfl ?_
      refine sf_getI ok_X5_receiveAsked (mi 12 rfl) rfl rfl (fk (INV_5 I ha).1 0 rfl) (fun v3 => ?_)
      refine ex_iconst ok_X5_receiveAsked (mi 13 rfl) ?_
      refine ex_aload_n ok_X5_receiveAsked (mi 14 rfl) rfl ?_
      refine ex_getI ok_X5_receiveAsked (mi 15 rfl) rfl rfl (fk (INV_6 I hm0) 0 rfl) ?_
      refine ex_ishl ok_X5_receiveAsked (mi 16 rfl) ?_
      refine ex_gen (fun w4 => ?_)
      refine ex_ior ok_X5_receiveAsked (mi 17 rfl) ?_
      refine ex_gen (fun w5 => ?_)
      refine sf_putI I ok_X5_receiveAsked (mi 18 rfl) rfl rfl (by decide) (by decide) (by decide +kernel) (fk (INV_5 I ha).1 0 rfl) (LDR_ne ha 0 (by decide)).1 (fun g6 J7 => ?_)
      refine ex_aload_n ok_X5_receiveAsked (mi 19 rfl) rfl ?_
      refine ex_aload_n ok_X5_receiveAsked (mi 20 rfl) rfl ?_
      refine sf_getI ok_X5_receiveAsked (mi 21 rfl) rfl rfl (fk (INV_5 J7 ha).1 0 rfl) (fun v8 => ?_)
      refine ex_aload_n ok_X5_receiveAsked (mi 22 rfl) rfl ?_
      refine ex_getI ok_X5_receiveAsked (mi 23 rfl) rfl rfl (fk (INV_6 J7 hm0) 0 rfl) ?_
      refine sf_max ok_X5_receiveAsked (mi 24 rfl) rfl (Nat.le_of_ble_eq_true rfl) (fun v9 => ?_)
      refine sf_putI J7 ok_X5_receiveAsked (mi 25 rfl) rfl rfl (by decide) (by decide) (by decide +kernel) (fk (INV_5 J7 ha).1 0 rfl) (LDR_ne ha 0 (by decide)).1 (fun g10 J11 => ?_)
      refine ex_iconst ok_X5_receiveAsked (mi 26 rfl) ?_
      refine ex_istore_n ok_X5_receiveAsked (mi 27 rfl) ?_
      have lp52 : ∀ n52 k52 : Nat, k52 + n52 = 16 → ∀ (g12 : GT), INV x U g12 → ex_W G 4 0 0 M_X5_receiveAsked 52 [(0, .ref a), (1, .ref m0), (2, .int (nI k52))] [] g12 (SV x U pN) := by
        intro n52
        induction n52 with
        | zero =>
          intro k52 hk52  g12 J13
          obtain rfl : k52 = 16 := by omega
          refine ex_iload_n ok_X5_receiveAsked (mi 28 rfl) rfl ?_
          refine ex_bipush ok_X5_receiveAsked (mi 29 rfl) ?_
          refine ex_icmp_ge (tgt := 85) ok_X5_receiveAsked (mi 30 rfl) rfl (fun _ => ?_) (fun hn => absurd (by decide) hn)
          refine ex_aload_n ok_X5_receiveAsked (mi 46 rfl) rfl ?_
          refine sf_Vp (As := []) ok_X5_receiveAsked (mi 47 rfl) rfl (s_X5_hasMajorities hst J13 ha) rfl (fk (INV_5 J13 ha).1 0 rfl) rfl rfl (by decide) (by decide) (Nat.le_of_ble_eq_true rfl) (by decide) (fun z14 p16 => ?_)
          obtain ⟨v18, rfl, hbv18⟩ := p16
          refine ex_if_eq (tgt := 96) ok_X5_receiveAsked (mi 48 rfl) rfl (fun h89 => ?_) (fun h89 => ?_)
          · skip
            refine ex_vret ok_X5_receiveAsked (mi 51 rfl) rfl ?_
            exact ⟨_, rfl, rfl, J13⟩
          · skip
            refine ex_aload_n ok_X5_receiveAsked (mi 49 rfl) rfl ?_
            refine sf_V (As := []) ok_X5_receiveAsked (mi 50 rfl) rfl (s_X5_lead hst J13 ha) rfl (fk (INV_5 J13 ha).1 0 rfl) rfl rfl (by decide) (by decide) (Nat.le_of_ble_eq_true rfl) (by decide) (fun z19 g20 p21 J22 => ?_)
            obtain rfl : z19 = none := p21
            refine ex_vret ok_X5_receiveAsked (mi 51 rfl) rfl ?_
            exact ⟨_, rfl, rfl, J22⟩
        | succ n52 ih52 =>
          intro k52 hk52  g12 J13
          have hr52 : k52 < 16 := by omega
          refine ex_iload_n ok_X5_receiveAsked (mi 28 rfl) rfl ?_
          refine ex_bipush ok_X5_receiveAsked (mi 29 rfl) ?_
          refine ex_icmp_ge (tgt := 85) ok_X5_receiveAsked (mi 30 rfl) rfl (fun hn => absurd hn (nI_ge hr52 (by decide))) (fun _ => ?_)
          refine ex_aload_n ok_X5_receiveAsked (mi 31 rfl) rfl ?_
          refine ex_getRx ok_X5_receiveAsked (mi 32 rfl) rfl rfl (fk (INV_5 J13 ha).1 0 rfl) (fr (INV_5 J13 ha).1 4 rfl) (fk (INV_5 J13 ha).1 2 rfl) (by decide) ?_
          refine ex_iload_n ok_X5_receiveAsked (mi 33 rfl) rfl ?_
          refine ex_aload_n ok_X5_receiveAsked (mi 34 rfl) rfl ?_
          refine ex_getRx ok_X5_receiveAsked (mi 35 rfl) rfl rfl (fk (INV_5 J13 ha).1 0 rfl) (fr (INV_5 J13 ha).1 4 rfl) (fk (INV_5 J13 ha).1 2 rfl) (by decide) ?_
          refine ex_iload_n ok_X5_receiveAsked (mi 36 rfl) rfl ?_
          refine sf_iald ok_X5_receiveAsked (mi 37 rfl) (fk (INV_5 J13 ha).1 2 rfl) (fn (INV_5 J13 ha).1 2 rfl) (vp_in_nI (by omega) (by decide)) (fun v23 => ?_)
          refine ex_aload_n ok_X5_receiveAsked (mi 38 rfl) rfl ?_
          refine ex_getRx ok_X5_receiveAsked (mi 39 rfl) rfl rfl (fk (INV_6 J13 hm0) 0 rfl) (fr (INV_6 J13 hm0) 0 rfl) (fk (INV_6 J13 hm0) 1 rfl) (by decide) ?_
          refine ex_iload_n ok_X5_receiveAsked (mi 40 rfl) rfl ?_
          refine sf_iald ok_X5_receiveAsked (mi 41 rfl) (fk (INV_6 J13 hm0) 1 rfl) (fn (INV_6 J13 hm0) 1 rfl) (vp_in_nI (by omega) (by decide)) (fun v24 => ?_)
          refine sf_Sp (As := [_, _]) ok_X5_receiveAsked (mi 42 rfl) rfl (s_X10_later hst J13) rfl rfl rfl (by decide) (Nat.le_of_ble_eq_true rfl) (by decide) (fun z25 p27 => ?_)
          obtain ⟨v29, rfl⟩ := p27
          refine sf_iast J13 ok_X5_receiveAsked (mi 43 rfl) (fk (INV_5 J13 ha).1 2 rfl) (fn (INV_5 J13 ha).1 2 rfl) (vp_in_nI (by omega) (by decide)) (LDR_ne ha 2 (by decide)) (fun g30 J31 => ?_)
          refine ex_iincx (w := (nI (k52 + 1))) ok_X5_receiveAsked (mi 44 rfl) rfl (nI_1 _) ?_
          refine ex_goto (tgt := 52) ok_X5_receiveAsked (mi 45 rfl) rfl ?_
          exact ex_ls (ls' := [(0, .ref a), (1, .ref m0), (2, .int (nI (k52 + 1)))]) ⟨rfl, rfl, rfl, trivial⟩ (ih52 (k52 + 1) (by omega) g30 J31)
      exact ex_ls (ls' := [(0, .ref a), (1, .ref m0), (2, .int (nI 0))]) ⟨rfl, rfl, rfl, trivial⟩ (lp52 16 0 (by decide) g10 J11)
    · skip
      refine ex_vret ok_X5_receiveAsked (mi 9 rfl) rfl ?_
      exact ⟨_, rfl, rfl, I⟩
theorem s_X5_receiveKnown {G : GE} (hst : (ge_l G).stackTraces = false) {x : Nat} {U : UT} {g : GT} (I : INV x U g) {a : Nat} (ha : LDR x a) {m0 : Nat} (hm0 : MSR x m0) : ex_M G 3 0 0 my_X5_receiveKnown [.ref a, .ref m0] g (SV x U pN) := by
  refine ex_M_of ok_X5_receiveKnown cw_X5_receiveKnown rfl hst (Nat.le_of_ble_eq_true rfl) ?_
  refine ex_aload_n ok_X5_receiveKnown (mi 0 rfl) rfl ?_
  refine ex_aload_n ok_X5_receiveKnown (mi 1 rfl) rfl ?_
  refine ex_getI ok_X5_receiveKnown (mi 2 rfl) rfl rfl (fk (INV_6 I hm0) 0 rfl) ?_
  refine sf_Vp (As := [_]) ok_X5_receiveKnown (mi 3 rfl) rfl (s_X5_leadsIn hst I ha) rfl (fk (INV_5 I ha).1 0 rfl) rfl rfl (by decide) (by decide) (Nat.le_of_ble_eq_true rfl) (by decide) (fun z1 p3 => ?_)
  obtain ⟨v5, rfl, hbv5⟩ := p3
  refine ex_if_eq (tgt := 36) ok_X5_receiveKnown (mi 4 rfl) rfl (fun h8 => ?_) (fun h8 => ?_)
  · skip
    refine ex_vret ok_X5_receiveKnown (mi 16 rfl) rfl ?_
    exact ⟨_, rfl, rfl, I⟩
  · skip
    refine ex_aload_n ok_X5_receiveKnown (mi 5 rfl) rfl ?_
    refine ex_getRx ok_X5_receiveKnown (mi 6 rfl) rfl rfl (fk (INV_5 I ha).1 0 rfl) (fr (INV_5 I ha).1 2 rfl) (fk (INV_5 I ha).1 10 rfl) (by decide) ?_
    refine sf_getI ok_X5_receiveKnown (mi 7 rfl) rfl rfl (fk (INV_5 I ha).1 10 rfl) (fun v6 => ?_)
    refine ex_iconst ok_X5_receiveKnown (mi 8 rfl) ?_
    refine ex_icmp_ne (tgt := 36) ok_X5_receiveKnown (mi 9 rfl) rfl (fun h19 => ?_) (fun h19 => ?_)
    · skip
      refine ex_vret ok_X5_receiveKnown (mi 16 rfl) rfl ?_
      exact ⟨_, rfl, rfl, I⟩
    · skip
      refine ex_aload_n ok_X5_receiveKnown (mi 10 rfl) rfl ?_
      refine ex_getI ok_X5_receiveKnown (mi 11 rfl) rfl rfl (fk (INV_6 I hm0) 0 rfl) ?_
      refine ex_aload_n ok_X5_receiveKnown (mi 12 rfl) rfl ?_
      refine ex_getRx ok_X5_receiveKnown (mi 13 rfl) rfl rfl (fk (INV_5 I ha).1 0 rfl) (fr (INV_5 I ha).1 2 rfl) (fk (INV_5 I ha).1 10 rfl) (by decide) ?_
      refine sf_getI ok_X5_receiveKnown (mi 14 rfl) rfl rfl (fk (INV_5 I ha).1 10 rfl) (fun v7 => ?_)
      refine ex_icmp_eq (tgt := 37) ok_X5_receiveKnown (mi 15 rfl) rfl (fun h33 => ?_) (fun h33 => ?_)
      · skip
        refine ex_aload_n ok_X5_receiveKnown (mi 17 rfl) rfl ?_
        refine ex_getRx ok_X5_receiveKnown (mi 18 rfl) rfl rfl (fk (INV_5 I ha).1 0 rfl) (fr (INV_5 I ha).1 2 rfl) (fk (INV_5 I ha).1 10 rfl) (by decide) ?_
        refine ex_dup ok_X5_receiveKnown (mi 19 rfl) rfl ?_
        refine sf_getI ok_X5_receiveKnown (mi 20 rfl) rfl rfl (fk (INV_5 I ha).1 10 rfl) (fun v8 => ?_)
        refine ex_iconst ok_X5_receiveKnown (mi 21 rfl) ?_
        refine ex_aload_n ok_X5_receiveKnown (mi 22 rfl) rfl ?_
        refine ex_getI ok_X5_receiveKnown (mi 23 rfl) rfl rfl (fk (INV_6 I hm0) 0 rfl) ?_
        refine ex_ishl ok_X5_receiveKnown (mi 24 rfl) ?_
        refine ex_gen (fun w9 => ?_)
        refine ex_ior ok_X5_receiveKnown (mi 25 rfl) ?_
        refine ex_gen (fun w10 => ?_)
        refine sf_putI I ok_X5_receiveKnown (mi 26 rfl) rfl rfl (by decide) (by decide) (by decide +kernel) (fk (INV_5 I ha).1 10 rfl) (LDR_ne ha 10 (by decide)).1 (fun g11 J12 => ?_)
        refine ex_aload_n ok_X5_receiveKnown (mi 27 rfl) rfl ?_
        refine ex_getRx ok_X5_receiveKnown (mi 28 rfl) rfl rfl (fk (INV_5 J12 ha).1 0 rfl) (fr (INV_5 J12 ha).1 2 rfl) (fk (INV_5 J12 ha).1 10 rfl) (by decide) ?_
        refine sf_getI ok_X5_receiveKnown (mi 29 rfl) rfl rfl (fk (INV_5 J12 ha).1 10 rfl) (fun v13 => ?_)
        refine ex_aload_n ok_X5_receiveKnown (mi 30 rfl) rfl ?_
        refine sf_getI ok_X5_receiveKnown (mi 31 rfl) rfl rfl (fk (INV_5 J12 ha).1 0 rfl) (fun v14 => ?_)
        refine sf_SNp (As := [_, _]) ok_X5_receiveKnown (mi 32 rfl) rfl (s_X11_isMajority hst J12) rfl (List.mem_of_getElem? (i := 4) rfl) rfl rfl (by decide) (Nat.le_of_ble_eq_true rfl) (by decide) (fun z15 p17 => ?_)
        obtain ⟨v19, rfl, hbv19⟩ := p17
        refine ex_if_eq (tgt := 112) ok_X5_receiveKnown (mi 33 rfl) rfl (fun h69 => ?_) (fun h69 => ?_)
        · skip
          refine ex_vret ok_X5_receiveKnown (mi 53 rfl) rfl ?_
          exact ⟨_, rfl, rfl, J12⟩
        · skip
          refine ex_aload_n ok_X5_receiveKnown (mi 34 rfl) rfl ?_
          refine ex_getRx ok_X5_receiveKnown (mi 35 rfl) rfl rfl (fk (INV_5 J12 ha).1 0 rfl) (fr (INV_5 J12 ha).1 2 rfl) (fk (INV_5 J12 ha).1 10 rfl) (by decide) ?_
          refine ex_iconst ok_X5_receiveKnown (mi 36 rfl) ?_
          refine sf_putI J12 ok_X5_receiveKnown (mi 37 rfl) rfl rfl (by decide) (by decide) (by decide +kernel) (fk (INV_5 J12 ha).1 10 rfl) (LDR_ne ha 10 (by decide)).1 (fun g20 J21 => ?_)
          refine ex_aload_n ok_X5_receiveKnown (mi 38 rfl) rfl ?_
          refine ex_getRx ok_X5_receiveKnown (mi 39 rfl) rfl rfl (fk (INV_5 J21 ha).1 0 rfl) (INV_5 J21 ha).2.1 (fk J21.1 1 rfl) (by decide) ?_
          refine ex_bipush ok_X5_receiveKnown (mi 40 rfl) ?_
          refine ex_aload_n ok_X5_receiveKnown (mi 41 rfl) rfl ?_
          refine sf_getI ok_X5_receiveKnown (mi 42 rfl) rfl rfl (fk (INV_5 J21 ha).1 0 rfl) (fun v22 => ?_)
          refine ex_aload_n ok_X5_receiveKnown (mi 43 rfl) rfl ?_
          refine ex_getRx ok_X5_receiveKnown (mi 44 rfl) rfl rfl (fk (INV_5 J21 ha).1 0 rfl) (fr (INV_5 J21 ha).1 0 rfl) (fk (INV_5 J21 ha).1 3 rfl) (by decide) ?_
          refine sf_getI ok_X5_receiveKnown (mi 45 rfl) rfl rfl (fk (INV_5 J21 ha).1 3 rfl) (fun v23 => ?_)
          refine ex_aload_n ok_X5_receiveKnown (mi 46 rfl) rfl ?_
          refine ex_getRx ok_X5_receiveKnown (mi 47 rfl) rfl rfl (fk (INV_5 J21 ha).1 0 rfl) (fr (INV_5 J21 ha).1 0 rfl) (fk (INV_5 J21 ha).1 3 rfl) (by decide) ?_
          refine sf_getI ok_X5_receiveKnown (mi 48 rfl) rfl rfl (fk (INV_5 J21 ha).1 3 rfl) (fun v24 => ?_)
          refine ex_aload_n ok_X5_receiveKnown (mi 49 rfl) rfl ?_
          refine sf_getI ok_X5_receiveKnown (mi 50 rfl) rfl rfl (fk (INV_5 J21 ha).1 0 rfl) (fun v25 => ?_)
          refine ex_iconst ok_X5_receiveKnown (mi 51 rfl) ?_
          refine sf_V (As := [_, _, _, _, _, _]) ok_X5_receiveKnown (mi 52 rfl) rfl (s_X0_sendEach hst J21) rfl (fk J21.1 1 rfl) rfl rfl (by decide) (by decide) (Nat.le_of_ble_eq_true rfl) (by decide) (fun z26 g27 p28 J29 => ?_)
          obtain rfl : z26 = none := p28
          refine ex_vret ok_X5_receiveKnown (mi 53 rfl) rfl ?_
          exact ⟨_, rfl, rfl, J29⟩
      · skip
        refine ex_vret ok_X5_receiveKnown (mi 16 rfl) rfl ?_
        exact ⟨_, rfl, rfl, I⟩
theorem s_X5_receiveCollected {G : GE} (hst : (ge_l G).stackTraces = false) {x : Nat} {U : UT} {g : GT} (I : INV x U g) {a : Nat} (ha : LDR x a) {m0 : Nat} (hm0 : MSR x m0) : ex_M G 4 0 0 my_X5_receiveCollected [.ref a, .ref m0] g (SV x U pN) := by
  refine ex_M_of ok_X5_receiveCollected cw_X5_receiveCollected rfl hst (Nat.le_of_ble_eq_true rfl) ?_
  refine ex_aload_n ok_X5_receiveCollected (mi 0 rfl) rfl ?_
  refine ex_aload_n ok_X5_receiveCollected (mi 1 rfl) rfl ?_
  refine ex_getI ok_X5_receiveCollected (mi 2 rfl) rfl rfl (fk (INV_6 I hm0) 0 rfl) ?_
  refine sf_Vp (As := [_]) ok_X5_receiveCollected (mi 3 rfl) rfl (s_X5_leadsIn hst I ha) rfl (fk (INV_5 I ha).1 0 rfl) rfl rfl (by decide) (by decide) (Nat.le_of_ble_eq_true rfl) (by decide) (fun z1 p3 => ?_)
  obtain ⟨v5, rfl, hbv5⟩ := p3
  refine ex_if_eq (tgt := 36) ok_X5_receiveCollected (mi 4 rfl) rfl (fun h8 => ?_) (fun h8 => ?_)
  · skip
    refine ex_vret ok_X5_receiveCollected (mi 16 rfl) rfl ?_
    exact ⟨_, rfl, rfl, I⟩
  · skip
    refine ex_aload_n ok_X5_receiveCollected (mi 5 rfl) rfl ?_
    refine ex_getRx ok_X5_receiveCollected (mi 6 rfl) rfl rfl (fk (INV_5 I ha).1 0 rfl) (fr (INV_5 I ha).1 2 rfl) (fk (INV_5 I ha).1 10 rfl) (by decide) ?_
    refine sf_getI ok_X5_receiveCollected (mi 7 rfl) rfl rfl (fk (INV_5 I ha).1 10 rfl) (fun v6 => ?_)
    refine ex_iconst ok_X5_receiveCollected (mi 8 rfl) ?_
    refine ex_icmp_ne (tgt := 36) ok_X5_receiveCollected (mi 9 rfl) rfl (fun h19 => ?_) (fun h19 => ?_)
    · skip
      refine ex_vret ok_X5_receiveCollected (mi 16 rfl) rfl ?_
      exact ⟨_, rfl, rfl, I⟩
    · skip
      refine ex_aload_n ok_X5_receiveCollected (mi 10 rfl) rfl ?_
      refine ex_getI ok_X5_receiveCollected (mi 11 rfl) rfl rfl (fk (INV_6 I hm0) 0 rfl) ?_
      refine ex_aload_n ok_X5_receiveCollected (mi 12 rfl) rfl ?_
      refine ex_getRx ok_X5_receiveCollected (mi 13 rfl) rfl rfl (fk (INV_5 I ha).1 0 rfl) (fr (INV_5 I ha).1 0 rfl) (fk (INV_5 I ha).1 3 rfl) (by decide) ?_
      refine sf_getI ok_X5_receiveCollected (mi 14 rfl) rfl rfl (fk (INV_5 I ha).1 3 rfl) (fun v7 => ?_)
      refine ex_icmp_eq (tgt := 37) ok_X5_receiveCollected (mi 15 rfl) rfl (fun h33 => ?_) (fun h33 => ?_)
      · skip
        refine ex_aload_n ok_X5_receiveCollected (mi 17 rfl) rfl ?_
        refine ex_getRx ok_X5_receiveCollected (mi 18 rfl) rfl rfl (fk (INV_5 I ha).1 0 rfl) (fr (INV_5 I ha).1 2 rfl) (fk (INV_5 I ha).1 10 rfl) (by decide) ?_
        refine ex_dup ok_X5_receiveCollected (mi 19 rfl) rfl ?_
        refine sf_getI ok_X5_receiveCollected (mi 20 rfl) rfl rfl (fk (INV_5 I ha).1 10 rfl) (fun v8 => ?_)
        refine ex_iconst ok_X5_receiveCollected (mi 21 rfl) ?_
        refine ex_aload_n ok_X5_receiveCollected (mi 22 rfl) rfl ?_
        refine ex_getI ok_X5_receiveCollected (mi 23 rfl) rfl rfl (fk (INV_6 I hm0) 0 rfl) ?_
        refine ex_ishl ok_X5_receiveCollected (mi 24 rfl) ?_
        refine ex_gen (fun w9 => ?_)
        refine ex_ior ok_X5_receiveCollected (mi 25 rfl) ?_
        refine ex_gen (fun w10 => ?_)
        refine sf_putI I ok_X5_receiveCollected (mi 26 rfl) rfl rfl (by decide) (by decide) (by decide +kernel) (fk (INV_5 I ha).1 10 rfl) (LDR_ne ha 10 (by decide)).1 (fun g11 J12 => ?_)
        refine ex_aload_n ok_X5_receiveCollected (mi 27 rfl) rfl ?_
        refine ex_getRx ok_X5_receiveCollected (mi 28 rfl) rfl rfl (fk (INV_5 J12 ha).1 0 rfl) (fr (INV_5 J12 ha).1 2 rfl) (fk (INV_5 J12 ha).1 10 rfl) (by decide) ?_
        refine sf_getI ok_X5_receiveCollected (mi 29 rfl) rfl rfl (fk (INV_5 J12 ha).1 10 rfl) (fun v13 => ?_)
        refine sf_SNp (As := [_]) ok_X5_receiveCollected (mi 30 rfl) rfl (s_X11_areTwo hst J12) rfl (List.mem_of_getElem? (i := 3) rfl) rfl rfl (by decide) (Nat.le_of_ble_eq_true rfl) (by decide) (fun z14 p16 => ?_)
        obtain ⟨v18, rfl, hbv18⟩ := p16
        refine ex_if_eq (tgt := 120) ok_X5_receiveCollected (mi 31 rfl) rfl (fun h65 => ?_) (fun h65 => ?_)
        · skip
          refine ex_vret ok_X5_receiveCollected (mi 57 rfl) rfl ?_
          exact ⟨_, rfl, rfl, J12⟩
        · skip
          refine ex_aload_n ok_X5_receiveCollected (mi 32 rfl) rfl ?_
          refine ex_getRx ok_X5_receiveCollected (mi 33 rfl) rfl rfl (fk (INV_5 J12 ha).1 0 rfl) (fr (INV_5 J12 ha).1 2 rfl) (fk (INV_5 J12 ha).1 10 rfl) (by decide) ?_
          refine ex_iconst ok_X5_receiveCollected (mi 34 rfl) ?_
          refine sf_putI J12 ok_X5_receiveCollected (mi 35 rfl) rfl rfl (by decide) (by decide) (by decide +kernel) (fk (INV_5 J12 ha).1 10 rfl) (LDR_ne ha 10 (by decide)).1 (fun g19 J20 => ?_)
          refine ex_aload_n ok_X5_receiveCollected (mi 36 rfl) rfl ?_
          refine ex_getRx ok_X5_receiveCollected (mi 37 rfl) rfl rfl (fk (INV_5 J20 ha).1 0 rfl) (fr (INV_5 J20 ha).1 2 rfl) (fk (INV_5 J20 ha).1 10 rfl) (by decide) ?_
          refine ex_aload_n ok_X5_receiveCollected (mi 38 rfl) rfl ?_
          refine sf_Vp (As := []) ok_X5_receiveCollected (mi 39 rfl) rfl (s_X5_historyVoters hst J20 ha) rfl (fk (INV_5 J20 ha).1 0 rfl) rfl rfl (by decide) (by decide) (Nat.le_of_ble_eq_true rfl) (by decide) (fun z21 p23 => ?_)
          obtain ⟨v25, rfl⟩ := p23
          refine sf_putI J20 ok_X5_receiveCollected (mi 40 rfl) rfl rfl (by decide) (by decide) (by decide +kernel) (fk (INV_5 J20 ha).1 10 rfl) (LDR_ne ha 10 (by decide)).1 (fun g26 J27 => ?_)
          refine ex_aload_n ok_X5_receiveCollected (mi 41 rfl) rfl ?_
          refine ex_getRx ok_X5_receiveCollected (mi 42 rfl) rfl rfl (fk (INV_5 J27 ha).1 0 rfl) (fr (INV_5 J27 ha).1 3 rfl) (fk (INV_5 J27 ha).1 1 rfl) (by decide) ?_
          refine sf_S (As := [_]) ok_X5_receiveCollected (mi 43 rfl) rfl (s_X7_empty hst J27 (LDR_rd1 ha)) rfl rfl rfl (by decide) (Nat.le_of_ble_eq_true rfl) (by decide) (fun z28 g29 p30 J31 => ?_)
          obtain rfl : z28 = none := p30
          refine ex_aload_n ok_X5_receiveCollected (mi 44 rfl) rfl ?_
          refine ex_getRx ok_X5_receiveCollected (mi 45 rfl) rfl rfl (fk (INV_5 J31 ha).1 0 rfl) (INV_5 J31 ha).2.1 (fk J31.1 1 rfl) (by decide) ?_
          refine ex_bipush ok_X5_receiveCollected (mi 46 rfl) ?_
          refine ex_aload_n ok_X5_receiveCollected (mi 47 rfl) rfl ?_
          refine sf_getI ok_X5_receiveCollected (mi 48 rfl) rfl rfl (fk (INV_5 J31 ha).1 0 rfl) (fun v32 => ?_)
          refine ex_aload_n ok_X5_receiveCollected (mi 49 rfl) rfl ?_
          refine ex_getRx ok_X5_receiveCollected (mi 50 rfl) rfl rfl (fk (INV_5 J31 ha).1 0 rfl) (fr (INV_5 J31 ha).1 2 rfl) (fk (INV_5 J31 ha).1 10 rfl) (by decide) ?_
          refine sf_getI ok_X5_receiveCollected (mi 51 rfl) rfl rfl (fk (INV_5 J31 ha).1 10 rfl) (fun v33 => ?_)
          refine ex_aload_n ok_X5_receiveCollected (mi 52 rfl) rfl ?_
          refine sf_getI ok_X5_receiveCollected (mi 53 rfl) rfl rfl (fk (INV_5 J31 ha).1 0 rfl) (fun v34 => ?_)
          refine ex_iconst ok_X5_receiveCollected (mi 54 rfl) ?_
          refine ex_iconst ok_X5_receiveCollected (mi 55 rfl) ?_
          refine sf_V (As := [_, _, _, _, _, _]) ok_X5_receiveCollected (mi 56 rfl) rfl (s_X0_sendEach hst J31) rfl (fk J31.1 1 rfl) rfl rfl (by decide) (by decide) (Nat.le_of_ble_eq_true rfl) (by decide) (fun z35 g36 p37 J38 => ?_)
          obtain rfl : z35 = none := p37
          refine ex_vret ok_X5_receiveCollected (mi 57 rfl) rfl ?_
          exact ⟨_, rfl, rfl, J38⟩
      · skip
        refine ex_vret ok_X5_receiveCollected (mi 16 rfl) rfl ?_
        exact ⟨_, rfl, rfl, I⟩
theorem s_X5_receiveReleased {G : GE} (hst : (ge_l G).stackTraces = false) {x : Nat} {U : UT} {g : GT} (I : INV x U g) {a : Nat} (ha : LDR x a) {m0 : Nat} (hm0 : MSR x m0) : ex_M G 1 0 0 my_X5_receiveReleased [.ref a, .ref m0] g (SV x U pN) := by
  refine ex_M_of ok_X5_receiveReleased cw_X5_receiveReleased rfl hst (Nat.le_of_ble_eq_true rfl) ?_
  refine ex_aload_n ok_X5_receiveReleased (mi 0 rfl) rfl ?_
  refine ex_getRx ok_X5_receiveReleased (mi 1 rfl) rfl rfl (fk (INV_5 I ha).1 0 rfl) (fr (INV_5 I ha).1 2 rfl) (fk (INV_5 I ha).1 10 rfl) (by decide) ?_
  refine sf_getI ok_X5_receiveReleased (mi 2 rfl) rfl rfl (fk (INV_5 I ha).1 10 rfl) (fun v1 => ?_)
  refine ex_iconst ok_X5_receiveReleased (mi 3 rfl) ?_
  refine ex_icmp_ne (tgt := 40) ok_X5_receiveReleased (mi 4 rfl) rfl (fun h8 => ?_) (fun h8 => ?_)
  · skip
    refine ex_vret ok_X5_receiveReleased (mi 20 rfl) rfl ?_
    exact ⟨_, rfl, rfl, I⟩
  · skip
    refine ex_aload_n ok_X5_receiveReleased (mi 5 rfl) rfl ?_
    refine ex_getI ok_X5_receiveReleased (mi 6 rfl) rfl rfl (fk (INV_6 I hm0) 0 rfl) ?_
    refine ex_aload_n ok_X5_receiveReleased (mi 7 rfl) rfl ?_
    refine sf_getI ok_X5_receiveReleased (mi 8 rfl) rfl rfl (fk (INV_5 I ha).1 0 rfl) (fun v2 => ?_)
    refine ex_icmp_ne (tgt := 40) ok_X5_receiveReleased (mi 9 rfl) rfl (fun h19 => ?_) (fun h19 => ?_)
    · skip
      refine ex_vret ok_X5_receiveReleased (mi 20 rfl) rfl ?_
      exact ⟨_, rfl, rfl, I⟩
    · skip
      refine ex_aload_n ok_X5_receiveReleased (mi 10 rfl) rfl ?_
      refine ex_getRx ok_X5_receiveReleased (mi 11 rfl) rfl rfl (fk (INV_5 I ha).1 0 rfl) (fr (INV_5 I ha).1 2 rfl) (fk (INV_5 I ha).1 10 rfl) (by decide) ?_
      refine ex_dup ok_X5_receiveReleased (mi 12 rfl) rfl ?_
      refine sf_getI ok_X5_receiveReleased (mi 13 rfl) rfl rfl (fk (INV_5 I ha).1 10 rfl) (fun v3 => ?_)
      refine ex_iconst ok_X5_receiveReleased (mi 14 rfl) ?_
      refine ex_aload_n ok_X5_receiveReleased (mi 15 rfl) rfl ?_
      refine ex_getI ok_X5_receiveReleased (mi 16 rfl) rfl rfl (fk (INV_6 I hm0) 0 rfl) ?_
      refine ex_ishl ok_X5_receiveReleased (mi 17 rfl) ?_
      refine ex_gen (fun w4 => ?_)
      refine ex_ior ok_X5_receiveReleased (mi 18 rfl) ?_
      refine ex_gen (fun w5 => ?_)
      refine sf_putI I ok_X5_receiveReleased (mi 19 rfl) rfl rfl (by decide) (by decide) (by decide +kernel) (fk (INV_5 I ha).1 10 rfl) (LDR_ne ha 10 (by decide)).1 (fun g6 J7 => ?_)
      refine ex_vret ok_X5_receiveReleased (mi 20 rfl) rfl ?_
      exact ⟨_, rfl, rfl, J7⟩
theorem s_X5_goOn {G : GE} (hst : (ge_l G).stackTraces = false) {x : Nat} {U : UT} {g : GT} (I : INV x U g) {a : Nat} (ha : LDR x a) {p0 : Int32} {p1 : Int32} : ex_M G 5 0 0 my_X5_goOn [.ref a, .int p0, .int p1] g (SV x U pN) := by
  refine ex_M_of ok_X5_goOn cw_X5_goOn rfl hst (Nat.le_of_ble_eq_true rfl) ?_
  refine ex_aload_n ok_X5_goOn (mi 0 rfl) rfl ?_
  refine ex_getRx ok_X5_goOn (mi 1 rfl) rfl rfl (fk (INV_5 I ha).1 0 rfl) (fr (INV_5 I ha).1 0 rfl) (fk (INV_5 I ha).1 3 rfl) (by decide) ?_
  refine ex_iload_n ok_X5_goOn (mi 2 rfl) rfl ?_
  refine sf_putI I ok_X5_goOn (mi 3 rfl) rfl rfl (by decide) (by decide) (by decide +kernel) (fk (INV_5 I ha).1 3 rfl) (LDR_ne ha 3 (by decide)).1 (fun g1 J2 => ?_)
  refine ex_aload_n ok_X5_goOn (mi 4 rfl) rfl ?_
  refine ex_getRx ok_X5_goOn (mi 5 rfl) rfl rfl (fk (INV_5 J2 ha).1 0 rfl) (fr (INV_5 J2 ha).1 0 rfl) (fk (INV_5 J2 ha).1 3 rfl) (by decide) ?_
  refine ex_iload_n ok_X5_goOn (mi 6 rfl) rfl ?_
  refine sf_putI J2 ok_X5_goOn (mi 7 rfl) rfl rfl (by decide) (by decide) (by decide +kernel) (fk (INV_5 J2 ha).1 3 rfl) (LDR_ne ha 3 (by decide)).1 (fun g3 J4 => ?_)
  refine ex_aload_n ok_X5_goOn (mi 8 rfl) rfl ?_
  refine ex_getRx ok_X5_goOn (mi 9 rfl) rfl rfl (fk (INV_5 J4 ha).1 0 rfl) (fr (INV_5 J4 ha).1 0 rfl) (fk (INV_5 J4 ha).1 3 rfl) (by decide) ?_
  refine ex_iconst ok_X5_goOn (mi 10 rfl) ?_
  refine sf_putI J4 ok_X5_goOn (mi 11 rfl) rfl rfl (by decide) (by decide) (by decide +kernel) (fk (INV_5 J4 ha).1 3 rfl) (LDR_ne ha 3 (by decide)).1 (fun g5 J6 => ?_)
  refine ex_aload_n ok_X5_goOn (mi 12 rfl) rfl ?_
  refine sf_getI ok_X5_goOn (mi 13 rfl) rfl rfl (fk (INV_5 J6 ha).1 0 rfl) (fun v7 => ?_)
  refine ex_iconst ok_X5_goOn (mi 14 rfl) ?_
  refine ex_icmp_ne (tgt := 36) ok_X5_goOn (mi 15 rfl) rfl (fun h29 => ?_) (fun h29 => ?_)
  · skip
    refine ex_aload_n ok_X5_goOn (mi 18 rfl) rfl ?_
    refine ex_getRx ok_X5_goOn (mi 19 rfl) rfl rfl (fk (INV_5 J6 ha).1 0 rfl) (fr (INV_5 J6 ha).1 2 rfl) (fk (INV_5 J6 ha).1 10 rfl) (by decide) ?_
    refine ex_iconst ok_X5_goOn (mi 20 rfl) ?_
    refine sf_putI J6 ok_X5_goOn (mi 21 rfl) rfl rfl (by decide) (by decide) (by decide +kernel) (fk (INV_5 J6 ha).1 10 rfl) (LDR_ne ha 10 (by decide)).1 (fun g8 J9 => ?_)
    refine ex_vret ok_X5_goOn (mi 22 rfl) rfl ?_
    exact ⟨_, rfl, rfl, J9⟩
  · skip
    refine ex_aload_n ok_X5_goOn (mi 16 rfl) rfl ?_
    refine sf_V (As := []) ok_X5_goOn (mi 17 rfl) rfl (s_X5_forgetMatched hst J6 ha) rfl (fk (INV_5 J6 ha).1 0 rfl) rfl rfl (by decide) (by decide) (Nat.le_of_ble_eq_true rfl) (by decide) (fun z10 g11 p12 J13 => ?_)
    obtain rfl : z10 = none := p12
    refine ex_aload_n ok_X5_goOn (mi 18 rfl) rfl ?_
    refine ex_getRx ok_X5_goOn (mi 19 rfl) rfl rfl (fk (INV_5 J13 ha).1 0 rfl) (fr (INV_5 J13 ha).1 2 rfl) (fk (INV_5 J13 ha).1 10 rfl) (by decide) ?_
    refine ex_iconst ok_X5_goOn (mi 20 rfl) ?_
    refine sf_putI J13 ok_X5_goOn (mi 21 rfl) rfl rfl (by decide) (by decide) (by decide +kernel) (fk (INV_5 J13 ha).1 10 rfl) (LDR_ne ha 10 (by decide)).1 (fun g14 J15 => ?_)
    refine ex_vret ok_X5_goOn (mi 22 rfl) rfl ?_
    exact ⟨_, rfl, rfl, J15⟩
theorem s_X5_receive {G : GE} (hst : (ge_l G).stackTraces = false) {x : Nat} {U : UT} {g : GT} (I : INV x U g) {a : Nat} (ha : LDR x a) {m0 : Nat} (hm0 : MSR x m0) : ex_M G 6 0 0 my_X5_receive [.ref a, .ref m0] g (SV x U pN) := by
  refine ex_M_of ok_X5_receive cw_X5_receive rfl hst (Nat.le_of_ble_eq_true rfl) ?_
  refine ex_aload_n ok_X5_receive (mi 0 rfl) rfl ?_
  refine ex_getI ok_X5_receive (mi 1 rfl) rfl rfl (fk (INV_6 I hm0) 0 rfl) ?_
  refine sf_table [112, 120, 128, 161, 191, 199, 207, 215, 234, 245, 256, 290, 319] ok_X5_receive (mi 2 rfl) (by decide) (by decide) (fun t ht => ?_)
  simp only [List.mem_cons, List.not_mem_nil, or_false] at ht
  rcases ht with rfl | rfl | rfl | rfl | rfl | rfl | rfl | rfl | rfl | rfl | rfl | rfl | rfl
  · skip
    refine ex_aload_n ok_X5_receive (mi 3 rfl) rfl ?_
    refine ex_aload_n ok_X5_receive (mi 4 rfl) rfl ?_
    refine sf_V (As := [_]) ok_X5_receive (mi 5 rfl) rfl (s_X5_receiveMatched hst I ha hm0) rfl (fk (INV_5 I ha).1 0 rfl) rfl rfl (by decide) (by decide) (Nat.le_of_ble_eq_true rfl) (by decide) (fun z1 g2 p3 J4 => ?_)
    obtain rfl : z1 = none := p3
    refine ex_goto (tgt := 319) ok_X5_receive (mi 6 rfl) rfl ?_
    refine ex_vret ok_X5_receive (mi 100 rfl) rfl ?_
    exact ⟨_, rfl, rfl, J4⟩
  · skip
    refine ex_aload_n ok_X5_receive (mi 7 rfl) rfl ?_
    refine ex_aload_n ok_X5_receive (mi 8 rfl) rfl ?_
    refine sf_V (As := [_]) ok_X5_receive (mi 9 rfl) rfl (s_X5_receiveAsked hst I ha hm0) rfl (fk (INV_5 I ha).1 0 rfl) rfl rfl (by decide) (by decide) (Nat.le_of_ble_eq_true rfl) (by decide) (fun z5 g6 p7 J8 => ?_)
    obtain rfl : z5 = none := p7
    refine ex_goto (tgt := 319) ok_X5_receive (mi 10 rfl) rfl ?_
    refine ex_vret ok_X5_receive (mi 100 rfl) rfl ?_
    exact ⟨_, rfl, rfl, J8⟩
  · skip
    refine ex_aload_n ok_X5_receive (mi 11 rfl) rfl ?_
    refine ex_aload_n ok_X5_receive (mi 12 rfl) rfl ?_
    refine ex_getI ok_X5_receive (mi 13 rfl) rfl rfl (fk (INV_6 I hm0) 0 rfl) ?_
    refine sf_Vp (As := [_]) ok_X5_receive (mi 14 rfl) rfl (s_X5_leadsIn hst I ha) rfl (fk (INV_5 I ha).1 0 rfl) rfl rfl (by decide) (by decide) (Nat.le_of_ble_eq_true rfl) (by decide) (fun z9 p11 => ?_)
    obtain ⟨v13, rfl, hbv13⟩ := p11
    refine ex_if_eq (tgt := 319) ok_X5_receive (mi 15 rfl) rfl (fun h136 => ?_) (fun h136 => ?_)
    · skip
      refine ex_vret ok_X5_receive (mi 100 rfl) rfl ?_
      exact ⟨_, rfl, rfl, I⟩
    · skip
      refine ex_aload_n ok_X5_receive (mi 16 rfl) rfl ?_
      refine ex_getRx ok_X5_receive (mi 17 rfl) rfl rfl (fk (INV_5 I ha).1 0 rfl) (fr (INV_5 I ha).1 1 rfl) (fk (INV_5 I ha).1 5 rfl) (by decide) ?_
      refine ex_aload_n ok_X5_receive (mi 18 rfl) rfl ?_
      refine ex_getI ok_X5_receive (mi 19 rfl) rfl rfl (fk (INV_6 I hm0) 0 rfl) ?_
      refine ex_aload_n ok_X5_receive (mi 20 rfl) rfl ?_
      refine ex_getI ok_X5_receive (mi 21 rfl) rfl rfl (fk (INV_6 I hm0) 0 rfl) ?_
      refine ex_aload_n ok_X5_receive (mi 22 rfl) rfl ?_
      refine sf_getI ok_X5_receive (mi 23 rfl) rfl rfl (fk (INV_5 I ha).1 0 rfl) (fun v14 => ?_)
      refine sf_V (As := [_, _, _]) ok_X5_receive (mi 24 rfl) rfl (s_X8_noteVoter hst I (LDR_sl ha)) rfl (fk (INV_5 I ha).1 5 rfl) rfl rfl (by decide) (by decide) (Nat.le_of_ble_eq_true rfl) (by decide) (fun z15 g16 p17 J18 => ?_)
      obtain rfl : z15 = none := p17
      refine ex_goto (tgt := 319) ok_X5_receive (mi 25 rfl) rfl ?_
      refine ex_vret ok_X5_receive (mi 100 rfl) rfl ?_
      exact ⟨_, rfl, rfl, J18⟩
  · skip
    refine ex_aload_n ok_X5_receive (mi 26 rfl) rfl ?_
    refine sf_getI ok_X5_receive (mi 27 rfl) rfl rfl (fk (INV_5 I ha).1 0 rfl) (fun v19 => ?_)
    refine ex_iconst ok_X5_receive (mi 28 rfl) ?_
    refine ex_icmp_ne (tgt := 319) ok_X5_receive (mi 29 rfl) rfl (fun h166 => ?_) (fun h166 => ?_)
    · skip
      refine ex_vret ok_X5_receive (mi 100 rfl) rfl ?_
      exact ⟨_, rfl, rfl, I⟩
    · skip
      refine ex_aload_n ok_X5_receive (mi 30 rfl) rfl ?_
      refine ex_getRx ok_X5_receive (mi 31 rfl) rfl rfl (fk (INV_5 I ha).1 0 rfl) (fr (INV_5 I ha).1 1 rfl) (fk (INV_5 I ha).1 5 rfl) (by decide) ?_
      refine ex_aload_n ok_X5_receive (mi 32 rfl) rfl ?_
      refine ex_getI ok_X5_receive (mi 33 rfl) rfl rfl (fk (INV_6 I hm0) 0 rfl) ?_
      refine ex_aload_n ok_X5_receive (mi 34 rfl) rfl ?_
      refine ex_getI ok_X5_receive (mi 35 rfl) rfl rfl (fk (INV_6 I hm0) 0 rfl) ?_
      refine ex_aload_n ok_X5_receive (mi 36 rfl) rfl ?_
      refine ex_getI ok_X5_receive (mi 37 rfl) rfl rfl (fk (INV_6 I hm0) 0 rfl) ?_
      refine sf_V (As := [_, _, _]) ok_X5_receive (mi 38 rfl) rfl (s_X8_noteCopy hst I (LDR_sl ha)) rfl (fk (INV_5 I ha).1 5 rfl) rfl rfl (by decide) (by decide) (Nat.le_of_ble_eq_true rfl) (by decide) (fun z20 g21 p22 J23 => ?_)
      obtain rfl : z20 = none := p22
      refine ex_goto (tgt := 319) ok_X5_receive (mi 39 rfl) rfl ?_
      refine ex_vret ok_X5_receive (mi 100 rfl) rfl ?_
      exact ⟨_, rfl, rfl, J23⟩
  · skip
    refine ex_aload_n ok_X5_receive (mi 40 rfl) rfl ?_
    refine ex_aload_n ok_X5_receive (mi 41 rfl) rfl ?_
    refine sf_V (As := [_]) ok_X5_receive (mi 42 rfl) rfl (s_X5_receiveKnown hst I ha hm0) rfl (fk (INV_5 I ha).1 0 rfl) rfl rfl (by decide) (by decide) (Nat.le_of_ble_eq_true rfl) (by decide) (fun z24 g25 p26 J27 => ?_)
    obtain rfl : z24 = none := p26
    refine ex_goto (tgt := 319) ok_X5_receive (mi 43 rfl) rfl ?_
    refine ex_vret ok_X5_receive (mi 100 rfl) rfl ?_
    exact ⟨_, rfl, rfl, J27⟩
  · skip
    refine ex_aload_n ok_X5_receive (mi 44 rfl) rfl ?_
    refine ex_aload_n ok_X5_receive (mi 45 rfl) rfl ?_
    refine sf_V (As := [_]) ok_X5_receive (mi 46 rfl) rfl (s_X5_receiveCollected hst I ha hm0) rfl (fk (INV_5 I ha).1 0 rfl) rfl rfl (by decide) (by decide) (Nat.le_of_ble_eq_true rfl) (by decide) (fun z28 g29 p30 J31 => ?_)
    obtain rfl : z28 = none := p30
    refine ex_goto (tgt := 319) ok_X5_receive (mi 47 rfl) rfl ?_
    refine ex_vret ok_X5_receive (mi 100 rfl) rfl ?_
    exact ⟨_, rfl, rfl, J31⟩
  · skip
    refine ex_aload_n ok_X5_receive (mi 48 rfl) rfl ?_
    refine ex_aload_n ok_X5_receive (mi 49 rfl) rfl ?_
    refine sf_V (As := [_]) ok_X5_receive (mi 50 rfl) rfl (s_X5_receiveReleased hst I ha hm0) rfl (fk (INV_5 I ha).1 0 rfl) rfl rfl (by decide) (by decide) (Nat.le_of_ble_eq_true rfl) (by decide) (fun z32 g33 p34 J35 => ?_)
    obtain rfl : z32 = none := p34
    refine ex_goto (tgt := 319) ok_X5_receive (mi 51 rfl) rfl ?_
    refine ex_vret ok_X5_receive (mi 100 rfl) rfl ?_
    exact ⟨_, rfl, rfl, J35⟩
  · skip
    refine ex_aload_n ok_X5_receive (mi 52 rfl) rfl ?_
    refine ex_getI ok_X5_receive (mi 53 rfl) rfl rfl (fk (INV_6 I hm0) 0 rfl) ?_
    refine ex_aload_n ok_X5_receive (mi 54 rfl) rfl ?_
    refine sf_getI ok_X5_receive (mi 55 rfl) rfl rfl (fk (INV_5 I ha).1 0 rfl) (fun v36 => ?_)
    refine ex_icmp_ne (tgt := 319) ok_X5_receive (mi 56 rfl) rfl (fun h223 => ?_) (fun h223 => ?_)
    · skip
      refine ex_vret ok_X5_receive (mi 100 rfl) rfl ?_
      exact ⟨_, rfl, rfl, I⟩
    · skip
      refine ex_aload_n ok_X5_receive (mi 57 rfl) rfl ?_
      refine ex_iconst ok_X5_receive (mi 58 rfl) ?_
      refine sf_putI I ok_X5_receive (mi 59 rfl) rfl rfl (by decide) (by decide) (by decide +kernel) (fk (INV_5 I ha).1 0 rfl) (LDR_ne ha 0 (by decide)).1 (fun g37 J38 => ?_)
      refine ex_goto (tgt := 319) ok_X5_receive (mi 60 rfl) rfl ?_
      refine ex_vret ok_X5_receive (mi 100 rfl) rfl ?_
      exact ⟨_, rfl, rfl, J38⟩
  · skip
    refine ex_aload_n ok_X5_receive (mi 61 rfl) rfl ?_
    refine ex_getRx ok_X5_receive (mi 62 rfl) rfl rfl (fk (INV_5 I ha).1 0 rfl) (fr (INV_5 I ha).1 0 rfl) (fk (INV_5 I ha).1 3 rfl) (by decide) ?_
    refine ex_aload_n ok_X5_receive (mi 63 rfl) rfl ?_
    refine sf_V (As := [_]) ok_X5_receive (mi 64 rfl) rfl (s_X4_receiveStopped hst I (LDR_kg ha) hm0) rfl (fk (INV_5 I ha).1 3 rfl) rfl rfl (by decide) (by decide) (Nat.le_of_ble_eq_true rfl) (by decide) (fun z39 g40 p41 J42 => ?_)
    obtain rfl : z39 = none := p41
    refine ex_goto (tgt := 319) ok_X5_receive (mi 65 rfl) rfl ?_
    refine ex_vret ok_X5_receive (mi 100 rfl) rfl ?_
    exact ⟨_, rfl, rfl, J42⟩
  · skip
    refine ex_aload_n ok_X5_receive (mi 66 rfl) rfl ?_
    refine ex_getRx ok_X5_receive (mi 67 rfl) rfl rfl (fk (INV_5 I ha).1 0 rfl) (fr (INV_5 I ha).1 0 rfl) (fk (INV_5 I ha).1 3 rfl) (by decide) ?_
    refine ex_aload_n ok_X5_receive (mi 68 rfl) rfl ?_
    refine sf_V (As := [_]) ok_X5_receive (mi 69 rfl) rfl (s_X4_receiveSeeded hst I (LDR_kg ha) hm0) rfl (fk (INV_5 I ha).1 3 rfl) rfl rfl (by decide) (by decide) (Nat.le_of_ble_eq_true rfl) (by decide) (fun z43 g44 p45 J46 => ?_)
    obtain rfl : z43 = none := p45
    refine ex_goto (tgt := 319) ok_X5_receive (mi 70 rfl) rfl ?_
    refine ex_vret ok_X5_receive (mi 100 rfl) rfl ?_
    exact ⟨_, rfl, rfl, J46⟩
  · skip
    refine ex_aload_n ok_X5_receive (mi 71 rfl) rfl ?_
    refine ex_getRx ok_X5_receive (mi 72 rfl) rfl rfl (fk (INV_5 I ha).1 0 rfl) (fr (INV_5 I ha).1 0 rfl) (fk (INV_5 I ha).1 3 rfl) (by decide) ?_
    refine ex_aload_n ok_X5_receive (mi 73 rfl) rfl ?_
    refine sf_V (As := [_]) ok_X5_receive (mi 74 rfl) rfl (s_X4_receivePicked hst I (LDR_kg ha) hm0) rfl (fk (INV_5 I ha).1 3 rfl) rfl rfl (by decide) (by decide) (Nat.le_of_ble_eq_true rfl) (by decide) (fun z47 g48 p49 J50 => ?_)
    obtain ⟨v51, rfl, hbv51⟩ := p49
    refine ex_if_eq (tgt := 319) ok_X5_receive (mi 75 rfl) rfl (fun h264 => ?_) (fun h264 => ?_)
    · skip
      refine ex_vret ok_X5_receive (mi 100 rfl) rfl ?_
      exact ⟨_, rfl, rfl, J50⟩
    · skip
      refine ex_aload_n ok_X5_receive (mi 76 rfl) rfl ?_
      refine ex_aload_n ok_X5_receive (mi 77 rfl) rfl ?_
      refine ex_getRx ok_X5_receive (mi 78 rfl) rfl rfl (fk (INV_5 J50 ha).1 0 rfl) (fr (INV_5 J50 ha).1 0 rfl) (fk (INV_5 J50 ha).1 3 rfl) (by decide) ?_
      refine sf_getI ok_X5_receive (mi 79 rfl) rfl rfl (fk (INV_5 J50 ha).1 3 rfl) (fun v52 => ?_)
      refine ex_iconst ok_X5_receive (mi 80 rfl) ?_
      refine ex_iadd ok_X5_receive (mi 81 rfl) ?_
      refine ex_gen (fun w53 => ?_)
      refine ex_aload_n ok_X5_receive (mi 82 rfl) rfl ?_
      refine ex_getRx ok_X5_receive (mi 83 rfl) rfl rfl (fk (INV_5 J50 ha).1 0 rfl) (fr (INV_5 J50 ha).1 0 rfl) (fk (INV_5 J50 ha).1 3 rfl) (by decide) ?_
      refine sf_getI ok_X5_receive (mi 84 rfl) rfl rfl (fk (INV_5 J50 ha).1 3 rfl) (fun v54 => ?_)
      refine sf_V (As := [_, _]) ok_X5_receive (mi 85 rfl) rfl (s_X5_goOn hst J50 ha) rfl (fk (INV_5 J50 ha).1 0 rfl) rfl rfl (by decide) (by decide) (Nat.le_of_ble_eq_true rfl) (by decide) (fun z55 g56 p57 J58 => ?_)
      obtain rfl : z55 = none := p57
      refine ex_goto (tgt := 319) ok_X5_receive (mi 86 rfl) rfl ?_
      refine ex_vret ok_X5_receive (mi 100 rfl) rfl ?_
      exact ⟨_, rfl, rfl, J58⟩
  · skip
    refine ex_aload_n ok_X5_receive (mi 87 rfl) rfl ?_
    refine ex_getRx ok_X5_receive (mi 88 rfl) rfl rfl (fk (INV_5 I ha).1 0 rfl) (fr (INV_5 I ha).1 0 rfl) (fk (INV_5 I ha).1 3 rfl) (by decide) ?_
    refine sf_getI ok_X5_receive (mi 89 rfl) rfl rfl (fk (INV_5 I ha).1 3 rfl) (fun v59 => ?_)
    refine ex_aload_n ok_X5_receive (mi 90 rfl) rfl ?_
    refine ex_getI ok_X5_receive (mi 91 rfl) rfl rfl (fk (INV_6 I hm0) 0 rfl) ?_
    refine ex_icmp_ge (tgt := 319) ok_X5_receive (mi 92 rfl) rfl (fun h301 => ?_) (fun h301 => ?_)
    · skip
      refine ex_vret ok_X5_receive (mi 100 rfl) rfl ?_
      exact ⟨_, rfl, rfl, I⟩
    · skip
      refine ex_aload_n ok_X5_receive (mi 93 rfl) rfl ?_
      refine ex_aload_n ok_X5_receive (mi 94 rfl) rfl ?_
      refine ex_getI ok_X5_receive (mi 95 rfl) rfl rfl (fk (INV_6 I hm0) 0 rfl) ?_
      refine ex_aload_n ok_X5_receive (mi 96 rfl) rfl ?_
      refine ex_getI ok_X5_receive (mi 97 rfl) rfl rfl (fk (INV_6 I hm0) 0 rfl) ?_
      refine sf_V (As := [_, _]) ok_X5_receive (mi 98 rfl) rfl (s_X5_goOn hst I ha) rfl (fk (INV_5 I ha).1 0 rfl) rfl rfl (by decide) (by decide) (Nat.le_of_ble_eq_true rfl) (by decide) (fun z60 g61 p62 J63 => ?_)
      obtain rfl : z60 = none := p62
      refine ex_goto (tgt := 319) ok_X5_receive (mi 99 rfl) rfl ?_
      refine ex_vret ok_X5_receive (mi 100 rfl) rfl ?_
      exact ⟨_, rfl, rfl, J63⟩
  · skip
    refine ex_vret ok_X5_receive (mi 100 rfl) rfl ?_
    exact ⟨_, rfl, rfl, I⟩
