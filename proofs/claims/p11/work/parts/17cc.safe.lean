theorem s_X3_receiveStop {G : GE} (hst : (ge_l G).stackTraces = false) {x : Nat} {U : UT} {g : GT} (I : INV x U g) {a : Nat} (ha : KPR x a) {m0 : Nat} (hm0 : MSR x m0) : ex_M G 3 0 0 my_X3_receiveStop [.ref a, .ref m0] g (SV x U pN) := by
  refine ex_M_of ok_X3_receiveStop cw_X3_receiveStop rfl hst (Nat.le_of_ble_eq_true rfl) ?_
  refine ex_aload_n ok_X3_receiveStop (mi 0 rfl) rfl ?_
  refine sf_Vp (As := []) ok_X3_receiveStop (mi 1 rfl) rfl (s_X3_knowsNext hst I ha) rfl (fk (INV_3 I ha).1 0 rfl) rfl rfl (by decide) (by decide) (Nat.le_of_ble_eq_true rfl) (by decide) (fun z1 p3 => ?_)
  obtain ⟨v5, rfl, hbv5⟩ := p3
  refine ex_if_eq (tgt := 16) ok_X3_receiveStop (mi 2 rfl) rfl (fun h4 => ?_) (fun h4 => ?_)
  · skip
    refine ex_aload_n ok_X3_receiveStop (mi 8 rfl) rfl ?_
    refine sf_getI ok_X3_receiveStop (mi 9 rfl) rfl rfl (fk (INV_3 I ha).1 0 rfl) (fun v6 => ?_)
    refine ex_iconst ok_X3_receiveStop (mi 10 rfl) ?_
    refine ex_icmp_eq (tgt := 32) ok_X3_receiveStop (mi 11 rfl) rfl (fun h21 => ?_) (fun h21 => ?_)
    · skip
      refine ex_iconst ok_X3_receiveStop (mi 16 rfl) ?_
      refine ex_goto (tgt := 37) ok_X3_receiveStop (mi 17 rfl) rfl ?_
      refine ex_istore_n ok_X3_receiveStop (mi 19 rfl) ?_
      refine ex_iload_n ok_X3_receiveStop (mi 20 rfl) rfl ?_
      refine ex_if_eq (tgt := 64) ok_X3_receiveStop (mi 21 rfl) rfl (fun hn => absurd hn (by decide)) (fun _ => ?_)
      refine ex_aload_n ok_X3_receiveStop (mi 22 rfl) rfl ?_
      refine sf_getI ok_X3_receiveStop (mi 23 rfl) rfl rfl (fk (INV_3 I ha).1 0 rfl) (fun v7 => ?_)
      refine ex_aload_n ok_X3_receiveStop (mi 24 rfl) rfl ?_
      refine ex_getI ok_X3_receiveStop (mi 25 rfl) rfl rfl (fk (INV_6 I hm0) 0 rfl) ?_
      refine ex_icmp_ne (tgt := 64) ok_X3_receiveStop (mi 26 rfl) rfl (fun h50 => ?_) (fun h50 => ?_)
      · skip
        refine ex_vret ok_X3_receiveStop (mi 32 rfl) rfl ?_
        exact ⟨_, rfl, rfl, I⟩
      · skip
        refine ex_aload_n ok_X3_receiveStop (mi 27 rfl) rfl ?_
        refine ex_getI ok_X3_receiveStop (mi 28 rfl) rfl rfl (fk (INV_6 I hm0) 0 rfl) ?_
        refine ex_aload_n ok_X3_receiveStop (mi 29 rfl) rfl ?_
        refine sf_getI ok_X3_receiveStop (mi 30 rfl) rfl rfl (fk (INV_3 I ha).1 0 rfl) (fun v8 => ?_)
        refine ex_icmp_ge (tgt := 65) ok_X3_receiveStop (mi 31 rfl) rfl (fun h61 => ?_) (fun h61 => ?_)
        · skip
          refine ex_aload_n ok_X3_receiveStop (mi 33 rfl) rfl ?_
          refine ex_aload_n ok_X3_receiveStop (mi 34 rfl) rfl ?_
          refine ex_getI ok_X3_receiveStop (mi 35 rfl) rfl rfl (fk (INV_6 I hm0) 0 rfl) ?_
          refine sf_putI I ok_X3_receiveStop (mi 36 rfl) rfl rfl (by decide) (by decide) (by decide +kernel) (fk (INV_3 I ha).1 0 rfl) (KPR_ne ha 0 (by decide)).1 (fun g9 J10 => ?_)
          refine ex_aload_n ok_X3_receiveStop (mi 37 rfl) rfl ?_
          refine ex_iconst ok_X3_receiveStop (mi 38 rfl) ?_
          refine sf_putI J10 ok_X3_receiveStop (mi 39 rfl) rfl rfl (by decide) (by decide) (by decide +kernel) (fk (INV_3 J10 ha).1 0 rfl) (KPR_ne ha 0 (by decide)).1 (fun g11 J12 => ?_)
          refine ex_aload_n ok_X3_receiveStop (mi 40 rfl) rfl ?_
          refine ex_getRx ok_X3_receiveStop (mi 41 rfl) rfl rfl (fk (INV_3 J12 ha).1 0 rfl) (INV_3 J12 ha).2.1 (fk J12.1 1 rfl) (by decide) ?_
          refine ex_bipush ok_X3_receiveStop (mi 42 rfl) ?_
          refine ex_aload_n ok_X3_receiveStop (mi 43 rfl) rfl ?_
          refine sf_getI ok_X3_receiveStop (mi 44 rfl) rfl rfl (fk (INV_3 J12 ha).1 0 rfl) (fun v13 => ?_)
          refine ex_aload_n ok_X3_receiveStop (mi 45 rfl) rfl ?_
          refine ex_getI ok_X3_receiveStop (mi 46 rfl) rfl rfl (fk (INV_6 J12 hm0) 0 rfl) ?_
          refine ex_aload_n ok_X3_receiveStop (mi 47 rfl) rfl ?_
          refine sf_getI ok_X3_receiveStop (mi 48 rfl) rfl rfl (fk (INV_3 J12 ha).1 0 rfl) (fun v14 => ?_)
          refine ex_aload_n ok_X3_receiveStop (mi 49 rfl) rfl ?_
          refine sf_getI ok_X3_receiveStop (mi 50 rfl) rfl rfl (fk (INV_3 J12 ha).1 0 rfl) (fun v15 => ?_)
          refine ex_aload_n ok_X3_receiveStop (mi 51 rfl) rfl ?_
          refine sf_getI ok_X3_receiveStop (mi 52 rfl) rfl rfl (fk (INV_3 J12 ha).1 0 rfl) (fun v16 => ?_)
          refine sf_V (As := [_, _, _, _, _, _]) ok_X3_receiveStop (mi 53 rfl) rfl (s_X0_send hst J12) rfl (fk J12.1 1 rfl) rfl rfl (by decide) (by decide) (Nat.le_of_ble_eq_true rfl) (by decide) (fun z17 g18 p19 J20 => ?_)
          obtain ⟨m21, rfl, hm21⟩ := p19
          refine ex_astore_n ok_X3_receiveStop (mi 54 rfl) ?_
          refine ex_aload_n ok_X3_receiveStop (mi 55 rfl) rfl ?_
          refine ex_getRx ok_X3_receiveStop (mi 56 rfl) rfl rfl (fk (INV_6 J20 hm21) 0 rfl) (fr (INV_6 J20 hm21) 0 rfl) (fk (INV_6 J20 hm21) 1 rfl) (by decide) ?_
          refine ex_aload_n ok_X3_receiveStop (mi 57 rfl) rfl ?_
          refine ex_getRx ok_X3_receiveStop (mi 58 rfl) rfl rfl (fk (INV_3 J20 ha).1 0 rfl) (fr (INV_3 J20 ha).1 0 rfl) (fk (INV_3 J20 ha).1 1 rfl) (by decide) ?_
          refine sf_S (As := [_, _]) ok_X3_receiveStop (mi 59 rfl) rfl (s_X7_setTo hst J20 (MSR_rd hm21) (KPR_rd ha)) rfl rfl rfl (by decide) (Nat.le_of_ble_eq_true rfl) (by decide) (fun z22 g23 p24 J25 => ?_)
          obtain rfl : z22 = none := p24
          refine ex_aload_n ok_X3_receiveStop (mi 60 rfl) rfl ?_
          refine ex_aload_n ok_X3_receiveStop (mi 61 rfl) rfl ?_
          refine sf_getI ok_X3_receiveStop (mi 62 rfl) rfl rfl (fk (INV_3 J25 ha).1 0 rfl) (fun v26 => ?_)
          refine sf_putI J25 ok_X3_receiveStop (mi 63 rfl) rfl rfl (by decide) (by decide) (by decide +kernel) (fk (INV_6 J25 hm21) 0 rfl) (MSR_ne hm21 0 (by decide)).1 (fun g27 J28 => ?_)
          refine ex_aload_n ok_X3_receiveStop (mi 64 rfl) rfl ?_
          refine ex_aload_n ok_X3_receiveStop (mi 65 rfl) rfl ?_
          refine sf_getI ok_X3_receiveStop (mi 66 rfl) rfl rfl (fk (INV_3 J28 ha).1 0 rfl) (fun v29 => ?_)
          refine sf_putI J28 ok_X3_receiveStop (mi 67 rfl) rfl rfl (by decide) (by decide) (by decide +kernel) (fk (INV_6 J28 hm21) 0 rfl) (MSR_ne hm21 0 (by decide)).1 (fun g30 J31 => ?_)
          refine ex_vret ok_X3_receiveStop (mi 68 rfl) rfl ?_
          exact ⟨_, rfl, rfl, J31⟩
        · skip
          refine ex_vret ok_X3_receiveStop (mi 32 rfl) rfl ?_
          exact ⟨_, rfl, rfl, I⟩
    · skip
      refine ex_aload_n ok_X3_receiveStop (mi 12 rfl) rfl ?_
      refine sf_getI ok_X3_receiveStop (mi 13 rfl) rfl rfl (fk (INV_3 I ha).1 0 rfl) (fun v32 => ?_)
      refine ex_iconst ok_X3_receiveStop (mi 14 rfl) ?_
      refine ex_icmp_ne (tgt := 36) ok_X3_receiveStop (mi 15 rfl) rfl (fun h29 => ?_) (fun h29 => ?_)
      · skip
        refine ex_iconst ok_X3_receiveStop (mi 18 rfl) ?_
        refine ex_istore_n ok_X3_receiveStop (mi 19 rfl) ?_
        refine ex_iload_n ok_X3_receiveStop (mi 20 rfl) rfl ?_
        refine ex_if_eq (tgt := 64) ok_X3_receiveStop (mi 21 rfl) rfl (fun _ => ?_) (fun hn => absurd (by decide) hn)
        refine ex_vret ok_X3_receiveStop (mi 32 rfl) rfl ?_
        exact ⟨_, rfl, rfl, I⟩
      · skip
        refine ex_iconst ok_X3_receiveStop (mi 16 rfl) ?_
        refine ex_goto (tgt := 37) ok_X3_receiveStop (mi 17 rfl) rfl ?_
        refine ex_istore_n ok_X3_receiveStop (mi 19 rfl) ?_
        refine ex_iload_n ok_X3_receiveStop (mi 20 rfl) rfl ?_
        refine ex_if_eq (tgt := 64) ok_X3_receiveStop (mi 21 rfl) rfl (fun hn => absurd hn (by decide)) (fun _ => ?_)
        refine ex_aload_n ok_X3_receiveStop (mi 22 rfl) rfl ?_
        refine sf_getI ok_X3_receiveStop (mi 23 rfl) rfl rfl (fk (INV_3 I ha).1 0 rfl) (fun v33 => ?_)
        refine ex_aload_n ok_X3_receiveStop (mi 24 rfl) rfl ?_
        refine ex_getI ok_X3_receiveStop (mi 25 rfl) rfl rfl (fk (INV_6 I hm0) 0 rfl) ?_
        refine ex_icmp_ne (tgt := 64) ok_X3_receiveStop (mi 26 rfl) rfl (fun h50 => ?_) (fun h50 => ?_)
        · skip
          refine ex_vret ok_X3_receiveStop (mi 32 rfl) rfl ?_
          exact ⟨_, rfl, rfl, I⟩
        · skip
          refine ex_aload_n ok_X3_receiveStop (mi 27 rfl) rfl ?_
          refine ex_getI ok_X3_receiveStop (mi 28 rfl) rfl rfl (fk (INV_6 I hm0) 0 rfl) ?_
          refine ex_aload_n ok_X3_receiveStop (mi 29 rfl) rfl ?_
          refine sf_getI ok_X3_receiveStop (mi 30 rfl) rfl rfl (fk (INV_3 I ha).1 0 rfl) (fun v34 => ?_)
          refine ex_icmp_ge (tgt := 65) ok_X3_receiveStop (mi 31 rfl) rfl (fun h61 => ?_) (fun h61 => ?_)
          · skip
            refine ex_aload_n ok_X3_receiveStop (mi 33 rfl) rfl ?_
            refine ex_aload_n ok_X3_receiveStop (mi 34 rfl) rfl ?_
            refine ex_getI ok_X3_receiveStop (mi 35 rfl) rfl rfl (fk (INV_6 I hm0) 0 rfl) ?_
            refine sf_putI I ok_X3_receiveStop (mi 36 rfl) rfl rfl (by decide) (by decide) (by decide +kernel) (fk (INV_3 I ha).1 0 rfl) (KPR_ne ha 0 (by decide)).1 (fun g35 J36 => ?_)
            refine ex_aload_n ok_X3_receiveStop (mi 37 rfl) rfl ?_
            refine ex_iconst ok_X3_receiveStop (mi 38 rfl) ?_
            refine sf_putI J36 ok_X3_receiveStop (mi 39 rfl) rfl rfl (by decide) (by decide) (by decide +kernel) (fk (INV_3 J36 ha).1 0 rfl) (KPR_ne ha 0 (by decide)).1 (fun g37 J38 => ?_)
            refine ex_aload_n ok_X3_receiveStop (mi 40 rfl) rfl ?_
            refine ex_getRx ok_X3_receiveStop (mi 41 rfl) rfl rfl (fk (INV_3 J38 ha).1 0 rfl) (INV_3 J38 ha).2.1 (fk J38.1 1 rfl) (by decide) ?_
            refine ex_bipush ok_X3_receiveStop (mi 42 rfl) ?_
            refine ex_aload_n ok_X3_receiveStop (mi 43 rfl) rfl ?_
            refine sf_getI ok_X3_receiveStop (mi 44 rfl) rfl rfl (fk (INV_3 J38 ha).1 0 rfl) (fun v39 => ?_)
            refine ex_aload_n ok_X3_receiveStop (mi 45 rfl) rfl ?_
            refine ex_getI ok_X3_receiveStop (mi 46 rfl) rfl rfl (fk (INV_6 J38 hm0) 0 rfl) ?_
            refine ex_aload_n ok_X3_receiveStop (mi 47 rfl) rfl ?_
            refine sf_getI ok_X3_receiveStop (mi 48 rfl) rfl rfl (fk (INV_3 J38 ha).1 0 rfl) (fun v40 => ?_)
            refine ex_aload_n ok_X3_receiveStop (mi 49 rfl) rfl ?_
            refine sf_getI ok_X3_receiveStop (mi 50 rfl) rfl rfl (fk (INV_3 J38 ha).1 0 rfl) (fun v41 => ?_)
            refine ex_aload_n ok_X3_receiveStop (mi 51 rfl) rfl ?_
            refine sf_getI ok_X3_receiveStop (mi 52 rfl) rfl rfl (fk (INV_3 J38 ha).1 0 rfl) (fun v42 => ?_)
            refine sf_V (As := [_, _, _, _, _, _]) ok_X3_receiveStop (mi 53 rfl) rfl (s_X0_send hst J38) rfl (fk J38.1 1 rfl) rfl rfl (by decide) (by decide) (Nat.le_of_ble_eq_true rfl) (by decide) (fun z43 g44 p45 J46 => ?_)
            obtain ⟨m47, rfl, hm47⟩ := p45
            refine ex_astore_n ok_X3_receiveStop (mi 54 rfl) ?_
            refine ex_aload_n ok_X3_receiveStop (mi 55 rfl) rfl ?_
            refine ex_getRx ok_X3_receiveStop (mi 56 rfl) rfl rfl (fk (INV_6 J46 hm47) 0 rfl) (fr (INV_6 J46 hm47) 0 rfl) (fk (INV_6 J46 hm47) 1 rfl) (by decide) ?_
            refine ex_aload_n ok_X3_receiveStop (mi 57 rfl) rfl ?_
            refine ex_getRx ok_X3_receiveStop (mi 58 rfl) rfl rfl (fk (INV_3 J46 ha).1 0 rfl) (fr (INV_3 J46 ha).1 0 rfl) (fk (INV_3 J46 ha).1 1 rfl) (by decide) ?_
            refine sf_S (As := [_, _]) ok_X3_receiveStop (mi 59 rfl) rfl (s_X7_setTo hst J46 (MSR_rd hm47) (KPR_rd ha)) rfl rfl rfl (by decide) (Nat.le_of_ble_eq_true rfl) (by decide) (fun z48 g49 p50 J51 => ?_)
            obtain rfl : z48 = none := p50
            refine ex_aload_n ok_X3_receiveStop (mi 60 rfl) rfl ?_
            refine ex_aload_n ok_X3_receiveStop (mi 61 rfl) rfl ?_
            refine sf_getI ok_X3_receiveStop (mi 62 rfl) rfl rfl (fk (INV_3 J51 ha).1 0 rfl) (fun v52 => ?_)
            refine sf_putI J51 ok_X3_receiveStop (mi 63 rfl) rfl rfl (by decide) (by decide) (by decide +kernel) (fk (INV_6 J51 hm47) 0 rfl) (MSR_ne hm47 0 (by decide)).1 (fun g53 J54 => ?_)
            refine ex_aload_n ok_X3_receiveStop (mi 64 rfl) rfl ?_
            refine ex_aload_n ok_X3_receiveStop (mi 65 rfl) rfl ?_
            refine sf_getI ok_X3_receiveStop (mi 66 rfl) rfl rfl (fk (INV_3 J54 ha).1 0 rfl) (fun v55 => ?_)
            refine sf_putI J54 ok_X3_receiveStop (mi 67 rfl) rfl rfl (by decide) (by decide) (by decide +kernel) (fk (INV_6 J54 hm47) 0 rfl) (MSR_ne hm47 0 (by decide)).1 (fun g56 J57 => ?_)
            refine ex_vret ok_X3_receiveStop (mi 68 rfl) rfl ?_
            exact ⟨_, rfl, rfl, J57⟩
          · skip
            refine ex_vret ok_X3_receiveStop (mi 32 rfl) rfl ?_
            exact ⟨_, rfl, rfl, I⟩
  · skip
    refine ex_aload_n ok_X3_receiveStop (mi 3 rfl) rfl ?_
    refine ex_aload_n ok_X3_receiveStop (mi 4 rfl) rfl ?_
    refine ex_getI ok_X3_receiveStop (mi 5 rfl) rfl rfl (fk (INV_6 I hm0) 0 rfl) ?_
    refine sf_V (As := [_]) ok_X3_receiveStop (mi 6 rfl) rfl (s_X3_sendGone hst I ha) rfl (fk (INV_3 I ha).1 0 rfl) rfl rfl (by decide) (by decide) (Nat.le_of_ble_eq_true rfl) (by decide) (fun z58 g59 p60 J61 => ?_)
    obtain rfl : z58 = none := p60
    refine ex_vret ok_X3_receiveStop (mi 7 rfl) rfl ?_
    exact ⟨_, rfl, rfl, J61⟩
theorem s_X3_canBeSeeded {G : GE} (hst : (ge_l G).stackTraces = false) {x : Nat} {U : UT} {g : GT} (I : INV x U g) {a : Nat} (ha : KPR x a) {p0 : Int32} : ex_M G 2 0 0 my_X3_canBeSeeded [.ref a, .int p0] g (SVp g pZ) := by
  refine ex_M_of ok_X3_canBeSeeded cw_X3_canBeSeeded rfl hst (Nat.le_of_ble_eq_true rfl) ?_
  refine ex_aload_n ok_X3_canBeSeeded (mi 0 rfl) rfl ?_
  refine sf_getI ok_X3_canBeSeeded (mi 1 rfl) rfl rfl (fk (INV_3 I ha).1 0 rfl) (fun v1 => ?_)
  refine sf_table [36, 38, 52, 73] ok_X3_canBeSeeded (mi 2 rfl) (by decide) (by decide) (fun t ht => ?_)
  simp only [List.mem_cons, List.not_mem_nil, or_false] at ht
  rcases ht with rfl | rfl | rfl | rfl
  · skip
    refine ex_iconst ok_X3_canBeSeeded (mi 3 rfl) ?_
    refine ex_zret ok_X3_canBeSeeded (mi 4 rfl) rfl (by decide) ?_
    exact ⟨_, rfl, ⟨_, rfl, (by decide)⟩, rfl⟩
  · skip
    refine ex_aload_n ok_X3_canBeSeeded (mi 5 rfl) rfl ?_
    refine sf_getI ok_X3_canBeSeeded (mi 6 rfl) rfl rfl (fk (INV_3 I ha).1 0 rfl) (fun v2 => ?_)
    refine ex_iload_n ok_X3_canBeSeeded (mi 7 rfl) rfl ?_
    refine ex_icmp_gt (tgt := 50) ok_X3_canBeSeeded (mi 8 rfl) rfl (fun h43 => ?_) (fun h43 => ?_)
    · skip
      refine ex_iconst ok_X3_canBeSeeded (mi 11 rfl) ?_
      refine ex_zret ok_X3_canBeSeeded (mi 12 rfl) rfl (by decide) ?_
      exact ⟨_, rfl, ⟨_, rfl, (by decide)⟩, rfl⟩
    · skip
      refine ex_iconst ok_X3_canBeSeeded (mi 9 rfl) ?_
      refine ex_goto (tgt := 51) ok_X3_canBeSeeded (mi 10 rfl) rfl ?_
      refine ex_zret ok_X3_canBeSeeded (mi 12 rfl) rfl (by decide) ?_
      exact ⟨_, rfl, ⟨_, rfl, (by decide)⟩, rfl⟩
  · skip
    refine ex_aload_n ok_X3_canBeSeeded (mi 13 rfl) rfl ?_
    refine sf_Vp (As := []) ok_X3_canBeSeeded (mi 14 rfl) rfl (s_X3_knowsNext hst I ha) rfl (fk (INV_3 I ha).1 0 rfl) rfl rfl (by decide) (by decide) (Nat.le_of_ble_eq_true rfl) (by decide) (fun z3 p5 => ?_)
    obtain ⟨v7, rfl, hbv7⟩ := p5
    refine ex_if_eq (tgt := 71) ok_X3_canBeSeeded (mi 15 rfl) rfl (fun h56 => ?_) (fun h56 => ?_)
    · skip
      refine ex_iconst ok_X3_canBeSeeded (mi 22 rfl) ?_
      refine ex_zret ok_X3_canBeSeeded (mi 23 rfl) rfl (by decide) ?_
      exact ⟨_, rfl, ⟨_, rfl, (by decide)⟩, rfl⟩
    · skip
      refine ex_aload_n ok_X3_canBeSeeded (mi 16 rfl) rfl ?_
      refine sf_getI ok_X3_canBeSeeded (mi 17 rfl) rfl rfl (fk (INV_3 I ha).1 0 rfl) (fun v8 => ?_)
      refine ex_iload_n ok_X3_canBeSeeded (mi 18 rfl) rfl ?_
      refine ex_icmp_ge (tgt := 71) ok_X3_canBeSeeded (mi 19 rfl) rfl (fun h64 => ?_) (fun h64 => ?_)
      · skip
        refine ex_iconst ok_X3_canBeSeeded (mi 22 rfl) ?_
        refine ex_zret ok_X3_canBeSeeded (mi 23 rfl) rfl (by decide) ?_
        exact ⟨_, rfl, ⟨_, rfl, (by decide)⟩, rfl⟩
      · skip
        refine ex_iconst ok_X3_canBeSeeded (mi 20 rfl) ?_
        refine ex_goto (tgt := 72) ok_X3_canBeSeeded (mi 21 rfl) rfl ?_
        refine ex_zret ok_X3_canBeSeeded (mi 23 rfl) rfl (by decide) ?_
        exact ⟨_, rfl, ⟨_, rfl, (by decide)⟩, rfl⟩
  · skip
    refine ex_iconst ok_X3_canBeSeeded (mi 24 rfl) ?_
    refine ex_zret ok_X3_canBeSeeded (mi 25 rfl) rfl (by decide) ?_
    exact ⟨_, rfl, ⟨_, rfl, (by decide)⟩, rfl⟩
theorem s_X3_receiveSeed {G : GE} (hst : (ge_l G).stackTraces = false) {x : Nat} {U : UT} {g : GT} (I : INV x U g) {a : Nat} (ha : KPR x a) {m0 : Nat} (hm0 : MSR x m0) : ex_M G 3 0 0 my_X3_receiveSeed [.ref a, .ref m0] g (SV x U pN) := by
  refine ex_M_of ok_X3_receiveSeed cw_X3_receiveSeed rfl hst (Nat.le_of_ble_eq_true rfl) ?_
  refine ex_aload_n ok_X3_receiveSeed (mi 0 rfl) rfl ?_
  refine ex_aload_n ok_X3_receiveSeed (mi 1 rfl) rfl ?_
  refine ex_getI ok_X3_receiveSeed (mi 2 rfl) rfl rfl (fk (INV_6 I hm0) 0 rfl) ?_
  refine sf_Vp (As := [_]) ok_X3_receiveSeed (mi 3 rfl) rfl (s_X3_canBeSeeded hst I ha) rfl (fk (INV_3 I ha).1 0 rfl) rfl rfl (by decide) (by decide) (Nat.le_of_ble_eq_true rfl) (by decide) (fun z1 p3 => ?_)
  obtain ⟨v5, rfl, hbv5⟩ := p3
  refine ex_if_ne (tgt := 12) ok_X3_receiveSeed (mi 4 rfl) rfl (fun h8 => ?_) (fun h8 => ?_)
  · skip
    refine ex_aload_n ok_X3_receiveSeed (mi 6 rfl) rfl ?_
    refine ex_iconst ok_X3_receiveSeed (mi 7 rfl) ?_
    refine sf_putI I ok_X3_receiveSeed (mi 8 rfl) rfl rfl (by decide) (by decide) (by decide +kernel) (fk (INV_3 I ha).1 0 rfl) (KPR_ne ha 0 (by decide)).1 (fun g6 J7 => ?_)
    refine ex_aload_n ok_X3_receiveSeed (mi 9 rfl) rfl ?_
    refine ex_aload_n ok_X3_receiveSeed (mi 10 rfl) rfl ?_
    refine ex_getI ok_X3_receiveSeed (mi 11 rfl) rfl rfl (fk (INV_6 J7 hm0) 0 rfl) ?_
    refine sf_putI J7 ok_X3_receiveSeed (mi 12 rfl) rfl rfl (by decide) (by decide) (by decide +kernel) (fk (INV_3 J7 ha).1 0 rfl) (KPR_ne ha 0 (by decide)).1 (fun g8 J9 => ?_)
    refine ex_aload_n ok_X3_receiveSeed (mi 13 rfl) rfl ?_
    refine ex_aload_n ok_X3_receiveSeed (mi 14 rfl) rfl ?_
    refine ex_getI ok_X3_receiveSeed (mi 15 rfl) rfl rfl (fk (INV_6 J9 hm0) 0 rfl) ?_
    refine sf_putI J9 ok_X3_receiveSeed (mi 16 rfl) rfl rfl (by decide) (by decide) (by decide +kernel) (fk (INV_3 J9 ha).1 0 rfl) (KPR_ne ha 0 (by decide)).1 (fun g10 J11 => ?_)
    refine ex_aload_n ok_X3_receiveSeed (mi 17 rfl) rfl ?_
    refine ex_aload_n ok_X3_receiveSeed (mi 18 rfl) rfl ?_
    refine ex_getI ok_X3_receiveSeed (mi 19 rfl) rfl rfl (fk (INV_6 J11 hm0) 0 rfl) ?_
    refine sf_putI J11 ok_X3_receiveSeed (mi 20 rfl) rfl rfl (by decide) (by decide) (by decide +kernel) (fk (INV_3 J11 ha).1 0 rfl) (KPR_ne ha 0 (by decide)).1 (fun g12 J13 => ?_)
    refine ex_aload_n ok_X3_receiveSeed (mi 21 rfl) rfl ?_
    refine ex_getRx ok_X3_receiveSeed (mi 22 rfl) rfl rfl (fk (INV_3 J13 ha).1 0 rfl) (fr (INV_3 J13 ha).1 0 rfl) (fk (INV_3 J13 ha).1 1 rfl) (by decide) ?_
    refine ex_aload_n ok_X3_receiveSeed (mi 23 rfl) rfl ?_
    refine ex_getRx ok_X3_receiveSeed (mi 24 rfl) rfl rfl (fk (INV_6 J13 hm0) 0 rfl) (fr (INV_6 J13 hm0) 0 rfl) (fk (INV_6 J13 hm0) 1 rfl) (by decide) ?_
    refine sf_S (As := [_, _]) ok_X3_receiveSeed (mi 25 rfl) rfl (s_X7_setTo hst J13 (KPR_rd ha) (MSR_rd hm0)) rfl rfl rfl (by decide) (Nat.le_of_ble_eq_true rfl) (by decide) (fun z14 g15 p16 J17 => ?_)
    obtain rfl : z14 = none := p16
    refine ex_aload_n ok_X3_receiveSeed (mi 26 rfl) rfl ?_
    refine sf_V (As := []) ok_X3_receiveSeed (mi 27 rfl) rfl (s_X3_forgetReform hst J17 ha) rfl (fk (INV_3 J17 ha).1 0 rfl) rfl rfl (by decide) (by decide) (Nat.le_of_ble_eq_true rfl) (by decide) (fun z18 g19 p20 J21 => ?_)
    obtain rfl : z18 = none := p20
    refine ex_aload_n ok_X3_receiveSeed (mi 28 rfl) rfl ?_
    refine ex_getRx ok_X3_receiveSeed (mi 29 rfl) rfl rfl (fk (INV_3 J21 ha).1 0 rfl) (INV_3 J21 ha).2.1 (fk J21.1 1 rfl) (by decide) ?_
    refine ex_bipush ok_X3_receiveSeed (mi 30 rfl) ?_
    refine ex_aload_n ok_X3_receiveSeed (mi 31 rfl) rfl ?_
    refine sf_getI ok_X3_receiveSeed (mi 32 rfl) rfl rfl (fk (INV_3 J21 ha).1 0 rfl) (fun v22 => ?_)
    refine ex_aload_n ok_X3_receiveSeed (mi 33 rfl) rfl ?_
    refine ex_getI ok_X3_receiveSeed (mi 34 rfl) rfl rfl (fk (INV_6 J21 hm0) 0 rfl) ?_
    refine ex_aload_n ok_X3_receiveSeed (mi 35 rfl) rfl ?_
    refine sf_getI ok_X3_receiveSeed (mi 36 rfl) rfl rfl (fk (INV_3 J21 ha).1 0 rfl) (fun v23 => ?_)
    refine ex_iconst ok_X3_receiveSeed (mi 37 rfl) ?_
    refine ex_iconst ok_X3_receiveSeed (mi 38 rfl) ?_
    refine sf_V (As := [_, _, _, _, _, _]) ok_X3_receiveSeed (mi 39 rfl) rfl (s_X0_send hst J21) rfl (fk J21.1 1 rfl) rfl rfl (by decide) (by decide) (Nat.le_of_ble_eq_true rfl) (by decide) (fun z24 g25 p26 J27 => ?_)
    obtain ⟨m28, rfl, hm28⟩ := p26
    refine ex_pop ok_X3_receiveSeed (mi 40 rfl) rfl ?_
    refine ex_vret ok_X3_receiveSeed (mi 41 rfl) rfl ?_
    exact ⟨_, rfl, rfl, J27⟩
  · skip
    refine ex_vret ok_X3_receiveSeed (mi 5 rfl) rfl ?_
    exact ⟨_, rfl, rfl, I⟩
theorem s_X3_receivePick {G : GE} (hst : (ge_l G).stackTraces = false) {x : Nat} {U : UT} {g : GT} (I : INV x U g) {a : Nat} (ha : KPR x a) {m0 : Nat} (hm0 : MSR x m0) : ex_M G 2 0 0 my_X3_receivePick [.ref a, .ref m0] g (SV x U pN) := by
  refine ex_M_of ok_X3_receivePick cw_X3_receivePick rfl hst (Nat.le_of_ble_eq_true rfl) ?_
  refine ex_aload_n ok_X3_receivePick (mi 0 rfl) rfl ?_
  refine sf_getI ok_X3_receivePick (mi 1 rfl) rfl rfl (fk (INV_3 I ha).1 0 rfl) (fun v1 => ?_)
  refine ex_iconst ok_X3_receivePick (mi 2 rfl) ?_
  refine ex_icmp_ne (tgt := 37) ok_X3_receivePick (mi 3 rfl) rfl (fun h5 => ?_) (fun h5 => ?_)
  · skip
    refine ex_vret ok_X3_receivePick (mi 17 rfl) rfl ?_
    exact ⟨_, rfl, rfl, I⟩
  · skip
    refine ex_aload_n ok_X3_receivePick (mi 4 rfl) rfl ?_
    refine sf_getI ok_X3_receivePick (mi 5 rfl) rfl rfl (fk (INV_3 I ha).1 0 rfl) (fun v2 => ?_)
    refine ex_aload_n ok_X3_receivePick (mi 6 rfl) rfl ?_
    refine ex_getI ok_X3_receivePick (mi 7 rfl) rfl rfl (fk (INV_6 I hm0) 0 rfl) ?_
    refine ex_icmp_ne (tgt := 37) ok_X3_receivePick (mi 8 rfl) rfl (fun h16 => ?_) (fun h16 => ?_)
    · skip
      refine ex_vret ok_X3_receivePick (mi 17 rfl) rfl ?_
      exact ⟨_, rfl, rfl, I⟩
    · skip
      refine ex_aload_n ok_X3_receivePick (mi 9 rfl) rfl ?_
      refine sf_Vp (As := []) ok_X3_receivePick (mi 10 rfl) rfl (s_X3_knowsNext hst I ha) rfl (fk (INV_3 I ha).1 0 rfl) rfl rfl (by decide) (by decide) (Nat.le_of_ble_eq_true rfl) (by decide) (fun z3 p5 => ?_)
      obtain ⟨v7, rfl, hbv7⟩ := p5
      refine ex_if_ne (tgt := 37) ok_X3_receivePick (mi 11 rfl) rfl (fun h23 => ?_) (fun h23 => ?_)
      · skip
        refine ex_vret ok_X3_receivePick (mi 17 rfl) rfl ?_
        exact ⟨_, rfl, rfl, I⟩
      · skip
        refine ex_aload_n ok_X3_receivePick (mi 12 rfl) rfl ?_
        refine ex_getI ok_X3_receivePick (mi 13 rfl) rfl rfl (fk (INV_6 I hm0) 0 rfl) ?_
        refine ex_aload_n ok_X3_receivePick (mi 14 rfl) rfl ?_
        refine sf_getI ok_X3_receivePick (mi 15 rfl) rfl rfl (fk (INV_3 I ha).1 0 rfl) (fun v8 => ?_)
        refine ex_icmp_ge (tgt := 38) ok_X3_receivePick (mi 16 rfl) rfl (fun h34 => ?_) (fun h34 => ?_)
        · skip
          refine ex_aload_n ok_X3_receivePick (mi 18 rfl) rfl ?_
          refine ex_aload_n ok_X3_receivePick (mi 19 rfl) rfl ?_
          refine ex_getI ok_X3_receivePick (mi 20 rfl) rfl rfl (fk (INV_6 I hm0) 0 rfl) ?_
          refine sf_putI I ok_X3_receivePick (mi 21 rfl) rfl rfl (by decide) (by decide) (by decide +kernel) (fk (INV_3 I ha).1 0 rfl) (KPR_ne ha 0 (by decide)).1 (fun g9 J10 => ?_)
          refine ex_aload_n ok_X3_receivePick (mi 22 rfl) rfl ?_
          refine ex_aload_n ok_X3_receivePick (mi 23 rfl) rfl ?_
          refine ex_getI ok_X3_receivePick (mi 24 rfl) rfl rfl (fk (INV_6 J10 hm0) 0 rfl) ?_
          refine sf_putI J10 ok_X3_receivePick (mi 25 rfl) rfl rfl (by decide) (by decide) (by decide +kernel) (fk (INV_3 J10 ha).1 0 rfl) (KPR_ne ha 0 (by decide)).1 (fun g11 J12 => ?_)
          refine ex_aload_n ok_X3_receivePick (mi 26 rfl) rfl ?_
          refine ex_aload_n ok_X3_receivePick (mi 27 rfl) rfl ?_
          refine ex_getI ok_X3_receivePick (mi 28 rfl) rfl rfl (fk (INV_6 J12 hm0) 0 rfl) ?_
          refine sf_putI J12 ok_X3_receivePick (mi 29 rfl) rfl rfl (by decide) (by decide) (by decide +kernel) (fk (INV_3 J12 ha).1 0 rfl) (KPR_ne ha 0 (by decide)).1 (fun g13 J14 => ?_)
          refine ex_aload_n ok_X3_receivePick (mi 30 rfl) rfl ?_
          refine ex_getRx ok_X3_receivePick (mi 31 rfl) rfl rfl (fk (INV_3 J14 ha).1 0 rfl) (INV_3 J14 ha).2.1 (fk J14.1 1 rfl) (by decide) ?_
          refine ex_bipush ok_X3_receivePick (mi 32 rfl) ?_
          refine ex_aload_n ok_X3_receivePick (mi 33 rfl) rfl ?_
          refine sf_getI ok_X3_receivePick (mi 34 rfl) rfl rfl (fk (INV_3 J14 ha).1 0 rfl) (fun v15 => ?_)
          refine ex_aload_n ok_X3_receivePick (mi 35 rfl) rfl ?_
          refine ex_getI ok_X3_receivePick (mi 36 rfl) rfl rfl (fk (INV_6 J14 hm0) 0 rfl) ?_
          refine ex_aload_n ok_X3_receivePick (mi 37 rfl) rfl ?_
          refine sf_getI ok_X3_receivePick (mi 38 rfl) rfl rfl (fk (INV_3 J14 ha).1 0 rfl) (fun v16 => ?_)
          refine ex_aload_n ok_X3_receivePick (mi 39 rfl) rfl ?_
          refine sf_getI ok_X3_receivePick (mi 40 rfl) rfl rfl (fk (INV_3 J14 ha).1 0 rfl) (fun v17 => ?_)
          refine ex_iconst ok_X3_receivePick (mi 41 rfl) ?_
          refine sf_V (As := [_, _, _, _, _, _]) ok_X3_receivePick (mi 42 rfl) rfl (s_X0_send hst J14) rfl (fk J14.1 1 rfl) rfl rfl (by decide) (by decide) (Nat.le_of_ble_eq_true rfl) (by decide) (fun z18 g19 p20 J21 => ?_)
          obtain ⟨m22, rfl, hm22⟩ := p20
          refine ex_pop ok_X3_receivePick (mi 43 rfl) rfl ?_
          refine ex_vret ok_X3_receivePick (mi 44 rfl) rfl ?_
          exact ⟨_, rfl, rfl, J21⟩
        · skip
          refine ex_vret ok_X3_receivePick (mi 17 rfl) rfl ?_
          exact ⟨_, rfl, rfl, I⟩
theorem s_X3_receiveMoved {G : GE} (hst : (ge_l G).stackTraces = false) {x : Nat} {U : UT} {g : GT} (I : INV x U g) {a : Nat} (ha : KPR x a) {m0 : Nat} (hm0 : MSR x m0) : ex_M G 1 0 0 my_X3_receiveMoved [.ref a, .ref m0] g (SV x U pN) := by
  refine ex_M_of ok_X3_receiveMoved cw_X3_receiveMoved rfl hst (Nat.le_of_ble_eq_true rfl) ?_
  refine ex_aload_n ok_X3_receiveMoved (mi 0 rfl) rfl ?_
  refine sf_getI ok_X3_receiveMoved (mi 1 rfl) rfl rfl (fk (INV_3 I ha).1 0 rfl) (fun v1 => ?_)
  refine ex_iconst ok_X3_receiveMoved (mi 2 rfl) ?_
  refine ex_icmp_ne (tgt := 40) ok_X3_receiveMoved (mi 3 rfl) rfl (fun h5 => ?_) (fun h5 => ?_)
  · skip
    refine ex_aload_n ok_X3_receiveMoved (mi 20 rfl) rfl ?_
    refine sf_getI ok_X3_receiveMoved (mi 21 rfl) rfl rfl (fk (INV_3 I ha).1 0 rfl) (fun v2 => ?_)
    refine ex_iconst ok_X3_receiveMoved (mi 22 rfl) ?_
    refine ex_icmp_ne (tgt := 67) ok_X3_receiveMoved (mi 23 rfl) rfl (fun h45 => ?_) (fun h45 => ?_)
    · skip
      refine ex_vret ok_X3_receiveMoved (mi 33 rfl) rfl ?_
      exact ⟨_, rfl, rfl, I⟩
    · skip
      refine ex_aload_n ok_X3_receiveMoved (mi 24 rfl) rfl ?_
      refine sf_getI ok_X3_receiveMoved (mi 25 rfl) rfl rfl (fk (INV_3 I ha).1 0 rfl) (fun v3 => ?_)
      refine ex_aload_n ok_X3_receiveMoved (mi 26 rfl) rfl ?_
      refine ex_getI ok_X3_receiveMoved (mi 27 rfl) rfl rfl (fk (INV_6 I hm0) 0 rfl) ?_
      refine ex_icmp_ne (tgt := 67) ok_X3_receiveMoved (mi 28 rfl) rfl (fun h56 => ?_) (fun h56 => ?_)
      · skip
        refine ex_vret ok_X3_receiveMoved (mi 33 rfl) rfl ?_
        exact ⟨_, rfl, rfl, I⟩
      · skip
        refine ex_aload_n ok_X3_receiveMoved (mi 29 rfl) rfl ?_
        refine ex_aload_n ok_X3_receiveMoved (mi 30 rfl) rfl ?_
        refine ex_getI ok_X3_receiveMoved (mi 31 rfl) rfl rfl (fk (INV_6 I hm0) 0 rfl) ?_
        refine sf_putI I ok_X3_receiveMoved (mi 32 rfl) rfl rfl (by decide) (by decide) (by decide +kernel) (fk (INV_3 I ha).1 0 rfl) (KPR_ne ha 0 (by decide)).1 (fun g4 J5 => ?_)
        refine ex_vret ok_X3_receiveMoved (mi 33 rfl) rfl ?_
        exact ⟨_, rfl, rfl, J5⟩
  · skip
    refine ex_aload_n ok_X3_receiveMoved (mi 4 rfl) rfl ?_
    refine sf_getI ok_X3_receiveMoved (mi 5 rfl) rfl rfl (fk (INV_3 I ha).1 0 rfl) (fun v6 => ?_)
    refine ex_aload_n ok_X3_receiveMoved (mi 6 rfl) rfl ?_
    refine ex_getI ok_X3_receiveMoved (mi 7 rfl) rfl rfl (fk (INV_6 I hm0) 0 rfl) ?_
    refine ex_iconst ok_X3_receiveMoved (mi 8 rfl) ?_
    refine ex_iadd ok_X3_receiveMoved (mi 9 rfl) ?_
    refine ex_gen (fun w7 => ?_)
    refine ex_icmp_ne (tgt := 40) ok_X3_receiveMoved (mi 10 rfl) rfl (fun h18 => ?_) (fun h18 => ?_)
    · skip
      refine ex_aload_n ok_X3_receiveMoved (mi 20 rfl) rfl ?_
      refine sf_getI ok_X3_receiveMoved (mi 21 rfl) rfl rfl (fk (INV_3 I ha).1 0 rfl) (fun v8 => ?_)
      refine ex_iconst ok_X3_receiveMoved (mi 22 rfl) ?_
      refine ex_icmp_ne (tgt := 67) ok_X3_receiveMoved (mi 23 rfl) rfl (fun h45 => ?_) (fun h45 => ?_)
      · skip
        refine ex_vret ok_X3_receiveMoved (mi 33 rfl) rfl ?_
        exact ⟨_, rfl, rfl, I⟩
      · skip
        refine ex_aload_n ok_X3_receiveMoved (mi 24 rfl) rfl ?_
        refine sf_getI ok_X3_receiveMoved (mi 25 rfl) rfl rfl (fk (INV_3 I ha).1 0 rfl) (fun v9 => ?_)
        refine ex_aload_n ok_X3_receiveMoved (mi 26 rfl) rfl ?_
        refine ex_getI ok_X3_receiveMoved (mi 27 rfl) rfl rfl (fk (INV_6 I hm0) 0 rfl) ?_
        refine ex_icmp_ne (tgt := 67) ok_X3_receiveMoved (mi 28 rfl) rfl (fun h56 => ?_) (fun h56 => ?_)
        · skip
          refine ex_vret ok_X3_receiveMoved (mi 33 rfl) rfl ?_
          exact ⟨_, rfl, rfl, I⟩
        · skip
          refine ex_aload_n ok_X3_receiveMoved (mi 29 rfl) rfl ?_
          refine ex_aload_n ok_X3_receiveMoved (mi 30 rfl) rfl ?_
          refine ex_getI ok_X3_receiveMoved (mi 31 rfl) rfl rfl (fk (INV_6 I hm0) 0 rfl) ?_
          refine sf_putI I ok_X3_receiveMoved (mi 32 rfl) rfl rfl (by decide) (by decide) (by decide +kernel) (fk (INV_3 I ha).1 0 rfl) (KPR_ne ha 0 (by decide)).1 (fun g10 J11 => ?_)
          refine ex_vret ok_X3_receiveMoved (mi 33 rfl) rfl ?_
          exact ⟨_, rfl, rfl, J11⟩
    · skip
      refine ex_aload_n ok_X3_receiveMoved (mi 11 rfl) rfl ?_
      refine sf_getI ok_X3_receiveMoved (mi 12 rfl) rfl rfl (fk (INV_3 I ha).1 0 rfl) (fun v12 => ?_)
      refine ex_aload_n ok_X3_receiveMoved (mi 13 rfl) rfl ?_
      refine ex_getI ok_X3_receiveMoved (mi 14 rfl) rfl rfl (fk (INV_6 I hm0) 0 rfl) ?_
      refine ex_icmp_ne (tgt := 40) ok_X3_receiveMoved (mi 15 rfl) rfl (fun h29 => ?_) (fun h29 => ?_)
      · skip
        refine ex_aload_n ok_X3_receiveMoved (mi 20 rfl) rfl ?_
        refine sf_getI ok_X3_receiveMoved (mi 21 rfl) rfl rfl (fk (INV_3 I ha).1 0 rfl) (fun v13 => ?_)
        refine ex_iconst ok_X3_receiveMoved (mi 22 rfl) ?_
        refine ex_icmp_ne (tgt := 67) ok_X3_receiveMoved (mi 23 rfl) rfl (fun h45 => ?_) (fun h45 => ?_)
        · skip
          refine ex_vret ok_X3_receiveMoved (mi 33 rfl) rfl ?_
          exact ⟨_, rfl, rfl, I⟩
        · skip
          refine ex_aload_n ok_X3_receiveMoved (mi 24 rfl) rfl ?_
          refine sf_getI ok_X3_receiveMoved (mi 25 rfl) rfl rfl (fk (INV_3 I ha).1 0 rfl) (fun v14 => ?_)
          refine ex_aload_n ok_X3_receiveMoved (mi 26 rfl) rfl ?_
          refine ex_getI ok_X3_receiveMoved (mi 27 rfl) rfl rfl (fk (INV_6 I hm0) 0 rfl) ?_
          refine ex_icmp_ne (tgt := 67) ok_X3_receiveMoved (mi 28 rfl) rfl (fun h56 => ?_) (fun h56 => ?_)
          · skip
            refine ex_vret ok_X3_receiveMoved (mi 33 rfl) rfl ?_
            exact ⟨_, rfl, rfl, I⟩
          · skip
            refine ex_aload_n ok_X3_receiveMoved (mi 29 rfl) rfl ?_
            refine ex_aload_n ok_X3_receiveMoved (mi 30 rfl) rfl ?_
            refine ex_getI ok_X3_receiveMoved (mi 31 rfl) rfl rfl (fk (INV_6 I hm0) 0 rfl) ?_
            refine sf_putI I ok_X3_receiveMoved (mi 32 rfl) rfl rfl (by decide) (by decide) (by decide +kernel) (fk (INV_3 I ha).1 0 rfl) (KPR_ne ha 0 (by decide)).1 (fun g15 J16 => ?_)
            refine ex_vret ok_X3_receiveMoved (mi 33 rfl) rfl ?_
            exact ⟨_, rfl, rfl, J16⟩
      · skip
        refine ex_aload_n ok_X3_receiveMoved (mi 16 rfl) rfl ?_
        refine ex_iconst ok_X3_receiveMoved (mi 17 rfl) ?_
        refine sf_putI I ok_X3_receiveMoved (mi 18 rfl) rfl rfl (by decide) (by decide) (by decide +kernel) (fk (INV_3 I ha).1 0 rfl) (KPR_ne ha 0 (by decide)).1 (fun g17 J18 => ?_)
        refine ex_goto (tgt := 67) ok_X3_receiveMoved (mi 19 rfl) rfl ?_
        refine ex_vret ok_X3_receiveMoved (mi 33 rfl) rfl ?_
        exact ⟨_, rfl, rfl, J18⟩
theorem s_X3_receive {G : GE} (hst : (ge_l G).stackTraces = false) {x : Nat} {U : UT} {g : GT} (I : INV x U g) {a : Nat} (ha : KPR x a) {m0 : Nat} (hm0 : MSR x m0) : ex_M G 5 0 0 my_X3_receive [.ref a, .ref m0] g (SV x U pN) := by
  refine ex_M_of ok_X3_receive cw_X3_receive rfl hst (Nat.le_of_ble_eq_true rfl) ?_
  refine ex_aload_n ok_X3_receive (mi 0 rfl) rfl ?_
  refine ex_getI ok_X3_receive (mi 1 rfl) rfl rfl (fk (INV_6 I hm0) 0 rfl) ?_
  refine sf_lookup [64, 72, 80, 88, 96, 104, 112] ok_X3_receive (mi 2 rfl) (by decide) (by decide) (fun t ht => ?_)
  simp only [List.mem_cons, List.not_mem_nil, or_false] at ht
  rcases ht with rfl | rfl | rfl | rfl | rfl | rfl | rfl
  · skip
    refine ex_aload_n ok_X3_receive (mi 3 rfl) rfl ?_
    refine ex_aload_n ok_X3_receive (mi 4 rfl) rfl ?_
    refine sf_V (As := [_]) ok_X3_receive (mi 5 rfl) rfl (s_X3_receiveMatch hst I ha hm0) rfl (fk (INV_3 I ha).1 0 rfl) rfl rfl (by decide) (by decide) (Nat.le_of_ble_eq_true rfl) (by decide) (fun z1 g2 p3 J4 => ?_)
    obtain rfl : z1 = none := p3
    refine ex_goto (tgt := 112) ok_X3_receive (mi 6 rfl) rfl ?_
    refine ex_vret ok_X3_receive (mi 27 rfl) rfl ?_
    exact ⟨_, rfl, rfl, J4⟩
  · skip
    refine ex_aload_n ok_X3_receive (mi 7 rfl) rfl ?_
    refine ex_aload_n ok_X3_receive (mi 8 rfl) rfl ?_
    refine sf_V (As := [_]) ok_X3_receive (mi 9 rfl) rfl (s_X3_receiveCollect hst I ha hm0) rfl (fk (INV_3 I ha).1 0 rfl) rfl rfl (by decide) (by decide) (Nat.le_of_ble_eq_true rfl) (by decide) (fun z5 g6 p7 J8 => ?_)
    obtain rfl : z5 = none := p7
    refine ex_goto (tgt := 112) ok_X3_receive (mi 10 rfl) rfl ?_
    refine ex_vret ok_X3_receive (mi 27 rfl) rfl ?_
    exact ⟨_, rfl, rfl, J8⟩
  · skip
    refine ex_aload_n ok_X3_receive (mi 11 rfl) rfl ?_
    refine ex_aload_n ok_X3_receive (mi 12 rfl) rfl ?_
    refine sf_V (As := [_]) ok_X3_receive (mi 13 rfl) rfl (s_X3_receiveStop hst I ha hm0) rfl (fk (INV_3 I ha).1 0 rfl) rfl rfl (by decide) (by decide) (Nat.le_of_ble_eq_true rfl) (by decide) (fun z9 g10 p11 J12 => ?_)
    obtain rfl : z9 = none := p11
    refine ex_goto (tgt := 112) ok_X3_receive (mi 14 rfl) rfl ?_
    refine ex_vret ok_X3_receive (mi 27 rfl) rfl ?_
    exact ⟨_, rfl, rfl, J12⟩
  · skip
    refine ex_aload_n ok_X3_receive (mi 15 rfl) rfl ?_
    refine ex_aload_n ok_X3_receive (mi 16 rfl) rfl ?_
    refine sf_V (As := [_]) ok_X3_receive (mi 17 rfl) rfl (s_X3_receiveSeed hst I ha hm0) rfl (fk (INV_3 I ha).1 0 rfl) rfl rfl (by decide) (by decide) (Nat.le_of_ble_eq_true rfl) (by decide) (fun z13 g14 p15 J16 => ?_)
    obtain rfl : z13 = none := p15
    refine ex_goto (tgt := 112) ok_X3_receive (mi 18 rfl) rfl ?_
    refine ex_vret ok_X3_receive (mi 27 rfl) rfl ?_
    exact ⟨_, rfl, rfl, J16⟩
  · skip
    refine ex_aload_n ok_X3_receive (mi 19 rfl) rfl ?_
    refine ex_aload_n ok_X3_receive (mi 20 rfl) rfl ?_
    refine sf_V (As := [_]) ok_X3_receive (mi 21 rfl) rfl (s_X3_receivePick hst I ha hm0) rfl (fk (INV_3 I ha).1 0 rfl) rfl rfl (by decide) (by decide) (Nat.le_of_ble_eq_true rfl) (by decide) (fun z17 g18 p19 J20 => ?_)
    obtain rfl : z17 = none := p19
    refine ex_goto (tgt := 112) ok_X3_receive (mi 22 rfl) rfl ?_
    refine ex_vret ok_X3_receive (mi 27 rfl) rfl ?_
    exact ⟨_, rfl, rfl, J20⟩
  · skip
    refine ex_aload_n ok_X3_receive (mi 23 rfl) rfl ?_
    refine ex_aload_n ok_X3_receive (mi 24 rfl) rfl ?_
    refine sf_V (As := [_]) ok_X3_receive (mi 25 rfl) rfl (s_X3_receiveMoved hst I ha hm0) rfl (fk (INV_3 I ha).1 0 rfl) rfl rfl (by decide) (by decide) (Nat.le_of_ble_eq_true rfl) (by decide) (fun z21 g22 p23 J24 => ?_)
    obtain rfl : z21 = none := p23
    refine ex_goto (tgt := 112) ok_X3_receive (mi 26 rfl) rfl ?_
    refine ex_vret ok_X3_receive (mi 27 rfl) rfl ?_
    exact ⟨_, rfl, rfl, J24⟩
  · skip
    refine ex_vret ok_X3_receive (mi 27 rfl) rfl ?_
    exact ⟨_, rfl, rfl, I⟩
theorem s_X3_tell {G : GE} (hst : (ge_l G).stackTraces = false) {x : Nat} {U : UT} {g : GT} (I : INV x U g) {a : Nat} (ha : KPR x a) {p0 : Int32} : ex_M G 3 0 0 my_X3_tell [.ref a, .int p0] g (SVp g pI) := by
  refine ex_M_of ok_X3_tell cw_X3_tell rfl hst (Nat.le_of_ble_eq_true rfl) ?_
  refine ex_iload_n ok_X3_tell (mi 0 rfl) rfl ?_
  refine sf_table [44, 49, 54, 59, 67, 72, 77, 82] ok_X3_tell (mi 1 rfl) (by decide) (by decide) (fun t ht => ?_)
  simp only [List.mem_cons, List.not_mem_nil, or_false] at ht
  rcases ht with rfl | rfl | rfl | rfl | rfl | rfl | rfl | rfl
  · skip
    refine ex_aload_n ok_X3_tell (mi 2 rfl) rfl ?_
    refine sf_getI ok_X3_tell (mi 3 rfl) rfl rfl (fk (INV_3 I ha).1 0 rfl) (fun v1 => ?_)
    refine ex_iret ok_X3_tell (mi 4 rfl) rfl ?_
    exact ⟨_, rfl, ⟨_, rfl⟩, rfl⟩
  · skip
    refine ex_aload_n ok_X3_tell (mi 5 rfl) rfl ?_
    refine sf_getI ok_X3_tell (mi 6 rfl) rfl rfl (fk (INV_3 I ha).1 0 rfl) (fun v2 => ?_)
    refine ex_iret ok_X3_tell (mi 7 rfl) rfl ?_
    exact ⟨_, rfl, ⟨_, rfl⟩, rfl⟩
  · skip
    refine ex_aload_n ok_X3_tell (mi 8 rfl) rfl ?_
    refine sf_getI ok_X3_tell (mi 9 rfl) rfl rfl (fk (INV_3 I ha).1 0 rfl) (fun v3 => ?_)
    refine ex_iret ok_X3_tell (mi 10 rfl) rfl ?_
    exact ⟨_, rfl, ⟨_, rfl⟩, rfl⟩
  · skip
    refine ex_aload_n ok_X3_tell (mi 11 rfl) rfl ?_
    refine ex_getRx ok_X3_tell (mi 12 rfl) rfl rfl (fk (INV_3 I ha).1 0 rfl) (fr (INV_3 I ha).1 0 rfl) (fk (INV_3 I ha).1 1 rfl) (by decide) ?_
    refine sf_Sp (As := [_]) ok_X3_tell (mi 13 rfl) rfl (s_X7_size hst I (KPR_rd ha)) rfl rfl rfl (by decide) (Nat.le_of_ble_eq_true rfl) (by decide) (fun z4 p6 => ?_)
    obtain ⟨v8, rfl⟩ := p6
    refine ex_iret ok_X3_tell (mi 14 rfl) rfl ?_
    exact ⟨_, rfl, ⟨_, rfl⟩, rfl⟩
  · skip
    refine ex_aload_n ok_X3_tell (mi 15 rfl) rfl ?_
    refine sf_getI ok_X3_tell (mi 16 rfl) rfl rfl (fk (INV_3 I ha).1 0 rfl) (fun v9 => ?_)
    refine ex_iret ok_X3_tell (mi 17 rfl) rfl ?_
    exact ⟨_, rfl, ⟨_, rfl⟩, rfl⟩
  · skip
    refine ex_aload_n ok_X3_tell (mi 18 rfl) rfl ?_
    refine sf_getI ok_X3_tell (mi 19 rfl) rfl rfl (fk (INV_3 I ha).1 0 rfl) (fun v10 => ?_)
    refine ex_iret ok_X3_tell (mi 20 rfl) rfl ?_
    exact ⟨_, rfl, ⟨_, rfl⟩, rfl⟩
  · skip
    refine ex_aload_n ok_X3_tell (mi 21 rfl) rfl ?_
    refine sf_getI ok_X3_tell (mi 22 rfl) rfl rfl (fk (INV_3 I ha).1 0 rfl) (fun v11 => ?_)
    refine ex_iret ok_X3_tell (mi 23 rfl) rfl ?_
    exact ⟨_, rfl, ⟨_, rfl⟩, rfl⟩
  · skip
    refine ex_aload_n ok_X3_tell (mi 24 rfl) rfl ?_
    refine sf_getI ok_X3_tell (mi 25 rfl) rfl rfl (fk (INV_3 I ha).1 0 rfl) (fun v12 => ?_)
    refine ex_iret ok_X3_tell (mi 26 rfl) rfl ?_
    exact ⟨_, rfl, ⟨_, rfl⟩, rfl⟩
theorem s_X4_forget {G : GE} (hst : (ge_l G).stackTraces = false) {x : Nat} {U : UT} {g : GT} (I : INV x U g) {a : Nat} (ha : KGR x a) : ex_M G 4 0 0 my_X4_forget [.ref a] g (SV x U pN) := by
  refine ex_M_of ok_X4_forget cw_X4_forget rfl hst (Nat.le_of_ble_eq_true rfl) ?_
  refine ex_aload_n ok_X4_forget (mi 0 rfl) rfl ?_
  refine ex_iconst ok_X4_forget (mi 1 rfl) ?_
  refine sf_putI I ok_X4_forget (mi 2 rfl) rfl rfl (by decide) (by decide) (by decide +kernel) (fk (INV_4 I ha).1 0 rfl) (KGR_ne ha 0 (by decide)).1 (fun g1 J2 => ?_)
  refine ex_aload_n ok_X4_forget (mi 3 rfl) rfl ?_
  refine ex_iconst ok_X4_forget (mi 4 rfl) ?_
  refine sf_putI J2 ok_X4_forget (mi 5 rfl) rfl rfl (by decide) (by decide) (by decide +kernel) (fk (INV_4 J2 ha).1 0 rfl) (KGR_ne ha 0 (by decide)).1 (fun g3 J4 => ?_)
  refine ex_aload_n ok_X4_forget (mi 6 rfl) rfl ?_
  refine ex_getRx ok_X4_forget (mi 7 rfl) rfl rfl (fk (INV_4 J4 ha).1 0 rfl) (fr (INV_4 J4 ha).1 0 rfl) (fk (INV_4 J4 ha).1 1 rfl) (by decide) ?_
  refine sf_S (As := [_]) ok_X4_forget (mi 8 rfl) rfl (s_X7_empty hst J4 (KGR_rd ha)) rfl rfl rfl (by decide) (Nat.le_of_ble_eq_true rfl) (by decide) (fun z5 g6 p7 J8 => ?_)
  obtain rfl : z5 = none := p7
  refine ex_aload_n ok_X4_forget (mi 9 rfl) rfl ?_
  refine ex_iconst ok_X4_forget (mi 10 rfl) ?_
  refine sf_putI J8 ok_X4_forget (mi 11 rfl) rfl rfl (by decide) (by decide) (by decide +kernel) (fk (INV_4 J8 ha).1 0 rfl) (KGR_ne ha 0 (by decide)).1 (fun g9 J10 => ?_)
  refine ex_aload_n ok_X4_forget (mi 12 rfl) rfl ?_
  refine ex_iconst ok_X4_forget (mi 13 rfl) ?_
  refine sf_putI J10 ok_X4_forget (mi 14 rfl) rfl rfl (by decide) (by decide) (by decide +kernel) (fk (INV_4 J10 ha).1 0 rfl) (KGR_ne ha 0 (by decide)).1 (fun g11 J12 => ?_)
  refine ex_vret ok_X4_forget (mi 15 rfl) rfl ?_
  exact ⟨_, rfl, rfl, J12⟩
theorem s_X4_sendSeeds {G : GE} (hst : (ge_l G).stackTraces = false) {x : Nat} {U : UT} {g : GT} (I : INV x U g) {a : Nat} (ha : KGR x a) {p0 : Int32} : ex_M G 2 0 0 my_X4_sendSeeds [.ref a, .int p0] g (SV x U pN) := by
  refine ex_M_of ok_X4_sendSeeds cw_X4_sendSeeds rfl hst (Nat.le_of_ble_eq_true rfl) ?_
  refine ex_iconst ok_X4_sendSeeds (mi 0 rfl) ?_
  refine ex_istore_n ok_X4_sendSeeds (mi 1 rfl) ?_
  have lp2 : ∀ n2 k2 : Nat, k2 + n2 = 9 → ∀ (g1 : GT), INV x U g1 → ex_W G 2 0 0 M_X4_sendSeeds 2 [(0, .ref a), (1, .int p0), (2, .int (nI k2))] [] g1 (SV x U pN) := by
    intro n2
    induction n2 with
    | zero =>
      intro k2 hk2  g1 J2
      obtain rfl : k2 = 9 := by omega
      refine ex_iload_n ok_X4_sendSeeds (mi 2 rfl) rfl ?_
      refine ex_bipush ok_X4_sendSeeds (mi 3 rfl) ?_
      refine ex_icmp_ge (tgt := 62) ok_X4_sendSeeds (mi 4 rfl) rfl (fun _ => ?_) (fun hn => absurd (by decide) hn)
      refine ex_vret ok_X4_sendSeeds (mi 34 rfl) rfl ?_
      exact ⟨_, rfl, rfl, J2⟩
    | succ n2 ih2 =>
      intro k2 hk2  g1 J2
      have hr2 : k2 < 9 := by omega
      refine ex_iload_n ok_X4_sendSeeds (mi 2 rfl) rfl ?_
      refine ex_bipush ok_X4_sendSeeds (mi 3 rfl) ?_
      refine ex_icmp_ge (tgt := 62) ok_X4_sendSeeds (mi 4 rfl) rfl (fun hn => absurd hn (nI_ge hr2 (by decide))) (fun _ => ?_)
      refine ex_iload_n ok_X4_sendSeeds (mi 5 rfl) rfl ?_
      refine ex_iload_n ok_X4_sendSeeds (mi 6 rfl) rfl ?_
      refine ex_ishr ok_X4_sendSeeds (mi 7 rfl) ?_
      refine ex_gen (fun w3 => ?_)
      refine ex_iconst ok_X4_sendSeeds (mi 8 rfl) ?_
      refine ex_iand ok_X4_sendSeeds (mi 9 rfl) ?_
      refine ex_gen (fun w4 => ?_)
      refine ex_if_eq (tgt := 56) ok_X4_sendSeeds (mi 10 rfl) rfl (fun h13 => ?_) (fun h13 => ?_)
      · skip
        refine ex_iincx (w := (nI (k2 + 1))) ok_X4_sendSeeds (mi 32 rfl) rfl (nI_1 _) ?_
        refine ex_goto (tgt := 2) ok_X4_sendSeeds (mi 33 rfl) rfl ?_
        exact ex_ls (ls' := [(0, .ref a), (1, .int p0), (2, .int (nI (k2 + 1)))]) ⟨rfl, rfl, rfl, trivial⟩ (ih2 (k2 + 1) (by omega) g1 J2)
      · skip
        refine ex_aload_n ok_X4_sendSeeds (mi 11 rfl) rfl ?_
        refine ex_getRx ok_X4_sendSeeds (mi 12 rfl) rfl rfl (fk (INV_4 J2 ha).1 0 rfl) (INV_4 J2 ha).2 (fk J2.1 1 rfl) (by decide) ?_
        refine ex_bipush ok_X4_sendSeeds (mi 13 rfl) ?_
        refine ex_aload_n ok_X4_sendSeeds (mi 14 rfl) rfl ?_
        refine sf_getI ok_X4_sendSeeds (mi 15 rfl) rfl rfl (fk (INV_4 J2 ha).1 0 rfl) (fun v5 => ?_)
        refine ex_iload_n ok_X4_sendSeeds (mi 16 rfl) rfl ?_
        refine ex_aload_n ok_X4_sendSeeds (mi 17 rfl) rfl ?_
        refine sf_getI ok_X4_sendSeeds (mi 18 rfl) rfl rfl (fk (INV_4 J2 ha).1 0 rfl) (fun v6 => ?_)
        refine ex_iconst ok_X4_sendSeeds (mi 19 rfl) ?_
        refine ex_iadd ok_X4_sendSeeds (mi 20 rfl) ?_
        refine ex_gen (fun w7 => ?_)
        refine ex_aload_n ok_X4_sendSeeds (mi 21 rfl) rfl ?_
        refine sf_getI ok_X4_sendSeeds (mi 22 rfl) rfl rfl (fk (INV_4 J2 ha).1 0 rfl) (fun v8 => ?_)
        refine ex_aload_n ok_X4_sendSeeds (mi 23 rfl) rfl ?_
        refine sf_getI ok_X4_sendSeeds (mi 24 rfl) rfl rfl (fk (INV_4 J2 ha).1 0 rfl) (fun v9 => ?_)
        refine sf_V (As := [_, _, _, _, _, _]) ok_X4_sendSeeds (mi 25 rfl) rfl (s_X0_send hst J2) rfl (fk J2.1 1 rfl) rfl rfl (by decide) (by decide) (Nat.le_of_ble_eq_true rfl) (by decide) (fun z10 g11 p12 J13 => ?_)
        obtain ⟨m14, rfl, hm14⟩ := p12
        refine ex_astore_n ok_X4_sendSeeds (mi 26 rfl) ?_
        refine ex_aload_n ok_X4_sendSeeds (mi 27 rfl) rfl ?_
        refine ex_getRx ok_X4_sendSeeds (mi 28 rfl) rfl rfl (fk (INV_6 J13 hm14) 0 rfl) (fr (INV_6 J13 hm14) 0 rfl) (fk (INV_6 J13 hm14) 1 rfl) (by decide) ?_
        refine ex_aload_n ok_X4_sendSeeds (mi 29 rfl) rfl ?_
        refine ex_getRx ok_X4_sendSeeds (mi 30 rfl) rfl rfl (fk (INV_4 J13 ha).1 0 rfl) (fr (INV_4 J13 ha).1 0 rfl) (fk (INV_4 J13 ha).1 1 rfl) (by decide) ?_
        refine sf_S (As := [_, _]) ok_X4_sendSeeds (mi 31 rfl) rfl (s_X7_setTo hst J13 (MSR_rd hm14) (KGR_rd ha)) rfl rfl rfl (by decide) (Nat.le_of_ble_eq_true rfl) (by decide) (fun z15 g16 p17 J18 => ?_)
        obtain rfl : z15 = none := p17
        refine ex_iincx (w := (nI (k2 + 1))) ok_X4_sendSeeds (mi 32 rfl) rfl (nI_1 _) ?_
        refine ex_goto (tgt := 2) ok_X4_sendSeeds (mi 33 rfl) rfl ?_
        exact ex_ls (ls' := [(0, .ref a), (1, .int p0), (2, .int (nI (k2 + 1)))]) ⟨rfl, rfl, rfl, trivial⟩ (ih2 (k2 + 1) (by omega) g16 J18)
  exact ex_ls (ls' := [(0, .ref a), (1, .int p0), (2, .int (nI 0))]) ⟨rfl, rfl, rfl, trivial⟩ (lp2 9 0 (by decide) g I)
theorem s_X4_sendStep {G : GE} (hst : (ge_l G).stackTraces = false) {x : Nat} {U : UT} {g : GT} (I : INV x U g) {a : Nat} (ha : KGR x a) : ex_M G 3 0 0 my_X4_sendStep [.ref a] g (SV x U pN) := by
  refine ex_M_of ok_X4_sendStep cw_X4_sendStep rfl hst (Nat.le_of_ble_eq_true rfl) ?_
  refine ex_aload_n ok_X4_sendStep (mi 0 rfl) rfl ?_
  refine sf_getI ok_X4_sendStep (mi 1 rfl) rfl rfl (fk (INV_4 I ha).1 0 rfl) (fun v1 => ?_)
  refine ex_iconst ok_X4_sendStep (mi 2 rfl) ?_
  refine ex_icmp_ne (tgt := 44) ok_X4_sendStep (mi 3 rfl) rfl (fun h5 => ?_) (fun h5 => ?_)
  · skip
    refine ex_aload_n ok_X4_sendStep (mi 23 rfl) rfl ?_
    refine sf_getI ok_X4_sendStep (mi 24 rfl) rfl rfl (fk (INV_4 I ha).1 0 rfl) (fun v2 => ?_)
    refine ex_iconst ok_X4_sendStep (mi 25 rfl) ?_
    refine ex_icmp_ne (tgt := 70) ok_X4_sendStep (mi 26 rfl) rfl (fun h49 => ?_) (fun h49 => ?_)
    · skip
      refine ex_aload_n ok_X4_sendStep (mi 37 rfl) rfl ?_
      refine sf_getI ok_X4_sendStep (mi 38 rfl) rfl rfl (fk (INV_4 I ha).1 0 rfl) (fun v3 => ?_)
      refine ex_iconst ok_X4_sendStep (mi 39 rfl) ?_
      refine ex_icmp_ne (tgt := 114) ok_X4_sendStep (mi 40 rfl) rfl (fun h75 => ?_) (fun h75 => ?_)
      · skip
        refine ex_vret ok_X4_sendStep (mi 60 rfl) rfl ?_
        exact ⟨_, rfl, rfl, I⟩
      · skip
        refine ex_aload_n ok_X4_sendStep (mi 41 rfl) rfl ?_
        refine ex_getRx ok_X4_sendStep (mi 42 rfl) rfl rfl (fk (INV_4 I ha).1 0 rfl) (INV_4 I ha).2 (fk I.1 1 rfl) (by decide) ?_
        refine ex_bipush ok_X4_sendStep (mi 43 rfl) ?_
        refine ex_aload_n ok_X4_sendStep (mi 44 rfl) rfl ?_
        refine sf_getI ok_X4_sendStep (mi 45 rfl) rfl rfl (fk (INV_4 I ha).1 0 rfl) (fun v4 => ?_)
        refine ex_aload_n ok_X4_sendStep (mi 46 rfl) rfl ?_
        refine sf_getI ok_X4_sendStep (mi 47 rfl) rfl rfl (fk (INV_4 I ha).1 0 rfl) (fun v5 => ?_)
        refine ex_aload_n ok_X4_sendStep (mi 48 rfl) rfl ?_
        refine sf_getI ok_X4_sendStep (mi 49 rfl) rfl rfl (fk (INV_4 I ha).1 0 rfl) (fun v6 => ?_)
        refine ex_iconst ok_X4_sendStep (mi 50 rfl) ?_
        refine ex_ixor ok_X4_sendStep (mi 51 rfl) ?_
        refine ex_gen (fun w7 => ?_)
        refine ex_iand ok_X4_sendStep (mi 52 rfl) ?_
        refine ex_gen (fun w8 => ?_)
        refine ex_aload_n ok_X4_sendStep (mi 53 rfl) rfl ?_
        refine sf_getI ok_X4_sendStep (mi 54 rfl) rfl rfl (fk (INV_4 I ha).1 0 rfl) (fun v9 => ?_)
        refine ex_aload_n ok_X4_sendStep (mi 55 rfl) rfl ?_
        refine sf_getI ok_X4_sendStep (mi 56 rfl) rfl rfl (fk (INV_4 I ha).1 0 rfl) (fun v10 => ?_)
        refine ex_aload_n ok_X4_sendStep (mi 57 rfl) rfl ?_
        refine sf_getI ok_X4_sendStep (mi 58 rfl) rfl rfl (fk (INV_4 I ha).1 0 rfl) (fun v11 => ?_)
        refine sf_V (As := [_, _, _, _, _, _]) ok_X4_sendStep (mi 59 rfl) rfl (s_X0_sendEach hst I) rfl (fk I.1 1 rfl) rfl rfl (by decide) (by decide) (Nat.le_of_ble_eq_true rfl) (by decide) (fun z12 g13 p14 J15 => ?_)
        obtain rfl : z12 = none := p14
        refine ex_vret ok_X4_sendStep (mi 60 rfl) rfl ?_
        exact ⟨_, rfl, rfl, J15⟩
    · skip
      refine ex_aload_n ok_X4_sendStep (mi 27 rfl) rfl ?_
      refine ex_aload_n ok_X4_sendStep (mi 28 rfl) rfl ?_
      refine sf_getI ok_X4_sendStep (mi 29 rfl) rfl rfl (fk (INV_4 I ha).1 0 rfl) (fun v16 => ?_)
      refine ex_aload_n ok_X4_sendStep (mi 30 rfl) rfl ?_
      refine sf_getI ok_X4_sendStep (mi 31 rfl) rfl rfl (fk (INV_4 I ha).1 0 rfl) (fun v17 => ?_)
      refine ex_iconst ok_X4_sendStep (mi 32 rfl) ?_
      refine ex_ixor ok_X4_sendStep (mi 33 rfl) ?_
      refine ex_gen (fun w18 => ?_)
      refine ex_iand ok_X4_sendStep (mi 34 rfl) ?_
      refine ex_gen (fun w19 => ?_)
      refine sf_V (As := [_]) ok_X4_sendStep (mi 35 rfl) rfl (s_X4_sendSeeds hst I ha) rfl (fk (INV_4 I ha).1 0 rfl) rfl rfl (by decide) (by decide) (Nat.le_of_ble_eq_true rfl) (by decide) (fun z20 g21 p22 J23 => ?_)
      obtain rfl : z20 = none := p22
      refine ex_goto (tgt := 114) ok_X4_sendStep (mi 36 rfl) rfl ?_
      refine ex_vret ok_X4_sendStep (mi 60 rfl) rfl ?_
      exact ⟨_, rfl, rfl, J23⟩
  · skip
    refine ex_aload_n ok_X4_sendStep (mi 4 rfl) rfl ?_
    refine ex_getRx ok_X4_sendStep (mi 5 rfl) rfl rfl (fk (INV_4 I ha).1 0 rfl) (INV_4 I ha).2 (fk I.1 1 rfl) (by decide) ?_
    refine ex_bipush ok_X4_sendStep (mi 6 rfl) ?_
    refine ex_aload_n ok_X4_sendStep (mi 7 rfl) rfl ?_
    refine sf_getI ok_X4_sendStep (mi 8 rfl) rfl rfl (fk (INV_4 I ha).1 0 rfl) (fun v24 => ?_)
    refine ex_aload_n ok_X4_sendStep (mi 9 rfl) rfl ?_
    refine sf_getI ok_X4_sendStep (mi 10 rfl) rfl rfl (fk (INV_4 I ha).1 0 rfl) (fun v25 => ?_)
    refine ex_aload_n ok_X4_sendStep (mi 11 rfl) rfl ?_
    refine sf_getI ok_X4_sendStep (mi 12 rfl) rfl rfl (fk (INV_4 I ha).1 0 rfl) (fun v26 => ?_)
    refine ex_iconst ok_X4_sendStep (mi 13 rfl) ?_
    refine ex_ixor ok_X4_sendStep (mi 14 rfl) ?_
    refine ex_gen (fun w27 => ?_)
    refine ex_iand ok_X4_sendStep (mi 15 rfl) ?_
    refine ex_gen (fun w28 => ?_)
    refine ex_aload_n ok_X4_sendStep (mi 16 rfl) rfl ?_
    refine sf_getI ok_X4_sendStep (mi 17 rfl) rfl rfl (fk (INV_4 I ha).1 0 rfl) (fun v29 => ?_)
    refine ex_aload_n ok_X4_sendStep (mi 18 rfl) rfl ?_
    refine sf_getI ok_X4_sendStep (mi 19 rfl) rfl rfl (fk (INV_4 I ha).1 0 rfl) (fun v30 => ?_)
    refine ex_iconst ok_X4_sendStep (mi 20 rfl) ?_
    refine sf_V (As := [_, _, _, _, _, _]) ok_X4_sendStep (mi 21 rfl) rfl (s_X0_sendEach hst I) rfl (fk I.1 1 rfl) rfl rfl (by decide) (by decide) (Nat.le_of_ble_eq_true rfl) (by decide) (fun z31 g32 p33 J34 => ?_)
    obtain rfl : z31 = none := p33
    refine ex_goto (tgt := 114) ok_X4_sendStep (mi 22 rfl) rfl ?_
    refine ex_vret ok_X4_sendStep (mi 60 rfl) rfl ?_
    exact ⟨_, rfl, rfl, J34⟩
theorem s_X4_startReform {G : GE} (hst : (ge_l G).stackTraces = false) {x : Nat} {U : UT} {g : GT} (I : INV x U g) {a : Nat} (ha : KGR x a) {p0 : Int32} {p1 : Int32} : ex_M G 5 0 0 my_X4_startReform [.ref a, .int p0, .int p1] g (SV x U pN) := by
  refine ex_M_of ok_X4_startReform cw_X4_startReform rfl hst (Nat.le_of_ble_eq_true rfl) ?_
  refine ex_aload_n ok_X4_startReform (mi 0 rfl) rfl ?_
  refine sf_V (As := []) ok_X4_startReform (mi 1 rfl) rfl (s_X4_forget hst I ha) rfl (fk (INV_4 I ha).1 0 rfl) rfl rfl (by decide) (by decide) (Nat.le_of_ble_eq_true rfl) (by decide) (fun z1 g2 p3 J4 => ?_)
  obtain rfl : z1 = none := p3
  refine ex_aload_n ok_X4_startReform (mi 2 rfl) rfl ?_
  refine ex_iconst ok_X4_startReform (mi 3 rfl) ?_
  refine sf_putI J4 ok_X4_startReform (mi 4 rfl) rfl rfl (by decide) (by decide) (by decide +kernel) (fk (INV_4 J4 ha).1 0 rfl) (KGR_ne ha 0 (by decide)).1 (fun g5 J6 => ?_)
  refine ex_aload_n ok_X4_startReform (mi 5 rfl) rfl ?_
  refine ex_iload_n ok_X4_startReform (mi 6 rfl) rfl ?_
  refine sf_putI J6 ok_X4_startReform (mi 7 rfl) rfl rfl (by decide) (by decide) (by decide +kernel) (fk (INV_4 J6 ha).1 0 rfl) (KGR_ne ha 0 (by decide)).1 (fun g7 J8 => ?_)
  refine ex_aload_n ok_X4_startReform (mi 8 rfl) rfl ?_
  refine ex_iload_n ok_X4_startReform (mi 9 rfl) rfl ?_
  refine sf_putI J8 ok_X4_startReform (mi 10 rfl) rfl rfl (by decide) (by decide) (by decide +kernel) (fk (INV_4 J8 ha).1 0 rfl) (KGR_ne ha 0 (by decide)).1 (fun g9 J10 => ?_)
  refine ex_aload_n ok_X4_startReform (mi 11 rfl) rfl ?_
  refine sf_V (As := []) ok_X4_startReform (mi 12 rfl) rfl (s_X4_sendStep hst J10 ha) rfl (fk (INV_4 J10 ha).1 0 rfl) rfl rfl (by decide) (by decide) (Nat.le_of_ble_eq_true rfl) (by decide) (fun z11 g12 p13 J14 => ?_)
  obtain rfl : z11 = none := p13
  refine ex_vret ok_X4_startReform (mi 13 rfl) rfl ?_
  exact ⟨_, rfl, rfl, J14⟩
theorem s_X4_receiveStopped {G : GE} (hst : (ge_l G).stackTraces = false) {x : Nat} {U : UT} {g : GT} (I : INV x U g) {a : Nat} (ha : KGR x a) {m0 : Nat} (hm0 : MSR x m0) : ex_M G 4 0 0 my_X4_receiveStopped [.ref a, .ref m0] g (SV x U pN) := by
  refine ex_M_of ok_X4_receiveStopped cw_X4_receiveStopped rfl hst (Nat.le_of_ble_eq_true rfl) ?_
  refine ex_aload_n ok_X4_receiveStopped (mi 0 rfl) rfl ?_
  refine sf_getI ok_X4_receiveStopped (mi 1 rfl) rfl rfl (fk (INV_4 I ha).1 0 rfl) (fun v1 => ?_)
  refine ex_iconst ok_X4_receiveStopped (mi 2 rfl) ?_
  refine ex_icmp_ne (tgt := 30) ok_X4_receiveStopped (mi 3 rfl) rfl (fun h5 => ?_) (fun h5 => ?_)
  · skip
    refine ex_vret ok_X4_receiveStopped (mi 14 rfl) rfl ?_
    exact ⟨_, rfl, rfl, I⟩
  · skip
    refine ex_aload_n ok_X4_receiveStopped (mi 4 rfl) rfl ?_
    refine ex_getI ok_X4_receiveStopped (mi 5 rfl) rfl rfl (fk (INV_6 I hm0) 0 rfl) ?_
    refine ex_aload_n ok_X4_receiveStopped (mi 6 rfl) rfl ?_
    refine sf_getI ok_X4_receiveStopped (mi 7 rfl) rfl rfl (fk (INV_4 I ha).1 0 rfl) (fun v2 => ?_)
    refine ex_icmp_ne (tgt := 30) ok_X4_receiveStopped (mi 8 rfl) rfl (fun h16 => ?_) (fun h16 => ?_)
    · skip
      refine ex_vret ok_X4_receiveStopped (mi 14 rfl) rfl ?_
      exact ⟨_, rfl, rfl, I⟩
    · skip
      refine ex_aload_n ok_X4_receiveStopped (mi 9 rfl) rfl ?_
      refine ex_getI ok_X4_receiveStopped (mi 10 rfl) rfl rfl (fk (INV_6 I hm0) 0 rfl) ?_
      refine ex_aload_n ok_X4_receiveStopped (mi 11 rfl) rfl ?_
      refine sf_getI ok_X4_receiveStopped (mi 12 rfl) rfl rfl (fk (INV_4 I ha).1 0 rfl) (fun v3 => ?_)
      refine ex_icmp_eq (tgt := 31) ok_X4_receiveStopped (mi 13 rfl) rfl (fun h27 => ?_) (fun h27 => ?_)
      · skip
        refine ex_aload_n ok_X4_receiveStopped (mi 15 rfl) rfl ?_
        refine ex_dup ok_X4_receiveStopped (mi 16 rfl) rfl ?_
        refine sf_getI ok_X4_receiveStopped (mi 17 rfl) rfl rfl (fk (INV_4 I ha).1 0 rfl) (fun v4 => ?_)
        refine ex_iconst ok_X4_receiveStopped (mi 18 rfl) ?_
        refine ex_aload_n ok_X4_receiveStopped (mi 19 rfl) rfl ?_
        refine ex_getI ok_X4_receiveStopped (mi 20 rfl) rfl rfl (fk (INV_6 I hm0) 0 rfl) ?_
        refine ex_ishl ok_X4_receiveStopped (mi 21 rfl) ?_
        refine ex_gen (fun w5 => ?_)
        refine ex_ior ok_X4_receiveStopped (mi 22 rfl) ?_
        refine ex_gen (fun w6 => ?_)
        refine sf_putI I ok_X4_receiveStopped (mi 23 rfl) rfl rfl (by decide) (by decide) (by decide +kernel) (fk (INV_4 I ha).1 0 rfl) (KGR_ne ha 0 (by decide)).1 (fun g7 J8 => ?_)
        refine ex_aload_n ok_X4_receiveStopped (mi 24 rfl) rfl ?_
        refine ex_aload_n ok_X4_receiveStopped (mi 25 rfl) rfl ?_
        refine sf_getI ok_X4_receiveStopped (mi 26 rfl) rfl rfl (fk (INV_4 J8 ha).1 0 rfl) (fun v9 => ?_)
        refine ex_aload_n ok_X4_receiveStopped (mi 27 rfl) rfl ?_
        refine ex_getI ok_X4_receiveStopped (mi 28 rfl) rfl rfl (fk (INV_6 J8 hm0) 0 rfl) ?_
        refine sf_max ok_X4_receiveStopped (mi 29 rfl) rfl (Nat.le_of_ble_eq_true rfl) (fun v10 => ?_)
        refine sf_putI J8 ok_X4_receiveStopped (mi 30 rfl) rfl rfl (by decide) (by decide) (by decide +kernel) (fk (INV_4 J8 ha).1 0 rfl) (KGR_ne ha 0 (by decide)).1 (fun g11 J12 => ?_)
        refine ex_aload_n ok_X4_receiveStopped (mi 31 rfl) rfl ?_
        refine ex_getRx ok_X4_receiveStopped (mi 32 rfl) rfl rfl (fk (INV_4 J12 ha).1 0 rfl) (fr (INV_4 J12 ha).1 0 rfl) (fk (INV_4 J12 ha).1 1 rfl) (by decide) ?_
        refine ex_aload_n ok_X4_receiveStopped (mi 33 rfl) rfl ?_
        refine ex_getRx ok_X4_receiveStopped (mi 34 rfl) rfl rfl (fk (INV_6 J12 hm0) 0 rfl) (fr (INV_6 J12 hm0) 0 rfl) (fk (INV_6 J12 hm0) 1 rfl) (by decide) ?_
        refine sf_S (As := [_, _]) ok_X4_receiveStopped (mi 35 rfl) rfl (s_X7_addAll hst J12 (KGR_rd ha) (MSR_rd hm0)) rfl rfl rfl (by decide) (Nat.le_of_ble_eq_true rfl) (by decide) (fun z13 g14 p15 J16 => ?_)
        obtain rfl : z13 = none := p15
        refine ex_aload_n ok_X4_receiveStopped (mi 36 rfl) rfl ?_
        refine ex_getI ok_X4_receiveStopped (mi 37 rfl) rfl rfl (fk (INV_6 J16 hm0) 0 rfl) ?_
        refine ex_aload_n ok_X4_receiveStopped (mi 38 rfl) rfl ?_
        refine sf_getI ok_X4_receiveStopped (mi 39 rfl) rfl rfl (fk (INV_4 J16 ha).1 0 rfl) (fun v17 => ?_)
        refine ex_icmp_le (tgt := 99) ok_X4_receiveStopped (mi 40 rfl) rfl (fun h80 => ?_) (fun h80 => ?_)
        · skip
          refine ex_aload_n ok_X4_receiveStopped (mi 49 rfl) rfl ?_
          refine sf_getI ok_X4_receiveStopped (mi 50 rfl) rfl rfl (fk (INV_4 J16 ha).1 0 rfl) (fun v18 => ?_)
          refine sf_SNp (As := [_]) ok_X4_receiveStopped (mi 51 rfl) rfl (s_X11_areTwo hst J16) rfl (List.mem_of_getElem? (i := 7) rfl) rfl rfl (by decide) (Nat.le_of_ble_eq_true rfl) (by decide) (fun z19 p21 => ?_)
          obtain ⟨v23, rfl, hbv23⟩ := p21
          refine ex_if_ne (tgt := 110) ok_X4_receiveStopped (mi 52 rfl) rfl (fun h106 => ?_) (fun h106 => ?_)
          · skip
            refine ex_aload_n ok_X4_receiveStopped (mi 54 rfl) rfl ?_
            refine ex_iconst ok_X4_receiveStopped (mi 55 rfl) ?_
            refine sf_putI J16 ok_X4_receiveStopped (mi 56 rfl) rfl rfl (by decide) (by decide) (by decide +kernel) (fk (INV_4 J16 ha).1 0 rfl) (KGR_ne ha 0 (by decide)).1 (fun g24 J25 => ?_)
            refine ex_aload_n ok_X4_receiveStopped (mi 57 rfl) rfl ?_
            refine sf_getI ok_X4_receiveStopped (mi 58 rfl) rfl rfl (fk (INV_4 J25 ha).1 0 rfl) (fun v26 => ?_)
            refine ex_iconst ok_X4_receiveStopped (mi 59 rfl) ?_
            refine ex_icmp_eq (tgt := 139) ok_X4_receiveStopped (mi 60 rfl) rfl (fun h120 => ?_) (fun h120 => ?_)
            · skip
              refine ex_aload_n ok_X4_receiveStopped (mi 69 rfl) rfl ?_
              refine ex_getRx ok_X4_receiveStopped (mi 70 rfl) rfl rfl (fk (INV_4 J25 ha).1 0 rfl) (fr (INV_4 J25 ha).1 0 rfl) (fk (INV_4 J25 ha).1 1 rfl) (by decide) ?_
              refine ex_aload_n ok_X4_receiveStopped (mi 71 rfl) rfl ?_
              refine sf_getI ok_X4_receiveStopped (mi 72 rfl) rfl rfl (fk (INV_4 J25 ha).1 0 rfl) (fun v27 => ?_)
              refine sf_S (As := [_, _]) ok_X4_receiveStopped (mi 73 rfl) rfl (s_X7_dropBelow hst J25 (KGR_rd ha)) rfl rfl rfl (by decide) (Nat.le_of_ble_eq_true rfl) (by decide) (fun z28 g29 p30 J31 => ?_)
              obtain rfl : z28 = none := p30
              refine ex_aload_n ok_X4_receiveStopped (mi 74 rfl) rfl ?_
              refine ex_iconst ok_X4_receiveStopped (mi 75 rfl) ?_
              refine sf_putI J31 ok_X4_receiveStopped (mi 76 rfl) rfl rfl (by decide) (by decide) (by decide +kernel) (fk (INV_4 J31 ha).1 0 rfl) (KGR_ne ha 0 (by decide)).1 (fun g32 J33 => ?_)
              refine ex_aload_n ok_X4_receiveStopped (mi 77 rfl) rfl ?_
              refine sf_V (As := []) ok_X4_receiveStopped (mi 78 rfl) rfl (s_X4_sendStep hst J33 ha) rfl (fk (INV_4 J33 ha).1 0 rfl) rfl rfl (by decide) (by decide) (Nat.le_of_ble_eq_true rfl) (by decide) (fun z34 g35 p36 J37 => ?_)
              obtain rfl : z34 = none := p36
              refine ex_vret ok_X4_receiveStopped (mi 79 rfl) rfl ?_
              exact ⟨_, rfl, rfl, J37⟩
            · skip
              refine ex_aload_n ok_X4_receiveStopped (mi 61 rfl) rfl ?_
              refine ex_aload_n ok_X4_receiveStopped (mi 62 rfl) rfl ?_
              refine sf_getI ok_X4_receiveStopped (mi 63 rfl) rfl rfl (fk (INV_4 J25 ha).1 0 rfl) (fun v38 => ?_)
              refine sf_putI J25 ok_X4_receiveStopped (mi 64 rfl) rfl rfl (by decide) (by decide) (by decide +kernel) (fk (INV_4 J25 ha).1 0 rfl) (KGR_ne ha 0 (by decide)).1 (fun g39 J40 => ?_)
              refine ex_aload_n ok_X4_receiveStopped (mi 65 rfl) rfl ?_
              refine ex_iconst ok_X4_receiveStopped (mi 66 rfl) ?_
              refine sf_putI J40 ok_X4_receiveStopped (mi 67 rfl) rfl rfl (by decide) (by decide) (by decide +kernel) (fk (INV_4 J40 ha).1 0 rfl) (KGR_ne ha 0 (by decide)).1 (fun g41 J42 => ?_)
              refine ex_goto (tgt := 155) ok_X4_receiveStopped (mi 68 rfl) rfl ?_
              refine ex_aload_n ok_X4_receiveStopped (mi 77 rfl) rfl ?_
              refine sf_V (As := []) ok_X4_receiveStopped (mi 78 rfl) rfl (s_X4_sendStep hst J42 ha) rfl (fk (INV_4 J42 ha).1 0 rfl) rfl rfl (by decide) (by decide) (Nat.le_of_ble_eq_true rfl) (by decide) (fun z43 g44 p45 J46 => ?_)
              obtain rfl : z43 = none := p45
              refine ex_vret ok_X4_receiveStopped (mi 79 rfl) rfl ?_
              exact ⟨_, rfl, rfl, J46⟩
          · skip
            refine ex_vret ok_X4_receiveStopped (mi 53 rfl) rfl ?_
            exact ⟨_, rfl, rfl, J16⟩
        · skip
          refine ex_aload_n ok_X4_receiveStopped (mi 41 rfl) rfl ?_
          refine ex_aload_n ok_X4_receiveStopped (mi 42 rfl) rfl ?_
          refine ex_getI ok_X4_receiveStopped (mi 43 rfl) rfl rfl (fk (INV_6 J16 hm0) 0 rfl) ?_
          refine sf_putI J16 ok_X4_receiveStopped (mi 44 rfl) rfl rfl (by decide) (by decide) (by decide +kernel) (fk (INV_4 J16 ha).1 0 rfl) (KGR_ne ha 0 (by decide)).1 (fun g47 J48 => ?_)
          refine ex_aload_n ok_X4_receiveStopped (mi 45 rfl) rfl ?_
          refine ex_aload_n ok_X4_receiveStopped (mi 46 rfl) rfl ?_
          refine ex_getI ok_X4_receiveStopped (mi 47 rfl) rfl rfl (fk (INV_6 J48 hm0) 0 rfl) ?_
          refine sf_putI J48 ok_X4_receiveStopped (mi 48 rfl) rfl rfl (by decide) (by decide) (by decide +kernel) (fk (INV_4 J48 ha).1 0 rfl) (KGR_ne ha 0 (by decide)).1 (fun g49 J50 => ?_)
          refine ex_aload_n ok_X4_receiveStopped (mi 49 rfl) rfl ?_
          refine sf_getI ok_X4_receiveStopped (mi 50 rfl) rfl rfl (fk (INV_4 J50 ha).1 0 rfl) (fun v51 => ?_)
          refine sf_SNp (As := [_]) ok_X4_receiveStopped (mi 51 rfl) rfl (s_X11_areTwo hst J50) rfl (List.mem_of_getElem? (i := 7) rfl) rfl rfl (by decide) (Nat.le_of_ble_eq_true rfl) (by decide) (fun z52 p54 => ?_)
          obtain ⟨v56, rfl, hbv56⟩ := p54
          refine ex_if_ne (tgt := 110) ok_X4_receiveStopped (mi 52 rfl) rfl (fun h106 => ?_) (fun h106 => ?_)
          · skip
            refine ex_aload_n ok_X4_receiveStopped (mi 54 rfl) rfl ?_
            refine ex_iconst ok_X4_receiveStopped (mi 55 rfl) ?_
            refine sf_putI J50 ok_X4_receiveStopped (mi 56 rfl) rfl rfl (by decide) (by decide) (by decide +kernel) (fk (INV_4 J50 ha).1 0 rfl) (KGR_ne ha 0 (by decide)).1 (fun g57 J58 => ?_)
            refine ex_aload_n ok_X4_receiveStopped (mi 57 rfl) rfl ?_
            refine sf_getI ok_X4_receiveStopped (mi 58 rfl) rfl rfl (fk (INV_4 J58 ha).1 0 rfl) (fun v59 => ?_)
            refine ex_iconst ok_X4_receiveStopped (mi 59 rfl) ?_
            refine ex_icmp_eq (tgt := 139) ok_X4_receiveStopped (mi 60 rfl) rfl (fun h120 => ?_) (fun h120 => ?_)
            · skip
              refine ex_aload_n ok_X4_receiveStopped (mi 69 rfl) rfl ?_
              refine ex_getRx ok_X4_receiveStopped (mi 70 rfl) rfl rfl (fk (INV_4 J58 ha).1 0 rfl) (fr (INV_4 J58 ha).1 0 rfl) (fk (INV_4 J58 ha).1 1 rfl) (by decide) ?_
              refine ex_aload_n ok_X4_receiveStopped (mi 71 rfl) rfl ?_
              refine sf_getI ok_X4_receiveStopped (mi 72 rfl) rfl rfl (fk (INV_4 J58 ha).1 0 rfl) (fun v60 => ?_)
              refine sf_S (As := [_, _]) ok_X4_receiveStopped (mi 73 rfl) rfl (s_X7_dropBelow hst J58 (KGR_rd ha)) rfl rfl rfl (by decide) (Nat.le_of_ble_eq_true rfl) (by decide) (fun z61 g62 p63 J64 => ?_)
              obtain rfl : z61 = none := p63
              refine ex_aload_n ok_X4_receiveStopped (mi 74 rfl) rfl ?_
              refine ex_iconst ok_X4_receiveStopped (mi 75 rfl) ?_
              refine sf_putI J64 ok_X4_receiveStopped (mi 76 rfl) rfl rfl (by decide) (by decide) (by decide +kernel) (fk (INV_4 J64 ha).1 0 rfl) (KGR_ne ha 0 (by decide)).1 (fun g65 J66 => ?_)
              refine ex_aload_n ok_X4_receiveStopped (mi 77 rfl) rfl ?_
              refine sf_V (As := []) ok_X4_receiveStopped (mi 78 rfl) rfl (s_X4_sendStep hst J66 ha) rfl (fk (INV_4 J66 ha).1 0 rfl) rfl rfl (by decide) (by decide) (Nat.le_of_ble_eq_true rfl) (by decide) (fun z67 g68 p69 J70 => ?_)
              obtain rfl : z67 = none := p69
              refine ex_vret ok_X4_receiveStopped (mi 79 rfl) rfl ?_
              exact ⟨_, rfl, rfl, J70⟩
            · skip
              refine ex_aload_n ok_X4_receiveStopped (mi 61 rfl) rfl ?_
              refine ex_aload_n ok_X4_receiveStopped (mi 62 rfl) rfl ?_
              refine sf_getI ok_X4_receiveStopped (mi 63 rfl) rfl rfl (fk (INV_4 J58 ha).1 0 rfl) (fun v71 => ?_)
              refine sf_putI J58 ok_X4_receiveStopped (mi 64 rfl) rfl rfl (by decide) (by decide) (by decide +kernel) (fk (INV_4 J58 ha).1 0 rfl) (KGR_ne ha 0 (by decide)).1 (fun g72 J73 => ?_)
              refine ex_aload_n ok_X4_receiveStopped (mi 65 rfl) rfl ?_
              refine ex_iconst ok_X4_receiveStopped (mi 66 rfl) ?_
              refine sf_putI J73 ok_X4_receiveStopped (mi 67 rfl) rfl rfl (by decide) (by decide) (by decide +kernel) (fk (INV_4 J73 ha).1 0 rfl) (KGR_ne ha 0 (by decide)).1 (fun g74 J75 => ?_)
              refine ex_goto (tgt := 155) ok_X4_receiveStopped (mi 68 rfl) rfl ?_
              refine ex_aload_n ok_X4_receiveStopped (mi 77 rfl) rfl ?_
              refine sf_V (As := []) ok_X4_receiveStopped (mi 78 rfl) rfl (s_X4_sendStep hst J75 ha) rfl (fk (INV_4 J75 ha).1 0 rfl) rfl rfl (by decide) (by decide) (Nat.le_of_ble_eq_true rfl) (by decide) (fun z76 g77 p78 J79 => ?_)
              obtain rfl : z76 = none := p78
              refine ex_vret ok_X4_receiveStopped (mi 79 rfl) rfl ?_
              exact ⟨_, rfl, rfl, J79⟩
          · skip
            refine ex_vret ok_X4_receiveStopped (mi 53 rfl) rfl ?_
            exact ⟨_, rfl, rfl, J50⟩
      · skip
        refine ex_vret ok_X4_receiveStopped (mi 14 rfl) rfl ?_
        exact ⟨_, rfl, rfl, I⟩
