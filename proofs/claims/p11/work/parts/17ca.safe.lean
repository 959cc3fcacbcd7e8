/-! ===== messages, slots, keepers, voters, the tally ===== -/
theorem s_X11_isSlot {G : GE} (hst : (ge_l G).stackTraces = false) {x : Nat} {U : UT} {g : GT} (I : INV x U g) {p0 : Int32} : ex_M G 1 0 0 my_X11_isSlot [.int p0] g (SVp g (fun v => ∃ i, v = some (.int i) ∧ (i = 0 ∨ i = 1) ∧ (i ≠ 0 → vp_in p0 16))) := by
  refine ex_M_of ok_X11_isSlot cw_X11_isSlot rfl hst (Nat.le_of_ble_eq_true rfl) ?_
  refine ex_iload_n ok_X11_isSlot (mi 0 rfl) rfl ?_
  refine ex_if_lt (tgt := 14) ok_X11_isSlot (mi 1 rfl) rfl (fun h1 => ?_) (fun h1 => ?_)
  · skip
    refine ex_iconst ok_X11_isSlot (mi 7 rfl) ?_
    refine ex_zret ok_X11_isSlot (mi 8 rfl) rfl (by decide) ?_
    exact ⟨_, rfl, ⟨_, rfl, (by decide), fun e => absurd (by decide) e⟩, rfl⟩
  · skip
    refine ex_iload_n ok_X11_isSlot (mi 2 rfl) rfl ?_
    refine ex_bipush ok_X11_isSlot (mi 3 rfl) ?_
    refine ex_icmp_ge (tgt := 14) ok_X11_isSlot (mi 4 rfl) rfl (fun h7 => ?_) (fun h7 => ?_)
    · skip
      refine ex_iconst ok_X11_isSlot (mi 7 rfl) ?_
      refine ex_zret ok_X11_isSlot (mi 8 rfl) rfl (by decide) ?_
      exact ⟨_, rfl, ⟨_, rfl, (by decide), fun e => absurd (by decide) e⟩, rfl⟩
    · skip
      refine ex_iconst ok_X11_isSlot (mi 5 rfl) ?_
      refine ex_goto (tgt := 15) ok_X11_isSlot (mi 6 rfl) rfl ?_
      refine ex_zret ok_X11_isSlot (mi 8 rfl) rfl (by decide) ?_
      exact ⟨_, rfl, ⟨_, rfl, (by decide), fun _ => vin_of h1 (not_le_lt h7) (by decide)⟩, rfl⟩
theorem s_X11_isMajority {G : GE} (hst : (ge_l G).stackTraces = false) {x : Nat} {U : UT} {g : GT} (I : INV x U g) {p0 : Int32} {p1 : Int32} : ex_M G 2 0 0 my_X11_isMajority [.int p0, .int p1] g (SVp g pZ) := by
  refine ex_M_of ok_X11_isMajority cw_X11_isMajority rfl hst (Nat.le_of_ble_eq_true rfl) ?_
  refine ex_iload_n ok_X11_isMajority (mi 0 rfl) rfl ?_
  refine ex_iload_n ok_X11_isMajority (mi 1 rfl) rfl ?_
  refine ex_iand ok_X11_isMajority (mi 2 rfl) ?_
  refine ex_gen (fun w1 => ?_)
  refine sf_Sp (As := [_]) ok_X11_isMajority (mi 3 rfl) rfl (s_J6_bitCount_0f7a4 hst I) rfl rfl rfl (by decide) (Nat.le_of_ble_eq_true rfl) (by decide) (fun z2 p4 => ?_)
  obtain ⟨v6, rfl⟩ := p4
  refine ex_iconst ok_X11_isMajority (mi 4 rfl) ?_
  refine ex_imul ok_X11_isMajority (mi 5 rfl) ?_
  refine ex_gen (fun w7 => ?_)
  refine ex_iload_n ok_X11_isMajority (mi 6 rfl) rfl ?_
  refine sf_Sp (As := [_]) ok_X11_isMajority (mi 7 rfl) rfl (s_J6_bitCount_0f7a4 hst I) rfl rfl rfl (by decide) (Nat.le_of_ble_eq_true rfl) (by decide) (fun z8 p10 => ?_)
  obtain ⟨v12, rfl⟩ := p10
  refine ex_icmp_le (tgt := 19) ok_X11_isMajority (mi 8 rfl) rfl (fun h12 => ?_) (fun h12 => ?_)
  · skip
    refine ex_iconst ok_X11_isMajority (mi 11 rfl) ?_
    refine ex_zret ok_X11_isMajority (mi 12 rfl) rfl (by decide) ?_
    exact ⟨_, rfl, ⟨_, rfl, (by decide)⟩, rfl⟩
  · skip
    refine ex_iconst ok_X11_isMajority (mi 9 rfl) ?_
    refine ex_goto (tgt := 20) ok_X11_isMajority (mi 10 rfl) rfl ?_
    refine ex_zret ok_X11_isMajority (mi 12 rfl) rfl (by decide) ?_
    exact ⟨_, rfl, ⟨_, rfl, (by decide)⟩, rfl⟩
theorem s_X11_areTwo {G : GE} (hst : (ge_l G).stackTraces = false) {x : Nat} {U : UT} {g : GT} (I : INV x U g) {p0 : Int32} : ex_M G 2 0 0 my_X11_areTwo [.int p0] g (SVp g pZ) := by
  refine ex_M_of ok_X11_areTwo cw_X11_areTwo rfl hst (Nat.le_of_ble_eq_true rfl) ?_
  refine ex_iload_n ok_X11_areTwo (mi 0 rfl) rfl ?_
  refine sf_Sp (As := [_]) ok_X11_areTwo (mi 1 rfl) rfl (s_J6_bitCount_0f7a4 hst I) rfl rfl rfl (by decide) (Nat.le_of_ble_eq_true rfl) (by decide) (fun z1 p3 => ?_)
  obtain ⟨v5, rfl⟩ := p3
  refine ex_iconst ok_X11_areTwo (mi 2 rfl) ?_
  refine ex_icmp_lt (tgt := 12) ok_X11_areTwo (mi 3 rfl) rfl (fun h5 => ?_) (fun h5 => ?_)
  · skip
    refine ex_iconst ok_X11_areTwo (mi 6 rfl) ?_
    refine ex_zret ok_X11_areTwo (mi 7 rfl) rfl (by decide) ?_
    exact ⟨_, rfl, ⟨_, rfl, (by decide)⟩, rfl⟩
  · skip
    refine ex_iconst ok_X11_areTwo (mi 4 rfl) ?_
    refine ex_goto (tgt := 13) ok_X11_areTwo (mi 5 rfl) rfl ?_
    refine ex_zret ok_X11_areTwo (mi 7 rfl) rfl (by decide) ?_
    exact ⟨_, rfl, ⟨_, rfl, (by decide)⟩, rfl⟩
theorem s_X10_roundOf {G : GE} (hst : (ge_l G).stackTraces = false) {x : Nat} {U : UT} {g : GT} (I : INV x U g) {p0 : Int32} : ex_M G 1 0 0 my_X10_roundOf [.int p0] g (SVp g pI) := by
  refine ex_M_of ok_X10_roundOf cw_X10_roundOf rfl hst (Nat.le_of_ble_eq_true rfl) ?_
  refine ex_iload_n ok_X10_roundOf (mi 0 rfl) rfl ?_
  refine ex_iconst ok_X10_roundOf (mi 1 rfl) ?_
  refine ex_icmp_ne (tgt := 9) ok_X10_roundOf (mi 2 rfl) rfl (fun h2 => ?_) (fun h2 => ?_)
  · skip
    refine ex_iload_n ok_X10_roundOf (mi 5 rfl) rfl ?_
    refine ex_bipush ok_X10_roundOf (mi 6 rfl) ?_
    refine ex_ishr ok_X10_roundOf (mi 7 rfl) ?_
    refine ex_gen (fun w1 => ?_)
    refine ex_iret ok_X10_roundOf (mi 8 rfl) rfl ?_
    exact ⟨_, rfl, ⟨_, rfl⟩, rfl⟩
  · skip
    refine ex_iconst ok_X10_roundOf (mi 3 rfl) ?_
    refine ex_goto (tgt := 13) ok_X10_roundOf (mi 4 rfl) rfl ?_
    refine ex_iret ok_X10_roundOf (mi 8 rfl) rfl ?_
    exact ⟨_, rfl, ⟨_, rfl⟩, rfl⟩
theorem s_X10_valueOf {G : GE} (hst : (ge_l G).stackTraces = false) {x : Nat} {U : UT} {g : GT} (I : INV x U g) {p0 : Int32} : ex_M G 1 0 0 my_X10_valueOf [.int p0] g (SVp g pI) := by
  refine ex_M_of ok_X10_valueOf cw_X10_valueOf rfl hst (Nat.le_of_ble_eq_true rfl) ?_
  refine ex_iload_n ok_X10_valueOf (mi 0 rfl) rfl ?_
  refine ex_iconst ok_X10_valueOf (mi 1 rfl) ?_
  refine ex_icmp_ne (tgt := 9) ok_X10_valueOf (mi 2 rfl) rfl (fun h2 => ?_) (fun h2 => ?_)
  · skip
    refine ex_iload_n ok_X10_valueOf (mi 5 rfl) rfl ?_
    refine ex_ldc ok_X10_valueOf (mi 6 rfl) rfl ?_
    refine ex_iand ok_X10_valueOf (mi 7 rfl) ?_
    refine ex_gen (fun w1 => ?_)
    refine ex_iret ok_X10_valueOf (mi 8 rfl) rfl ?_
    exact ⟨_, rfl, ⟨_, rfl⟩, rfl⟩
  · skip
    refine ex_iconst ok_X10_valueOf (mi 3 rfl) ?_
    refine ex_goto (tgt := 13) ok_X10_valueOf (mi 4 rfl) rfl ?_
    refine ex_iret ok_X10_valueOf (mi 8 rfl) rfl ?_
    exact ⟨_, rfl, ⟨_, rfl⟩, rfl⟩
theorem s_X10_later {G : GE} (hst : (ge_l G).stackTraces = false) {x : Nat} {U : UT} {g : GT} (I : INV x U g) {p0 : Int32} {p1 : Int32} : ex_M G 1 0 0 my_X10_later [.int p0, .int p1] g (SVp g pI) := by
  refine ex_M_of ok_X10_later cw_X10_later rfl hst (Nat.le_of_ble_eq_true rfl) ?_
  refine ex_iload_n ok_X10_later (mi 0 rfl) rfl ?_
  refine ex_iload_n ok_X10_later (mi 1 rfl) rfl ?_
  refine sf_max ok_X10_later (mi 2 rfl) rfl (Nat.le_of_ble_eq_true rfl) (fun v1 => ?_)
  refine ex_iret ok_X10_later (mi 3 rfl) rfl ?_
  exact ⟨_, rfl, ⟨_, rfl⟩, rfl⟩
theorem s_X10_votesIn {G : GE} (hst : (ge_l G).stackTraces = false) {x : Nat} {U : UT} {g : GT} (I : INV x U g) {s0 : Nat} (hs0 : W16 x s0) : ex_M G 1 0 0 my_X10_votesIn [.ref s0] g (SVp g pI) := by
  refine ex_M_of ok_X10_votesIn cw_X10_votesIn rfl hst (Nat.le_of_ble_eq_true rfl) ?_
  refine ex_iconst ok_X10_votesIn (mi 0 rfl) ?_
  refine ex_istore_n ok_X10_votesIn (mi 1 rfl) ?_
  refine ex_iconst ok_X10_votesIn (mi 2 rfl) ?_
  refine ex_istore_n ok_X10_votesIn (mi 3 rfl) ?_
  have lp4 : ∀ n4 k4 : Nat, k4 + n4 = 16 → ∀ (q1 : Int32), ex_W G 1 0 0 M_X10_votesIn 4 [(0, .ref s0), (1, .int q1), (2, .int (nI k4))] [] g (SVp g pI) := by
    intro n4
    induction n4 with
    | zero =>
      intro k4 hk4 q1
      obtain rfl : k4 = 16 := by omega
      refine ex_iload_n ok_X10_votesIn (mi 4 rfl) rfl ?_
      refine ex_bipush ok_X10_votesIn (mi 5 rfl) ?_
      refine ex_icmp_ge (tgt := 26) ok_X10_votesIn (mi 6 rfl) rfl (fun _ => ?_) (fun hn => absurd (by decide) hn)
      refine ex_iload_n ok_X10_votesIn (mi 15 rfl) rfl ?_
      refine ex_iret ok_X10_votesIn (mi 16 rfl) rfl ?_
      exact ⟨_, rfl, ⟨_, rfl⟩, rfl⟩
    | succ n4 ih4 =>
      intro k4 hk4 q1
      have hr4 : k4 < 16 := by omega
      refine ex_iload_n ok_X10_votesIn (mi 4 rfl) rfl ?_
      refine ex_bipush ok_X10_votesIn (mi 5 rfl) ?_
      refine ex_icmp_ge (tgt := 26) ok_X10_votesIn (mi 6 rfl) rfl (fun hn => absurd hn (nI_ge hr4 (by decide))) (fun _ => ?_)
      refine ex_aload_n ok_X10_votesIn (mi 7 rfl) rfl ?_
      refine ex_iload_n ok_X10_votesIn (mi 8 rfl) rfl ?_
      refine sf_iald ok_X10_votesIn (mi 9 rfl) (INV_w16 I hs0).1 (INV_w16 I hs0).2 (vp_in_nI (by omega) (by decide)) (fun v4 => ?_)
      refine ex_iconst ok_X10_votesIn (mi 10 rfl) ?_
      refine ex_icmp_eq (tgt := 20) ok_X10_votesIn (mi 11 rfl) rfl (fun h14 => ?_) (fun h14 => ?_)
      · skip
        refine ex_iincx (w := (nI (k4 + 1))) ok_X10_votesIn (mi 13 rfl) rfl (nI_1 _) ?_
        refine ex_goto (tgt := 4) ok_X10_votesIn (mi 14 rfl) rfl ?_
        exact ex_ls (ls' := [(0, .ref s0), (1, .int q1), (2, .int (nI (k4 + 1)))]) ⟨rfl, rfl, rfl, trivial⟩ (ih4 (k4 + 1) (by omega) _ )
      · skip
        refine ex_iinc ok_X10_votesIn (mi 12 rfl) rfl ?_
        refine ex_iincx (w := (nI (k4 + 1))) ok_X10_votesIn (mi 13 rfl) rfl (nI_1 _) ?_
        refine ex_goto (tgt := 4) ok_X10_votesIn (mi 14 rfl) rfl ?_
        exact ex_ls (ls' := [(0, .ref s0), (1, .int (q1 + Int32.ofInt (1))), (2, .int (nI (k4 + 1)))]) ⟨rfl, rfl, rfl, trivial⟩ (ih4 (k4 + 1) (by omega) _ )
  exact ex_ls (ls' := [(0, .ref s0), (1, .int (nI 0)), (2, .int (nI 0))]) ⟨rfl, rfl, rfl, trivial⟩ (lp4 16 0 (by decide) _ )
theorem s_X6_takeLoadOf {G : GE} (hst : (ge_l G).stackTraces = false) {x : Nat} {U : UT} {g : GT} (I : INV x U g) {a : Nat} (ha : MSR x a) {m0 : Nat} (hm0 : MSR x m0) : ex_M G 1 0 0 my_X6_takeLoadOf [.ref a, .ref m0] g (SV x U pN) := by
  refine ex_M_of ok_X6_takeLoadOf cw_X6_takeLoadOf rfl hst (Nat.le_of_ble_eq_true rfl) ?_
  refine ex_aload_n ok_X6_takeLoadOf (mi 0 rfl) rfl ?_
  refine ex_aload_n ok_X6_takeLoadOf (mi 1 rfl) rfl ?_
  refine ex_getI ok_X6_takeLoadOf (mi 2 rfl) rfl rfl (fk (INV_6 I hm0) 0 rfl) ?_
  refine sf_putI I ok_X6_takeLoadOf (mi 3 rfl) rfl rfl (by decide) (by decide) (by decide +kernel) (fk (INV_6 I ha) 0 rfl) (MSR_ne ha 0 (by decide)).1 (fun g1 J2 => ?_)
  refine ex_aload_n ok_X6_takeLoadOf (mi 4 rfl) rfl ?_
  refine ex_aload_n ok_X6_takeLoadOf (mi 5 rfl) rfl ?_
  refine ex_getI ok_X6_takeLoadOf (mi 6 rfl) rfl rfl (fk (INV_6 J2 hm0) 0 rfl) ?_
  refine sf_putI J2 ok_X6_takeLoadOf (mi 7 rfl) rfl rfl (by decide) (by decide) (by decide +kernel) (fk (INV_6 J2 ha) 0 rfl) (MSR_ne ha 0 (by decide)).1 (fun g3 J4 => ?_)
  refine ex_aload_n ok_X6_takeLoadOf (mi 8 rfl) rfl ?_
  refine ex_getRx ok_X6_takeLoadOf (mi 9 rfl) rfl rfl (fk (INV_6 J4 hm0) 0 rfl) (fr (INV_6 J4 hm0) 0 rfl) (fk (INV_6 J4 hm0) 1 rfl) (by decide) ?_
  refine ex_iconst ok_X6_takeLoadOf (mi 10 rfl) ?_
  refine ex_aload_n ok_X6_takeLoadOf (mi 11 rfl) rfl ?_
  refine ex_getRx ok_X6_takeLoadOf (mi 12 rfl) rfl rfl (fk (INV_6 J4 ha) 0 rfl) (fr (INV_6 J4 ha) 0 rfl) (fk (INV_6 J4 ha) 1 rfl) (by decide) ?_
  refine ex_iconst ok_X6_takeLoadOf (mi 13 rfl) ?_
  refine ex_bipush ok_X6_takeLoadOf (mi 14 rfl) ?_
  refine sf_copy J4 ok_X6_takeLoadOf (mi 15 rfl) rfl (fk (INV_6 J4 hm0) 1 rfl) (fk (INV_6 J4 ha) 1 rfl) (Nat.le_of_eq (fn (INV_6 J4 hm0) 1 rfl).symm) (Nat.le_of_eq (fn (INV_6 J4 ha) 1 rfl).symm) (by decide) (by decide) (by decide) (by decide) (by decide) (Nat.le_of_ble_eq_true rfl) (MSR_ne ha 1 (by decide)) (fun g5 J6 => ?_)
  refine ex_vret ok_X6_takeLoadOf (mi 16 rfl) rfl ?_
  exact ⟨_, rfl, rfl, J6⟩
theorem s_X6_loadSize {G : GE} (hst : (ge_l G).stackTraces = false) {x : Nat} {U : UT} {g : GT} (I : INV x U g) {a : Nat} (ha : MSR x a) : ex_M G 3 0 0 my_X6_loadSize [.ref a] g (SVp g pI) := by
  refine ex_M_of ok_X6_loadSize cw_X6_loadSize rfl hst (Nat.le_of_ble_eq_true rfl) ?_
  refine ex_aload_n ok_X6_loadSize (mi 0 rfl) rfl ?_
  refine ex_getI ok_X6_loadSize (mi 1 rfl) rfl rfl (fk (INV_6 I ha) 0 rfl) ?_
  refine sf_lookup [48, 56, 64] ok_X6_loadSize (mi 2 rfl) (by decide) (by decide) (fun t ht => ?_)
  simp only [List.mem_cons, List.not_mem_nil, or_false] at ht
  rcases ht with rfl | rfl | rfl
  · skip
    refine ex_aload_n ok_X6_loadSize (mi 3 rfl) rfl ?_
    refine ex_getRx ok_X6_loadSize (mi 4 rfl) rfl rfl (fk (INV_6 I ha) 0 rfl) (fr (INV_6 I ha) 0 rfl) (fk (INV_6 I ha) 1 rfl) (by decide) ?_
    refine sf_Sp (As := [_]) ok_X6_loadSize (mi 5 rfl) rfl (s_X7_size hst I (MSR_rd ha)) rfl rfl rfl (by decide) (Nat.le_of_ble_eq_true rfl) (by decide) (fun z1 p3 => ?_)
    obtain ⟨v5, rfl⟩ := p3
    refine ex_iret ok_X6_loadSize (mi 6 rfl) rfl ?_
    exact ⟨_, rfl, ⟨_, rfl⟩, rfl⟩
  · skip
    refine ex_aload_n ok_X6_loadSize (mi 7 rfl) rfl ?_
    refine ex_getRx ok_X6_loadSize (mi 8 rfl) rfl rfl (fk (INV_6 I ha) 0 rfl) (fr (INV_6 I ha) 0 rfl) (fk (INV_6 I ha) 1 rfl) (by decide) ?_
    refine sf_Sp (As := [_]) ok_X6_loadSize (mi 9 rfl) rfl (s_X10_votesIn hst I (MSR_w16 ha)) rfl rfl rfl (by decide) (Nat.le_of_ble_eq_true rfl) (by decide) (fun z6 p8 => ?_)
    obtain ⟨v10, rfl⟩ := p8
    refine ex_iret ok_X6_loadSize (mi 10 rfl) rfl ?_
    exact ⟨_, rfl, ⟨_, rfl⟩, rfl⟩
  · skip
    refine ex_iconst ok_X6_loadSize (mi 11 rfl) ?_
    refine ex_iret ok_X6_loadSize (mi 12 rfl) rfl ?_
    exact ⟨_, rfl, ⟨_, rfl⟩, rfl⟩
theorem s_X6_tell {G : GE} (hst : (ge_l G).stackTraces = false) {x : Nat} {U : UT} {g : GT} (I : INV x U g) {a : Nat} (ha : MSR x a) {p0 : Int32} : ex_M G 4 0 0 my_X6_tell [.ref a, .int p0] g (SVp g pI) := by
  refine ex_M_of ok_X6_tell cw_X6_tell rfl hst (Nat.le_of_ble_eq_true rfl) ?_
  refine ex_iload_n ok_X6_tell (mi 0 rfl) rfl ?_
  refine sf_table [48, 53, 58, 63, 68, 73, 78, 83, 88] ok_X6_tell (mi 1 rfl) (by decide) (by decide) (fun t ht => ?_)
  simp only [List.mem_cons, List.not_mem_nil, or_false] at ht
  rcases ht with rfl | rfl | rfl | rfl | rfl | rfl | rfl | rfl | rfl
  · skip
    refine ex_aload_n ok_X6_tell (mi 2 rfl) rfl ?_
    refine ex_getI ok_X6_tell (mi 3 rfl) rfl rfl (fk (INV_6 I ha) 0 rfl) ?_
    refine ex_iret ok_X6_tell (mi 4 rfl) rfl ?_
    exact ⟨_, rfl, ⟨_, rfl⟩, rfl⟩
  · skip
    refine ex_aload_n ok_X6_tell (mi 5 rfl) rfl ?_
    refine ex_getI ok_X6_tell (mi 6 rfl) rfl rfl (fk (INV_6 I ha) 0 rfl) ?_
    refine ex_iret ok_X6_tell (mi 7 rfl) rfl ?_
    exact ⟨_, rfl, ⟨_, rfl⟩, rfl⟩
  · skip
    refine ex_aload_n ok_X6_tell (mi 8 rfl) rfl ?_
    refine ex_getI ok_X6_tell (mi 9 rfl) rfl rfl (fk (INV_6 I ha) 0 rfl) ?_
    refine ex_iret ok_X6_tell (mi 10 rfl) rfl ?_
    exact ⟨_, rfl, ⟨_, rfl⟩, rfl⟩
  · skip
    refine ex_aload_n ok_X6_tell (mi 11 rfl) rfl ?_
    refine ex_getI ok_X6_tell (mi 12 rfl) rfl rfl (fk (INV_6 I ha) 0 rfl) ?_
    refine ex_iret ok_X6_tell (mi 13 rfl) rfl ?_
    exact ⟨_, rfl, ⟨_, rfl⟩, rfl⟩
  · skip
    refine ex_aload_n ok_X6_tell (mi 14 rfl) rfl ?_
    refine ex_getI ok_X6_tell (mi 15 rfl) rfl rfl (fk (INV_6 I ha) 0 rfl) ?_
    refine ex_iret ok_X6_tell (mi 16 rfl) rfl ?_
    exact ⟨_, rfl, ⟨_, rfl⟩, rfl⟩
  · skip
    refine ex_aload_n ok_X6_tell (mi 17 rfl) rfl ?_
    refine ex_getI ok_X6_tell (mi 18 rfl) rfl rfl (fk (INV_6 I ha) 0 rfl) ?_
    refine ex_iret ok_X6_tell (mi 19 rfl) rfl ?_
    exact ⟨_, rfl, ⟨_, rfl⟩, rfl⟩
  · skip
    refine ex_aload_n ok_X6_tell (mi 20 rfl) rfl ?_
    refine sf_Vp (As := []) ok_X6_tell (mi 21 rfl) rfl (s_X6_loadSize hst I ha) rfl (fk (INV_6 I ha) 0 rfl) rfl rfl (by decide) (by decide) (Nat.le_of_ble_eq_true rfl) (by decide) (fun z1 p3 => ?_)
    obtain ⟨v5, rfl⟩ := p3
    refine ex_iret ok_X6_tell (mi 22 rfl) rfl ?_
    exact ⟨_, rfl, ⟨_, rfl⟩, rfl⟩
  · skip
    refine ex_aload_n ok_X6_tell (mi 23 rfl) rfl ?_
    refine ex_getI ok_X6_tell (mi 24 rfl) rfl rfl (fk (INV_6 I ha) 0 rfl) ?_
    refine ex_iret ok_X6_tell (mi 25 rfl) rfl ?_
    exact ⟨_, rfl, ⟨_, rfl⟩, rfl⟩
  · skip
    refine ex_aload_n ok_X6_tell (mi 26 rfl) rfl ?_
    refine ex_getI ok_X6_tell (mi 27 rfl) rfl rfl (fk (INV_6 I ha) 0 rfl) ?_
    refine ex_iret ok_X6_tell (mi 28 rfl) rfl ?_
    exact ⟨_, rfl, ⟨_, rfl⟩, rfl⟩
theorem s_X0_at {G : GE} (hst : (ge_l G).stackTraces = false) {x : Nat} {U : UT} {g : GT} (I : INV x U g) {p0 : Int32} (hk : vp_in p0 402) : ex_M G 1 0 0 my_X0_at [.ref (x + 1), .int p0] g (SVp g (pM x)) := by
  refine ex_M_of ok_X0_at cw_X0_at rfl hst (Nat.le_of_ble_eq_true rfl) ?_
  refine ex_aload_n ok_X0_at (mi 0 rfl) rfl ?_
  refine ex_getRx ok_X0_at (mi 1 rfl) rfl rfl (fk I.1 1 rfl) (fr I.1 0 rfl) (fk I.1 2 rfl) (by decide) ?_
  refine ex_aload_n ok_X0_at (mi 2 rfl) rfl ?_
  refine sf_getHd I ok_X0_at (mi 3 rfl) rfl (fk I.1 1 rfl) (fun v1 hv1 => ?_)
  refine ex_iload_n ok_X0_at (mi 4 rfl) rfl ?_
  refine ex_iadd ok_X0_at (mi 5 rfl) ?_
  refine ex_sipush ok_X0_at (mi 6 rfl) ?_
  refine ex_irem ok_X0_at (mi 7 rfl) (by decide) ?_
  refine sf_ring I ok_X0_at (mi 8 rfl) (mod400 hv1 (vp_mono hk (by decide))) (fun m2 hm2 => ?_)
  refine ex_aret ok_X0_at (mi 9 rfl) rfl ?_
  exact ⟨_, rfl, ⟨_, rfl, hm2⟩, rfl⟩
theorem s_X0_send {G : GE} (hst : (ge_l G).stackTraces = false) {x : Nat} {U : UT} {g : GT} (I : INV x U g) {p0 : Int32} {p1 : Int32} {p2 : Int32} {p3 : Int32} {p4 : Int32} {p5 : Int32} : ex_M G 1 0 0 my_X0_send [.ref (x + 1), .int p0, .int p1, .int p2, .int p3, .int p4, .int p5] g (SV x U (pM x)) := by
  refine ex_M_of ok_X0_send cw_X0_send rfl hst (Nat.le_of_ble_eq_true rfl) ?_
  refine ex_aload_n ok_X0_send (mi 0 rfl) rfl ?_
  refine sf_wasted I ok_X0_send (mi 1 rfl) rfl (fun m1 hm1 => ?_)
  refine ex_astore ok_X0_send (mi 2 rfl) ?_
  refine ex_aload_n ok_X0_send (mi 3 rfl) rfl ?_
  refine ex_dup ok_X0_send (mi 4 rfl) rfl ?_
  refine sf_getI ok_X0_send (mi 5 rfl) rfl rfl (fk I.1 1 rfl) (fun v2 => ?_)
  refine ex_iconst ok_X0_send (mi 6 rfl) ?_
  refine ex_iadd ok_X0_send (mi 7 rfl) ?_
  refine ex_gen (fun w3 => ?_)
  refine sf_putI I ok_X0_send (mi 8 rfl) rfl rfl (by decide) (by decide) (by decide +kernel) (fk I.1 1 rfl) ⟨by omega, by omega⟩ (fun g4 J5 => ?_)
  refine ex_aload_n ok_X0_send (mi 9 rfl) rfl ?_
  refine sf_getSz J5 ok_X0_send (mi 10 rfl) rfl (fk J5.1 1 rfl) (fun hz6 => ?_)
  refine ex_sipush ok_X0_send (mi 11 rfl) ?_
  refine ex_icmp_ge (tgt := 59) ok_X0_send (mi 12 rfl) rfl (fun h23 => ?_) (fun h23 => ?_)
  · skip
    refine ex_aload_n ok_X0_send (mi 31 rfl) rfl ?_
    refine ex_dup ok_X0_send (mi 32 rfl) rfl ?_
    refine sf_getI ok_X0_send (mi 33 rfl) rfl rfl (fk J5.1 1 rfl) (fun v7 => ?_)
    refine ex_iconst ok_X0_send (mi 34 rfl) ?_
    refine ex_iadd ok_X0_send (mi 35 rfl) ?_
    refine ex_gen (fun w8 => ?_)
    refine sf_putI J5 ok_X0_send (mi 36 rfl) rfl rfl (by decide) (by decide) (by decide +kernel) (fk J5.1 1 rfl) ⟨by omega, by omega⟩ (fun g9 J10 => ?_)
    refine ex_aload ok_X0_send (mi 37 rfl) rfl ?_
    refine ex_iload_n ok_X0_send (mi 38 rfl) rfl ?_
    refine sf_putI J10 ok_X0_send (mi 39 rfl) rfl rfl (by decide) (by decide) (by decide +kernel) (fk (INV_6 J10 hm1) 0 rfl) (MSR_ne hm1 0 (by decide)).1 (fun g11 J12 => ?_)
    refine ex_aload ok_X0_send (mi 40 rfl) rfl ?_
    refine ex_iload_n ok_X0_send (mi 41 rfl) rfl ?_
    refine sf_putI J12 ok_X0_send (mi 42 rfl) rfl rfl (by decide) (by decide) (by decide +kernel) (fk (INV_6 J12 hm1) 0 rfl) (MSR_ne hm1 0 (by decide)).1 (fun g13 J14 => ?_)
    refine ex_aload ok_X0_send (mi 43 rfl) rfl ?_
    refine ex_iload_n ok_X0_send (mi 44 rfl) rfl ?_
    refine sf_putI J14 ok_X0_send (mi 45 rfl) rfl rfl (by decide) (by decide) (by decide +kernel) (fk (INV_6 J14 hm1) 0 rfl) (MSR_ne hm1 0 (by decide)).1 (fun g15 J16 => ?_)
    refine ex_aload ok_X0_send (mi 46 rfl) rfl ?_
    refine ex_iload ok_X0_send (mi 47 rfl) rfl ?_
    refine sf_putI J16 ok_X0_send (mi 48 rfl) rfl rfl (by decide) (by decide) (by decide +kernel) (fk (INV_6 J16 hm1) 0 rfl) (MSR_ne hm1 0 (by decide)).1 (fun g17 J18 => ?_)
    refine ex_aload ok_X0_send (mi 49 rfl) rfl ?_
    refine ex_iload ok_X0_send (mi 50 rfl) rfl ?_
    refine sf_putI J18 ok_X0_send (mi 51 rfl) rfl rfl (by decide) (by decide) (by decide +kernel) (fk (INV_6 J18 hm1) 0 rfl) (MSR_ne hm1 0 (by decide)).1 (fun g19 J20 => ?_)
    refine ex_aload ok_X0_send (mi 52 rfl) rfl ?_
    refine ex_iload ok_X0_send (mi 53 rfl) rfl ?_
    refine sf_putI J20 ok_X0_send (mi 54 rfl) rfl rfl (by decide) (by decide) (by decide +kernel) (fk (INV_6 J20 hm1) 0 rfl) (MSR_ne hm1 0 (by decide)).1 (fun g21 J22 => ?_)
    refine ex_aload ok_X0_send (mi 55 rfl) rfl ?_
    refine ex_iconst ok_X0_send (mi 56 rfl) ?_
    refine sf_putI J22 ok_X0_send (mi 57 rfl) rfl rfl (by decide) (by decide) (by decide +kernel) (fk (INV_6 J22 hm1) 0 rfl) (MSR_ne hm1 0 (by decide)).1 (fun g23 J24 => ?_)
    refine ex_aload ok_X0_send (mi 58 rfl) rfl ?_
    refine ex_iconst ok_X0_send (mi 59 rfl) ?_
    refine sf_putI J24 ok_X0_send (mi 60 rfl) rfl rfl (by decide) (by decide) (by decide +kernel) (fk (INV_6 J24 hm1) 0 rfl) (MSR_ne hm1 0 (by decide)).1 (fun g25 J26 => ?_)
    refine ex_aload ok_X0_send (mi 61 rfl) rfl ?_
    refine ex_aret ok_X0_send (mi 62 rfl) rfl ?_
    exact ⟨_, rfl, ⟨_, rfl, hm1⟩, J26⟩
  · skip
    refine ex_aload_n ok_X0_send (mi 13 rfl) rfl ?_
    refine ex_getRx ok_X0_send (mi 14 rfl) rfl rfl (fk J5.1 1 rfl) (fr J5.1 0 rfl) (fk J5.1 2 rfl) (by decide) ?_
    refine ex_aload_n ok_X0_send (mi 15 rfl) rfl ?_
    refine sf_getHd J5 ok_X0_send (mi 16 rfl) rfl (fk J5.1 1 rfl) (fun v27 hv27 => ?_)
    refine ex_aload_n ok_X0_send (mi 17 rfl) rfl ?_
    refine sf_getSz J5 ok_X0_send (mi 18 rfl) rfl (fk J5.1 1 rfl) (fun hz28 => ?_)
    refine ex_iadd ok_X0_send (mi 19 rfl) ?_
    refine ex_sipush ok_X0_send (mi 20 rfl) ?_
    refine ex_irem ok_X0_send (mi 21 rfl) (by decide) ?_
    refine sf_ring J5 ok_X0_send (mi 22 rfl) (mod400 hv27 (vp_mono hz28 (by decide))) (fun m29 hm29 => ?_)
    refine ex_astore ok_X0_send (mi 23 rfl) ?_
    refine ex_aload_n ok_X0_send (mi 24 rfl) rfl ?_
    refine ex_dup ok_X0_send (mi 25 rfl) rfl ?_
    refine sf_getSz J5 ok_X0_send (mi 26 rfl) rfl (fk J5.1 1 rfl) (fun hz30 => ?_)
    refine ex_iconst ok_X0_send (mi 27 rfl) ?_
    refine ex_iadd ok_X0_send (mi 28 rfl) ?_
    refine sf_putSz J5 ok_X0_send (mi 29 rfl) rfl (fk J5.1 1 rfl) (sz_inc hz30 h23) (fun g31 J32 => ?_)
    refine ex_goto (tgt := 69) ok_X0_send (mi 30 rfl) rfl ?_
    refine ex_aload ok_X0_send (mi 37 rfl) rfl ?_
    refine ex_iload_n ok_X0_send (mi 38 rfl) rfl ?_
    refine sf_putI J32 ok_X0_send (mi 39 rfl) rfl rfl (by decide) (by decide) (by decide +kernel) (fk (INV_6 J32 hm29) 0 rfl) (MSR_ne hm29 0 (by decide)).1 (fun g33 J34 => ?_)
    refine ex_aload ok_X0_send (mi 40 rfl) rfl ?_
    refine ex_iload_n ok_X0_send (mi 41 rfl) rfl ?_
    refine sf_putI J34 ok_X0_send (mi 42 rfl) rfl rfl (by decide) (by decide) (by decide +kernel) (fk (INV_6 J34 hm29) 0 rfl) (MSR_ne hm29 0 (by decide)).1 (fun g35 J36 => ?_)
    refine ex_aload ok_X0_send (mi 43 rfl) rfl ?_
    refine ex_iload_n ok_X0_send (mi 44 rfl) rfl ?_
    refine sf_putI J36 ok_X0_send (mi 45 rfl) rfl rfl (by decide) (by decide) (by decide +kernel) (fk (INV_6 J36 hm29) 0 rfl) (MSR_ne hm29 0 (by decide)).1 (fun g37 J38 => ?_)
    refine ex_aload ok_X0_send (mi 46 rfl) rfl ?_
    refine ex_iload ok_X0_send (mi 47 rfl) rfl ?_
    refine sf_putI J38 ok_X0_send (mi 48 rfl) rfl rfl (by decide) (by decide) (by decide +kernel) (fk (INV_6 J38 hm29) 0 rfl) (MSR_ne hm29 0 (by decide)).1 (fun g39 J40 => ?_)
    refine ex_aload ok_X0_send (mi 49 rfl) rfl ?_
    refine ex_iload ok_X0_send (mi 50 rfl) rfl ?_
    refine sf_putI J40 ok_X0_send (mi 51 rfl) rfl rfl (by decide) (by decide) (by decide +kernel) (fk (INV_6 J40 hm29) 0 rfl) (MSR_ne hm29 0 (by decide)).1 (fun g41 J42 => ?_)
    refine ex_aload ok_X0_send (mi 52 rfl) rfl ?_
    refine ex_iload ok_X0_send (mi 53 rfl) rfl ?_
    refine sf_putI J42 ok_X0_send (mi 54 rfl) rfl rfl (by decide) (by decide) (by decide +kernel) (fk (INV_6 J42 hm29) 0 rfl) (MSR_ne hm29 0 (by decide)).1 (fun g43 J44 => ?_)
    refine ex_aload ok_X0_send (mi 55 rfl) rfl ?_
    refine ex_iconst ok_X0_send (mi 56 rfl) ?_
    refine sf_putI J44 ok_X0_send (mi 57 rfl) rfl rfl (by decide) (by decide) (by decide +kernel) (fk (INV_6 J44 hm29) 0 rfl) (MSR_ne hm29 0 (by decide)).1 (fun g45 J46 => ?_)
    refine ex_aload ok_X0_send (mi 58 rfl) rfl ?_
    refine ex_iconst ok_X0_send (mi 59 rfl) ?_
    refine sf_putI J46 ok_X0_send (mi 60 rfl) rfl rfl (by decide) (by decide) (by decide +kernel) (fk (INV_6 J46 hm29) 0 rfl) (MSR_ne hm29 0 (by decide)).1 (fun g47 J48 => ?_)
    refine ex_aload ok_X0_send (mi 61 rfl) rfl ?_
    refine ex_aret ok_X0_send (mi 62 rfl) rfl ?_
    exact ⟨_, rfl, ⟨_, rfl, hm29⟩, J48⟩
theorem s_X0_sendEach {G : GE} (hst : (ge_l G).stackTraces = false) {x : Nat} {U : UT} {g : GT} (I : INV x U g) {p0 : Int32} {p1 : Int32} {p2 : Int32} {p3 : Int32} {p4 : Int32} {p5 : Int32} : ex_M G 2 0 0 my_X0_sendEach [.ref (x + 1), .int p0, .int p1, .int p2, .int p3, .int p4, .int p5] g (SV x U pN) := by
  refine ex_M_of ok_X0_sendEach cw_X0_sendEach rfl hst (Nat.le_of_ble_eq_true rfl) ?_
  refine ex_iconst ok_X0_sendEach (mi 0 rfl) ?_
  refine ex_istore ok_X0_sendEach (mi 1 rfl) ?_
  have lp3 : ∀ n3 k3 : Nat, k3 + n3 = 12 → ∀ (g1 : GT), INV x U g1 → ex_W G 2 0 0 M_X0_sendEach 3 [(0, .ref (x + 1)), (1, .int p0), (2, .int p1), (3, .int p2), (4, .int p3), (5, .int p4), (6, .int p5), (7, .int (nI k3))] [] g1 (SV x U pN) := by
    intro n3
    induction n3 with
    | zero =>
      intro k3 hk3  g1 J2
      obtain rfl : k3 = 12 := by omega
      refine ex_iload ok_X0_sendEach (mi 2 rfl) rfl ?_
      refine ex_bipush ok_X0_sendEach (mi 3 rfl) ?_
      refine ex_icmp_ge (tgt := 40) ok_X0_sendEach (mi 4 rfl) rfl (fun _ => ?_) (fun hn => absurd (by decide) hn)
      refine ex_vret ok_X0_sendEach (mi 22 rfl) rfl ?_
      exact ⟨_, rfl, rfl, J2⟩
    | succ n3 ih3 =>
      intro k3 hk3  g1 J2
      have hr3 : k3 < 12 := by omega
      refine ex_iload ok_X0_sendEach (mi 2 rfl) rfl ?_
      refine ex_bipush ok_X0_sendEach (mi 3 rfl) ?_
      refine ex_icmp_ge (tgt := 40) ok_X0_sendEach (mi 4 rfl) rfl (fun hn => absurd hn (nI_ge hr3 (by decide))) (fun _ => ?_)
      refine ex_iload_n ok_X0_sendEach (mi 5 rfl) rfl ?_
      refine ex_iload ok_X0_sendEach (mi 6 rfl) rfl ?_
      refine ex_ishr ok_X0_sendEach (mi 7 rfl) ?_
      refine ex_gen (fun w3 => ?_)
      refine ex_iconst ok_X0_sendEach (mi 8 rfl) ?_
      refine ex_iand ok_X0_sendEach (mi 9 rfl) ?_
      refine ex_gen (fun w4 => ?_)
      refine ex_if_eq (tgt := 34) ok_X0_sendEach (mi 10 rfl) rfl (fun h16 => ?_) (fun h16 => ?_)
      · skip
        refine ex_iincx (w := (nI (k3 + 1))) ok_X0_sendEach (mi 20 rfl) rfl (nI_1 _) ?_
        refine ex_goto (tgt := 3) ok_X0_sendEach (mi 21 rfl) rfl ?_
        exact ex_ls (ls' := [(0, .ref (x + 1)), (1, .int p0), (2, .int p1), (3, .int p2), (4, .int p3), (5, .int p4), (6, .int p5), (7, .int (nI (k3 + 1)))]) ⟨rfl, rfl, rfl, rfl, rfl, rfl, rfl, rfl, trivial⟩ (ih3 (k3 + 1) (by omega) g1 J2)
      · skip
        refine ex_aload_n ok_X0_sendEach (mi 11 rfl) rfl ?_
        refine ex_iload_n ok_X0_sendEach (mi 12 rfl) rfl ?_
        refine ex_iload_n ok_X0_sendEach (mi 13 rfl) rfl ?_
        refine ex_iload ok_X0_sendEach (mi 14 rfl) rfl ?_
        refine ex_iload ok_X0_sendEach (mi 15 rfl) rfl ?_
        refine ex_iload ok_X0_sendEach (mi 16 rfl) rfl ?_
        refine ex_iload ok_X0_sendEach (mi 17 rfl) rfl ?_
        refine sf_V (As := [_, _, _, _, _, _]) ok_X0_sendEach (mi 18 rfl) rfl (s_X0_send hst J2) rfl (fk J2.1 1 rfl) rfl rfl (by decide) (by decide) (Nat.le_of_ble_eq_true rfl) (by decide) (fun z5 g6 p7 J8 => ?_)
        obtain ⟨m9, rfl, hm9⟩ := p7
        refine ex_pop ok_X0_sendEach (mi 19 rfl) rfl ?_
        refine ex_iincx (w := (nI (k3 + 1))) ok_X0_sendEach (mi 20 rfl) rfl (nI_1 _) ?_
        refine ex_goto (tgt := 3) ok_X0_sendEach (mi 21 rfl) rfl ?_
        exact ex_ls (ls' := [(0, .ref (x + 1)), (1, .int p0), (2, .int p1), (3, .int p2), (4, .int p3), (5, .int p4), (6, .int p5), (7, .int (nI (k3 + 1)))]) ⟨rfl, rfl, rfl, rfl, rfl, rfl, rfl, rfl, trivial⟩ (ih3 (k3 + 1) (by omega) g6 J8)
  exact ex_ls (ls' := [(0, .ref (x + 1)), (1, .int p0), (2, .int p1), (3, .int p2), (4, .int p3), (5, .int p4), (6, .int p5), (7, .int (nI 0))]) ⟨rfl, rfl, rfl, rfl, rfl, rfl, rfl, rfl, trivial⟩ (lp3 12 0 (by decide) g I)
theorem s_X8_settle {G : GE} (hst : (ge_l G).stackTraces = false) {x : Nat} {U : UT} {g : GT} (I : INV x U g) {a : Nat} (ha : SLR x a) {p0 : Int32} : ex_M G 2 0 0 my_X8_settle [.ref a, .int p0] g (SV x U pN) := by
  refine ex_M_of ok_X8_settle cw_X8_settle rfl hst (Nat.le_of_ble_eq_true rfl) ?_
  refine ex_iload_n ok_X8_settle (mi 0 rfl) rfl ?_
  refine sf_SNp (As := [_]) ok_X8_settle (mi 1 rfl) rfl (s_X11_isSlot hst I) rfl (List.mem_of_getElem? (i := 2) rfl) rfl rfl (by decide) (Nat.le_of_ble_eq_true rfl) (by decide) (fun z1 p3 => ?_)
  obtain ⟨v5, rfl, hbv5, hfv5⟩ := p3
  refine ex_if_eq (tgt := 14) ok_X8_settle (mi 2 rfl) rfl (fun h4 => ?_) (fun h4 => ?_)
  · skip
    refine ex_vret ok_X8_settle (mi 8 rfl) rfl ?_
    exact ⟨_, rfl, rfl, I⟩
  · skip
    refine ex_aload_n ok_X8_settle (mi 3 rfl) rfl ?_
    refine ex_getRx ok_X8_settle (mi 4 rfl) rfl rfl (fk (INV_8 I ha).1 0 rfl) (fr (INV_8 I ha).1 0 rfl) (fk (INV_8 I ha).1 1 rfl) (by decide) ?_
    refine ex_iload_n ok_X8_settle (mi 5 rfl) rfl ?_
    refine ex_iconst ok_X8_settle (mi 6 rfl) ?_
    refine sf_iast I ok_X8_settle (mi 7 rfl) (fk (INV_8 I ha).1 1 rfl) (fn (INV_8 I ha).1 1 rfl) (hfv5 h4) (SLR_ne ha 1 (by decide)) (fun g6 J7 => ?_)
    refine ex_vret ok_X8_settle (mi 8 rfl) rfl ?_
    exact ⟨_, rfl, rfl, J7⟩
theorem s_X8_put {G : GE} (hst : (ge_l G).stackTraces = false) {x : Nat} {U : UT} {g : GT} (I : INV x U g) {a : Nat} (ha : SLR x a) {p0 : Int32} {p1 : Int32} : ex_M G 2 0 0 my_X8_put [.ref a, .int p0, .int p1] g (SV x U pN) := by
  refine ex_M_of ok_X8_put cw_X8_put rfl hst (Nat.le_of_ble_eq_true rfl) ?_
  refine ex_iload_n ok_X8_put (mi 0 rfl) rfl ?_
  refine sf_SNp (As := [_]) ok_X8_put (mi 1 rfl) rfl (s_X11_isSlot hst I) rfl (List.mem_of_getElem? (i := 2) rfl) rfl rfl (by decide) (Nat.le_of_ble_eq_true rfl) (by decide) (fun z1 p3 => ?_)
  obtain ⟨v5, rfl, hbv5, hfv5⟩ := p3
  refine ex_if_eq (tgt := 21) ok_X8_put (mi 2 rfl) rfl (fun h4 => ?_) (fun h4 => ?_)
  · skip
    refine ex_vret ok_X8_put (mi 13 rfl) rfl ?_
    exact ⟨_, rfl, rfl, I⟩
  · skip
    refine ex_aload_n ok_X8_put (mi 3 rfl) rfl ?_
    refine ex_getRx ok_X8_put (mi 4 rfl) rfl rfl (fk (INV_8 I ha).1 0 rfl) (fr (INV_8 I ha).1 0 rfl) (fk (INV_8 I ha).1 1 rfl) (by decide) ?_
    refine ex_iload_n ok_X8_put (mi 5 rfl) rfl ?_
    refine ex_iconst ok_X8_put (mi 6 rfl) ?_
    refine sf_iast I ok_X8_put (mi 7 rfl) (fk (INV_8 I ha).1 1 rfl) (fn (INV_8 I ha).1 1 rfl) (hfv5 h4) (SLR_ne ha 1 (by decide)) (fun g6 J7 => ?_)
    refine ex_aload_n ok_X8_put (mi 8 rfl) rfl ?_
    refine ex_getRx ok_X8_put (mi 9 rfl) rfl rfl (fk (INV_8 J7 ha).1 0 rfl) (fr (INV_8 J7 ha).1 1 rfl) (fk (INV_8 J7 ha).1 2 rfl) (by decide) ?_
    refine ex_iload_n ok_X8_put (mi 10 rfl) rfl ?_
    refine ex_iload_n ok_X8_put (mi 11 rfl) rfl ?_
    refine sf_iast J7 ok_X8_put (mi 12 rfl) (fk (INV_8 J7 ha).1 2 rfl) (fn (INV_8 J7 ha).1 2 rfl) (hfv5 h4) (SLR_ne ha 2 (by decide)) (fun g8 J9 => ?_)
    refine ex_vret ok_X8_put (mi 13 rfl) rfl ?_
    exact ⟨_, rfl, rfl, J9⟩
theorem s_X8_isChosen {G : GE} (hst : (ge_l G).stackTraces = false) {x : Nat} {U : UT} {g : GT} (I : INV x U g) {a : Nat} (ha : SLR x a) {p0 : Int32} (hk : vp_in p0 16) : ex_M G 1 0 0 my_X8_isChosen [.ref a, .int p0] g (SVp g pZ) := by
  refine ex_M_of ok_X8_isChosen cw_X8_isChosen rfl hst (Nat.le_of_ble_eq_true rfl) ?_
  refine ex_aload_n ok_X8_isChosen (mi 0 rfl) rfl ?_
  refine ex_getRx ok_X8_isChosen (mi 1 rfl) rfl rfl (fk (INV_8 I ha).1 0 rfl) (fr (INV_8 I ha).1 0 rfl) (fk (INV_8 I ha).1 1 rfl) (by decide) ?_
  refine ex_iload_n ok_X8_isChosen (mi 2 rfl) rfl ?_
  refine sf_iald ok_X8_isChosen (mi 3 rfl) (fk (INV_8 I ha).1 1 rfl) (fn (INV_8 I ha).1 1 rfl) hk (fun v1 => ?_)
  refine ex_iconst ok_X8_isChosen (mi 4 rfl) ?_
  refine ex_icmp_eq (tgt := 20) ok_X8_isChosen (mi 5 rfl) rfl (fun h7 => ?_) (fun h7 => ?_)
  · skip
    refine ex_iconst ok_X8_isChosen (mi 12 rfl) ?_
    refine ex_goto (tgt := 25) ok_X8_isChosen (mi 13 rfl) rfl ?_
    refine ex_zret ok_X8_isChosen (mi 15 rfl) rfl (by decide) ?_
    exact ⟨_, rfl, ⟨_, rfl, (by decide)⟩, rfl⟩
  · skip
    refine ex_aload_n ok_X8_isChosen (mi 6 rfl) rfl ?_
    refine ex_getRx ok_X8_isChosen (mi 7 rfl) rfl rfl (fk (INV_8 I ha).1 0 rfl) (fr (INV_8 I ha).1 0 rfl) (fk (INV_8 I ha).1 1 rfl) (by decide) ?_
    refine ex_iload_n ok_X8_isChosen (mi 8 rfl) rfl ?_
    refine sf_iald ok_X8_isChosen (mi 9 rfl) (fk (INV_8 I ha).1 1 rfl) (fn (INV_8 I ha).1 1 rfl) hk (fun v2 => ?_)
    refine ex_iconst ok_X8_isChosen (mi 10 rfl) ?_
    refine ex_icmp_ne (tgt := 24) ok_X8_isChosen (mi 11 rfl) rfl (fun h17 => ?_) (fun h17 => ?_)
    · skip
      refine ex_iconst ok_X8_isChosen (mi 14 rfl) ?_
      refine ex_zret ok_X8_isChosen (mi 15 rfl) rfl (by decide) ?_
      exact ⟨_, rfl, ⟨_, rfl, (by decide)⟩, rfl⟩
    · skip
      refine ex_iconst ok_X8_isChosen (mi 12 rfl) ?_
      refine ex_goto (tgt := 25) ok_X8_isChosen (mi 13 rfl) rfl ?_
      refine ex_zret ok_X8_isChosen (mi 15 rfl) rfl (by decide) ?_
      exact ⟨_, rfl, ⟨_, rfl, (by decide)⟩, rfl⟩
theorem s_X8_noteVoter {G : GE} (hst : (ge_l G).stackTraces = false) {x : Nat} {U : UT} {g : GT} (I : INV x U g) {a : Nat} (ha : SLR x a) {p0 : Int32} {p1 : Int32} {p2 : Int32} : ex_M G 3 0 0 my_X8_noteVoter [.ref a, .int p0, .int p1, .int p2] g (SV x U pN) := by
  refine ex_M_of ok_X8_noteVoter cw_X8_noteVoter rfl hst (Nat.le_of_ble_eq_true rfl) ?_
  refine ex_iload_n ok_X8_noteVoter (mi 0 rfl) rfl ?_
  refine sf_SNp (As := [_]) ok_X8_noteVoter (mi 1 rfl) rfl (s_X11_isSlot hst I) rfl (List.mem_of_getElem? (i := 2) rfl) rfl rfl (by decide) (Nat.le_of_ble_eq_true rfl) (by decide) (fun z1 p3 => ?_)
  obtain ⟨v5, rfl, hbv5, hfv5⟩ := p3
  refine ex_if_ne (tgt := 8) ok_X8_noteVoter (mi 2 rfl) rfl (fun h4 => ?_) (fun h4 => ?_)
  · skip
    refine ex_aload_n ok_X8_noteVoter (mi 4 rfl) rfl ?_
    refine ex_getRx ok_X8_noteVoter (mi 5 rfl) rfl rfl (fk (INV_8 I ha).1 0 rfl) (fr (INV_8 I ha).1 2 rfl) (fk (INV_8 I ha).1 3 rfl) (by decide) ?_
    refine ex_iload_n ok_X8_noteVoter (mi 6 rfl) rfl ?_
    refine ex_dup2 ok_X8_noteVoter (mi 7 rfl) rfl rfl ?_
    refine sf_iald ok_X8_noteVoter (mi 8 rfl) (fk (INV_8 I ha).1 3 rfl) (fn (INV_8 I ha).1 3 rfl) (hfv5 h4) (fun v6 => ?_)
    refine ex_iconst ok_X8_noteVoter (mi 9 rfl) ?_
    refine ex_iload_n ok_X8_noteVoter (mi 10 rfl) rfl ?_
    refine ex_ishl ok_X8_noteVoter (mi 11 rfl) ?_
    refine ex_gen (fun w7 => ?_)
    refine ex_ior ok_X8_noteVoter (mi 12 rfl) ?_
    refine ex_gen (fun w8 => ?_)
    refine sf_iast I ok_X8_noteVoter (mi 13 rfl) (fk (INV_8 I ha).1 3 rfl) (fn (INV_8 I ha).1 3 rfl) (hfv5 h4) (SLR_ne ha 3 (by decide)) (fun g9 J10 => ?_)
    refine ex_aload_n ok_X8_noteVoter (mi 14 rfl) rfl ?_
    refine ex_getRx ok_X8_noteVoter (mi 15 rfl) rfl rfl (fk (INV_8 J10 ha).1 0 rfl) (fr (INV_8 J10 ha).1 0 rfl) (fk (INV_8 J10 ha).1 1 rfl) (by decide) ?_
    refine ex_iload_n ok_X8_noteVoter (mi 16 rfl) rfl ?_
    refine sf_iald ok_X8_noteVoter (mi 17 rfl) (fk (INV_8 J10 ha).1 1 rfl) (fn (INV_8 J10 ha).1 1 rfl) (hfv5 h4) (fun v11 => ?_)
    refine ex_iconst ok_X8_noteVoter (mi 18 rfl) ?_
    refine ex_icmp_ne (tgt := 73) ok_X8_noteVoter (mi 19 rfl) rfl (fun h27 => ?_) (fun h27 => ?_)
    · skip
      refine ex_vret ok_X8_noteVoter (mi 45 rfl) rfl ?_
      exact ⟨_, rfl, rfl, J10⟩
    · skip
      refine ex_aload_n ok_X8_noteVoter (mi 20 rfl) rfl ?_
      refine ex_getRx ok_X8_noteVoter (mi 21 rfl) rfl rfl (fk (INV_8 J10 ha).1 0 rfl) (fr (INV_8 J10 ha).1 2 rfl) (fk (INV_8 J10 ha).1 3 rfl) (by decide) ?_
      refine ex_iload_n ok_X8_noteVoter (mi 22 rfl) rfl ?_
      refine sf_iald ok_X8_noteVoter (mi 23 rfl) (fk (INV_8 J10 ha).1 3 rfl) (fn (INV_8 J10 ha).1 3 rfl) (hfv5 h4) (fun v12 => ?_)
      refine ex_iload_n ok_X8_noteVoter (mi 24 rfl) rfl ?_
      refine sf_SNp (As := [_, _]) ok_X8_noteVoter (mi 25 rfl) rfl (s_X11_isMajority hst J10) rfl (List.mem_of_getElem? (i := 5) rfl) rfl rfl (by decide) (Nat.le_of_ble_eq_true rfl) (by decide) (fun z13 p15 => ?_)
      obtain ⟨v17, rfl, hbv17⟩ := p15
      refine ex_if_eq (tgt := 73) ok_X8_noteVoter (mi 26 rfl) rfl (fun h40 => ?_) (fun h40 => ?_)
      · skip
        refine ex_vret ok_X8_noteVoter (mi 45 rfl) rfl ?_
        exact ⟨_, rfl, rfl, J10⟩
      · skip
        refine ex_aload_n ok_X8_noteVoter (mi 27 rfl) rfl ?_
        refine ex_getRx ok_X8_noteVoter (mi 28 rfl) rfl rfl (fk (INV_8 J10 ha).1 0 rfl) (fr (INV_8 J10 ha).1 0 rfl) (fk (INV_8 J10 ha).1 1 rfl) (by decide) ?_
        refine ex_iload_n ok_X8_noteVoter (mi 29 rfl) rfl ?_
        refine ex_iconst ok_X8_noteVoter (mi 30 rfl) ?_
        refine sf_iast J10 ok_X8_noteVoter (mi 31 rfl) (fk (INV_8 J10 ha).1 1 rfl) (fn (INV_8 J10 ha).1 1 rfl) (hfv5 h4) (SLR_ne ha 1 (by decide)) (fun g18 J19 => ?_)
        refine ex_aload_n ok_X8_noteVoter (mi 32 rfl) rfl ?_
        refine ex_getRx ok_X8_noteVoter (mi 33 rfl) rfl rfl (fk (INV_8 J19 ha).1 0 rfl) (INV_8 J19 ha).2 (fk J19.1 1 rfl) (by decide) ?_
        refine ex_bipush ok_X8_noteVoter (mi 34 rfl) ?_
        refine ex_aload_n ok_X8_noteVoter (mi 35 rfl) rfl ?_
        refine sf_getI ok_X8_noteVoter (mi 36 rfl) rfl rfl (fk (INV_8 J19 ha).1 0 rfl) (fun v20 => ?_)
        refine ex_bipush ok_X8_noteVoter (mi 37 rfl) ?_
        refine ex_iload_n ok_X8_noteVoter (mi 38 rfl) rfl ?_
        refine ex_aload_n ok_X8_noteVoter (mi 39 rfl) rfl ?_
        refine ex_getRx ok_X8_noteVoter (mi 40 rfl) rfl rfl (fk (INV_8 J19 ha).1 0 rfl) (fr (INV_8 J19 ha).1 1 rfl) (fk (INV_8 J19 ha).1 2 rfl) (by decide) ?_
        refine ex_iload_n ok_X8_noteVoter (mi 41 rfl) rfl ?_
        refine sf_iald ok_X8_noteVoter (mi 42 rfl) (fk (INV_8 J19 ha).1 2 rfl) (fn (INV_8 J19 ha).1 2 rfl) (hfv5 h4) (fun v21 => ?_)
        refine ex_iconst ok_X8_noteVoter (mi 43 rfl) ?_
        refine sf_V (As := [_, _, _, _, _, _]) ok_X8_noteVoter (mi 44 rfl) rfl (s_X0_sendEach hst J19) rfl (fk J19.1 1 rfl) rfl rfl (by decide) (by decide) (Nat.le_of_ble_eq_true rfl) (by decide) (fun z22 g23 p24 J25 => ?_)
        obtain rfl : z22 = none := p24
        refine ex_vret ok_X8_noteVoter (mi 45 rfl) rfl ?_
        exact ⟨_, rfl, rfl, J25⟩
  · skip
    refine ex_vret ok_X8_noteVoter (mi 3 rfl) rfl ?_
    exact ⟨_, rfl, rfl, I⟩
theorem s_X8_noteCopy {G : GE} (hst : (ge_l G).stackTraces = false) {x : Nat} {U : UT} {g : GT} (I : INV x U g) {a : Nat} (ha : SLR x a) {p0 : Int32} {p1 : Int32} {p2 : Int32} : ex_M G 3 0 0 my_X8_noteCopy [.ref a, .int p0, .int p1, .int p2] g (SV x U pN) := by
  refine ex_M_of ok_X8_noteCopy cw_X8_noteCopy rfl hst (Nat.le_of_ble_eq_true rfl) ?_
  refine ex_iload_n ok_X8_noteCopy (mi 0 rfl) rfl ?_
  refine sf_SNp (As := [_]) ok_X8_noteCopy (mi 1 rfl) rfl (s_X11_isSlot hst I) rfl (List.mem_of_getElem? (i := 2) rfl) rfl rfl (by decide) (Nat.le_of_ble_eq_true rfl) (by decide) (fun z1 p3 => ?_)
  obtain ⟨v5, rfl, hbv5, hfv5⟩ := p3
  refine ex_if_eq (tgt := 25) ok_X8_noteCopy (mi 2 rfl) rfl (fun h4 => ?_) (fun h4 => ?_)
  · skip
    refine ex_vret ok_X8_noteCopy (mi 13 rfl) rfl ?_
    exact ⟨_, rfl, rfl, I⟩
  · skip
    refine ex_aload_n ok_X8_noteCopy (mi 3 rfl) rfl ?_
    refine ex_iload_n ok_X8_noteCopy (mi 4 rfl) rfl ?_
    refine sf_Vp (As := [_]) ok_X8_noteCopy (mi 5 rfl) rfl (s_X8_isChosen hst I ha (hfv5 h4)) rfl (fk (INV_8 I ha).1 0 rfl) rfl rfl (by decide) (by decide) (Nat.le_of_ble_eq_true rfl) (by decide) (fun z6 p8 => ?_)
    obtain ⟨v10, rfl, hbv10⟩ := p8
    refine ex_if_eq (tgt := 25) ok_X8_noteCopy (mi 6 rfl) rfl (fun h12 => ?_) (fun h12 => ?_)
    · skip
      refine ex_vret ok_X8_noteCopy (mi 13 rfl) rfl ?_
      exact ⟨_, rfl, rfl, I⟩
    · skip
      refine ex_aload_n ok_X8_noteCopy (mi 7 rfl) rfl ?_
      refine ex_getRx ok_X8_noteCopy (mi 8 rfl) rfl rfl (fk (INV_8 I ha).1 0 rfl) (fr (INV_8 I ha).1 1 rfl) (fk (INV_8 I ha).1 2 rfl) (by decide) ?_
      refine ex_iload_n ok_X8_noteCopy (mi 9 rfl) rfl ?_
      refine sf_iald ok_X8_noteCopy (mi 10 rfl) (fk (INV_8 I ha).1 2 rfl) (fn (INV_8 I ha).1 2 rfl) (hfv5 h4) (fun v11 => ?_)
      refine ex_iload_n ok_X8_noteCopy (mi 11 rfl) rfl ?_
      refine ex_icmp_eq (tgt := 26) ok_X8_noteCopy (mi 12 rfl) rfl (fun h22 => ?_) (fun h22 => ?_)
      · skip
        refine ex_aload_n ok_X8_noteCopy (mi 14 rfl) rfl ?_
        refine ex_getRx ok_X8_noteCopy (mi 15 rfl) rfl rfl (fk (INV_8 I ha).1 0 rfl) (fr (INV_8 I ha).1 3 rfl) (fk (INV_8 I ha).1 4 rfl) (by decide) ?_
        refine ex_iload_n ok_X8_noteCopy (mi 16 rfl) rfl ?_
        refine ex_dup2 ok_X8_noteCopy (mi 17 rfl) rfl rfl ?_
        refine sf_iald ok_X8_noteCopy (mi 18 rfl) (fk (INV_8 I ha).1 4 rfl) (fn (INV_8 I ha).1 4 rfl) (hfv5 h4) (fun v12 => ?_)
        refine ex_iconst ok_X8_noteCopy (mi 19 rfl) ?_
        refine ex_iload_n ok_X8_noteCopy (mi 20 rfl) rfl ?_
        refine ex_ishl ok_X8_noteCopy (mi 21 rfl) ?_
        refine ex_gen (fun w13 => ?_)
        refine ex_ior ok_X8_noteCopy (mi 22 rfl) ?_
        refine ex_gen (fun w14 => ?_)
        refine sf_iast I ok_X8_noteCopy (mi 23 rfl) (fk (INV_8 I ha).1 4 rfl) (fn (INV_8 I ha).1 4 rfl) (hfv5 h4) (SLR_ne ha 4 (by decide)) (fun g15 J16 => ?_)
        refine ex_aload_n ok_X8_noteCopy (mi 24 rfl) rfl ?_
        refine ex_getRx ok_X8_noteCopy (mi 25 rfl) rfl rfl (fk (INV_8 J16 ha).1 0 rfl) (fr (INV_8 J16 ha).1 3 rfl) (fk (INV_8 J16 ha).1 4 rfl) (by decide) ?_
        refine ex_iload_n ok_X8_noteCopy (mi 26 rfl) rfl ?_
        refine sf_iald ok_X8_noteCopy (mi 27 rfl) (fk (INV_8 J16 ha).1 4 rfl) (fn (INV_8 J16 ha).1 4 rfl) (hfv5 h4) (fun v17 => ?_)
        refine sf_SNp (As := [_]) ok_X8_noteCopy (mi 28 rfl) rfl (s_X11_areTwo hst J16) rfl (List.mem_of_getElem? (i := 6) rfl) rfl rfl (by decide) (Nat.le_of_ble_eq_true rfl) (by decide) (fun z18 p20 => ?_)
        obtain ⟨v22, rfl, hbv22⟩ := p20
        refine ex_if_eq (tgt := 57) ok_X8_noteCopy (mi 29 rfl) rfl (fun h47 => ?_) (fun h47 => ?_)
        · skip
          refine ex_vret ok_X8_noteCopy (mi 35 rfl) rfl ?_
          exact ⟨_, rfl, rfl, J16⟩
        · skip
          refine ex_aload_n ok_X8_noteCopy (mi 30 rfl) rfl ?_
          refine ex_getRx ok_X8_noteCopy (mi 31 rfl) rfl rfl (fk (INV_8 J16 ha).1 0 rfl) (fr (INV_8 J16 ha).1 0 rfl) (fk (INV_8 J16 ha).1 1 rfl) (by decide) ?_
          refine ex_iload_n ok_X8_noteCopy (mi 32 rfl) rfl ?_
          refine ex_iconst ok_X8_noteCopy (mi 33 rfl) ?_
          refine sf_iast J16 ok_X8_noteCopy (mi 34 rfl) (fk (INV_8 J16 ha).1 1 rfl) (fn (INV_8 J16 ha).1 1 rfl) (hfv5 h4) (SLR_ne ha 1 (by decide)) (fun g23 J24 => ?_)
          refine ex_vret ok_X8_noteCopy (mi 35 rfl) rfl ?_
          exact ⟨_, rfl, rfl, J24⟩
      · skip
        refine ex_vret ok_X8_noteCopy (mi 13 rfl) rfl ?_
        exact ⟨_, rfl, rfl, I⟩
theorem s_X8_areChosen {G : GE} (hst : (ge_l G).stackTraces = false) {x : Nat} {U : UT} {g : GT} (I : INV x U g) {a : Nat} (ha : SLR x a) {p0 : Int32} {p1 : Int32} : ex_M G 2 0 0 my_X8_areChosen [.ref a, .int p0, .int p1] g (SVp g pZ) := by
  refine ex_M_of ok_X8_areChosen cw_X8_areChosen rfl hst (Nat.le_of_ble_eq_true rfl) ?_
  refine ex_iconst ok_X8_areChosen (mi 0 rfl) ?_
  refine ex_istore_n ok_X8_areChosen (mi 1 rfl) ?_
  have lp2 : ∀ n2 k2 : Nat, k2 + n2 = 16 → ex_W G 2 0 0 M_X8_areChosen 2 [(0, .ref a), (1, .int p0), (2, .int p1), (3, .int (nI k2))] [] g (SVp g pZ) := by
    intro n2
    induction n2 with
    | zero =>
      intro k2 hk2 
      obtain rfl : k2 = 16 := by omega
      refine ex_iload_n ok_X8_areChosen (mi 2 rfl) rfl ?_
      refine ex_bipush ok_X8_areChosen (mi 3 rfl) ?_
      refine ex_icmp_ge (tgt := 34) ok_X8_areChosen (mi 4 rfl) rfl (fun _ => ?_) (fun hn => absurd (by decide) hn)
      refine ex_iconst ok_X8_areChosen (mi 19 rfl) ?_
      refine ex_zret ok_X8_areChosen (mi 20 rfl) rfl (by decide) ?_
      exact ⟨_, rfl, ⟨_, rfl, (by decide)⟩, rfl⟩
    | succ n2 ih2 =>
      intro k2 hk2 
      have hr2 : k2 < 16 := by omega
      refine ex_iload_n ok_X8_areChosen (mi 2 rfl) rfl ?_
      refine ex_bipush ok_X8_areChosen (mi 3 rfl) ?_
      refine ex_icmp_ge (tgt := 34) ok_X8_areChosen (mi 4 rfl) rfl (fun hn => absurd hn (nI_ge hr2 (by decide))) (fun _ => ?_)
      refine ex_iload_n ok_X8_areChosen (mi 5 rfl) rfl ?_
      refine ex_iload_n ok_X8_areChosen (mi 6 rfl) rfl ?_
      refine ex_icmp_lt (tgt := 28) ok_X8_areChosen (mi 7 rfl) rfl (fun h10 => ?_) (fun h10 => ?_)
      · skip
        refine ex_iincx (w := (nI (k2 + 1))) ok_X8_areChosen (mi 17 rfl) rfl (nI_1 _) ?_
        refine ex_goto (tgt := 2) ok_X8_areChosen (mi 18 rfl) rfl ?_
        exact ex_ls (ls' := [(0, .ref a), (1, .int p0), (2, .int p1), (3, .int (nI (k2 + 1)))]) ⟨rfl, rfl, rfl, rfl, trivial⟩ (ih2 (k2 + 1) (by omega) )
      · skip
        refine ex_iload_n ok_X8_areChosen (mi 8 rfl) rfl ?_
        refine ex_iload_n ok_X8_areChosen (mi 9 rfl) rfl ?_
        refine ex_icmp_ge (tgt := 28) ok_X8_areChosen (mi 10 rfl) rfl (fun h15 => ?_) (fun h15 => ?_)
        · skip
          refine ex_iincx (w := (nI (k2 + 1))) ok_X8_areChosen (mi 17 rfl) rfl (nI_1 _) ?_
          refine ex_goto (tgt := 2) ok_X8_areChosen (mi 18 rfl) rfl ?_
          exact ex_ls (ls' := [(0, .ref a), (1, .int p0), (2, .int p1), (3, .int (nI (k2 + 1)))]) ⟨rfl, rfl, rfl, rfl, trivial⟩ (ih2 (k2 + 1) (by omega) )
        · skip
          refine ex_aload_n ok_X8_areChosen (mi 11 rfl) rfl ?_
          refine ex_iload_n ok_X8_areChosen (mi 12 rfl) rfl ?_
          refine sf_Vp (As := [_]) ok_X8_areChosen (mi 13 rfl) rfl (s_X8_isChosen hst I ha (vp_in_nI (by omega) (by decide))) rfl (fk (INV_8 I ha).1 0 rfl) rfl rfl (by decide) (by decide) (Nat.le_of_ble_eq_true rfl) (by decide) (fun z3 p5 => ?_)
          obtain ⟨v7, rfl, hbv7⟩ := p5
          refine ex_if_ne (tgt := 28) ok_X8_areChosen (mi 14 rfl) rfl (fun h23 => ?_) (fun h23 => ?_)
          · skip
            refine ex_iincx (w := (nI (k2 + 1))) ok_X8_areChosen (mi 17 rfl) rfl (nI_1 _) ?_
            refine ex_goto (tgt := 2) ok_X8_areChosen (mi 18 rfl) rfl ?_
            exact ex_ls (ls' := [(0, .ref a), (1, .int p0), (2, .int p1), (3, .int (nI (k2 + 1)))]) ⟨rfl, rfl, rfl, rfl, trivial⟩ (ih2 (k2 + 1) (by omega) )
          · skip
            refine ex_iconst ok_X8_areChosen (mi 15 rfl) ?_
            refine ex_zret ok_X8_areChosen (mi 16 rfl) rfl (by decide) ?_
            exact ⟨_, rfl, ⟨_, rfl, (by decide)⟩, rfl⟩
  exact ex_ls (ls' := [(0, .ref a), (1, .int p0), (2, .int p1), (3, .int (nI 0))]) ⟨rfl, rfl, rfl, rfl, trivial⟩ (lp2 16 0 (by decide) )
theorem s_X8_firm {G : GE} (hst : (ge_l G).stackTraces = false) {x : Nat} {U : UT} {g : GT} (I : INV x U g) {a : Nat} (ha : SLR x a) : ex_M G 1 0 0 my_X8_firm [.ref a] g (SVp g pI) := by
  refine ex_M_of ok_X8_firm cw_X8_firm rfl hst (Nat.le_of_ble_eq_true rfl) ?_
  refine ex_iconst ok_X8_firm (mi 0 rfl) ?_
  refine ex_istore_n ok_X8_firm (mi 1 rfl) ?_
  have lp2 : ∀ n2 k2 : Nat, k2 + n2 = 16 → ex_W G 1 0 0 M_X8_firm 2 [(0, .ref a), (1, .int (nI k2))] [] g (SVp g pI) := by
    intro n2
    induction n2 with
    | zero =>
      intro k2 hk2 
      obtain rfl : k2 = 16 := by omega
      refine ex_iload_n ok_X8_firm (mi 2 rfl) rfl ?_
      refine ex_bipush ok_X8_firm (mi 3 rfl) ?_
      refine ex_icmp_ge (tgt := 36) ok_X8_firm (mi 4 rfl) rfl (fun _ => ?_) (fun hn => absurd (by decide) hn)
      refine ex_bipush ok_X8_firm (mi 21 rfl) ?_
      refine ex_iret ok_X8_firm (mi 22 rfl) rfl ?_
      exact ⟨_, rfl, ⟨_, rfl⟩, rfl⟩
    | succ n2 ih2 =>
      intro k2 hk2 
      have hr2 : k2 < 16 := by omega
      refine ex_iload_n ok_X8_firm (mi 2 rfl) rfl ?_
      refine ex_bipush ok_X8_firm (mi 3 rfl) ?_
      refine ex_icmp_ge (tgt := 36) ok_X8_firm (mi 4 rfl) rfl (fun hn => absurd hn (nI_ge hr2 (by decide))) (fun _ => ?_)
      refine ex_aload_n ok_X8_firm (mi 5 rfl) rfl ?_
      refine ex_getRx ok_X8_firm (mi 6 rfl) rfl rfl (fk (INV_8 I ha).1 0 rfl) (fr (INV_8 I ha).1 0 rfl) (fk (INV_8 I ha).1 1 rfl) (by decide) ?_
      refine ex_iload_n ok_X8_firm (mi 7 rfl) rfl ?_
      refine sf_iald ok_X8_firm (mi 8 rfl) (fk (INV_8 I ha).1 1 rfl) (fn (INV_8 I ha).1 1 rfl) (vp_in_nI (by omega) (by decide)) (fun v3 => ?_)
      refine ex_iconst ok_X8_firm (mi 9 rfl) ?_
      refine ex_icmp_eq (tgt := 30) ok_X8_firm (mi 10 rfl) rfl (fun h15 => ?_) (fun h15 => ?_)
      · skip
        refine ex_iincx (w := (nI (k2 + 1))) ok_X8_firm (mi 19 rfl) rfl (nI_1 _) ?_
        refine ex_goto (tgt := 2) ok_X8_firm (mi 20 rfl) rfl ?_
        exact ex_ls (ls' := [(0, .ref a), (1, .int (nI (k2 + 1)))]) ⟨rfl, rfl, trivial⟩ (ih2 (k2 + 1) (by omega) )
      · skip
        refine ex_aload_n ok_X8_firm (mi 11 rfl) rfl ?_
        refine ex_getRx ok_X8_firm (mi 12 rfl) rfl rfl (fk (INV_8 I ha).1 0 rfl) (fr (INV_8 I ha).1 0 rfl) (fk (INV_8 I ha).1 1 rfl) (by decide) ?_
        refine ex_iload_n ok_X8_firm (mi 13 rfl) rfl ?_
        refine sf_iald ok_X8_firm (mi 14 rfl) (fk (INV_8 I ha).1 1 rfl) (fn (INV_8 I ha).1 1 rfl) (vp_in_nI (by omega) (by decide)) (fun v4 => ?_)
        refine ex_iconst ok_X8_firm (mi 15 rfl) ?_
        refine ex_icmp_eq (tgt := 30) ok_X8_firm (mi 16 rfl) rfl (fun h25 => ?_) (fun h25 => ?_)
        · skip
          refine ex_iincx (w := (nI (k2 + 1))) ok_X8_firm (mi 19 rfl) rfl (nI_1 _) ?_
          refine ex_goto (tgt := 2) ok_X8_firm (mi 20 rfl) rfl ?_
          exact ex_ls (ls' := [(0, .ref a), (1, .int (nI (k2 + 1)))]) ⟨rfl, rfl, trivial⟩ (ih2 (k2 + 1) (by omega) )
        · skip
          refine ex_iload_n ok_X8_firm (mi 17 rfl) rfl ?_
          refine ex_iret ok_X8_firm (mi 18 rfl) rfl ?_
          exact ⟨_, rfl, ⟨_, rfl⟩, rfl⟩
  exact ex_ls (ls' := [(0, .ref a), (1, .int (nI 0))]) ⟨rfl, rfl, trivial⟩ (lp2 16 0 (by decide) )
theorem s_X8_sendAgain {G : GE} (hst : (ge_l G).stackTraces = false) {x : Nat} {U : UT} {g : GT} (I : INV x U g) {a : Nat} (ha : SLR x a) {p0 : Int32} {p1 : Int32} : ex_M G 3 0 0 my_X8_sendAgain [.ref a, .int p0, .int p1] g (SV x U pN) := by
  refine ex_M_of ok_X8_sendAgain cw_X8_sendAgain rfl hst (Nat.le_of_ble_eq_true rfl) ?_
  refine ex_iconst ok_X8_sendAgain (mi 0 rfl) ?_
  refine ex_istore_n ok_X8_sendAgain (mi 1 rfl) ?_
  have lp2 : ∀ n2 k2 : Nat, k2 + n2 = 16 → ∀ (g1 : GT), INV x U g1 → ex_W G 3 0 0 M_X8_sendAgain 2 [(0, .ref a), (1, .int p0), (2, .int p1), (3, .int (nI k2))] [] g1 (SV x U pN) := by
    intro n2
    induction n2 with
    | zero =>
      intro k2 hk2  g1 J2
      obtain rfl : k2 = 16 := by omega
      refine ex_iload_n ok_X8_sendAgain (mi 2 rfl) rfl ?_
      refine ex_bipush ok_X8_sendAgain (mi 3 rfl) ?_
      refine ex_icmp_ge (tgt := 99) ok_X8_sendAgain (mi 4 rfl) rfl (fun _ => ?_) (fun hn => absurd (by decide) hn)
      refine ex_vret ok_X8_sendAgain (mi 60 rfl) rfl ?_
      exact ⟨_, rfl, rfl, J2⟩
    | succ n2 ih2 =>
      intro k2 hk2  g1 J2
      have hr2 : k2 < 16 := by omega
      refine ex_iload_n ok_X8_sendAgain (mi 2 rfl) rfl ?_
      refine ex_bipush ok_X8_sendAgain (mi 3 rfl) ?_
      refine ex_icmp_ge (tgt := 99) ok_X8_sendAgain (mi 4 rfl) rfl (fun hn => absurd hn (nI_ge hr2 (by decide))) (fun _ => ?_)
      refine ex_aload_n ok_X8_sendAgain (mi 5 rfl) rfl ?_
      refine ex_getRx ok_X8_sendAgain (mi 6 rfl) rfl rfl (fk (INV_8 J2 ha).1 0 rfl) (fr (INV_8 J2 ha).1 0 rfl) (fk (INV_8 J2 ha).1 1 rfl) (by decide) ?_
      refine ex_iload_n ok_X8_sendAgain (mi 7 rfl) rfl ?_
      refine sf_iald ok_X8_sendAgain (mi 8 rfl) (fk (INV_8 J2 ha).1 1 rfl) (fn (INV_8 J2 ha).1 1 rfl) (vp_in_nI (by omega) (by decide)) (fun v3 => ?_)
      refine ex_iconst ok_X8_sendAgain (mi 9 rfl) ?_
      refine ex_icmp_ne (tgt := 51) ok_X8_sendAgain (mi 10 rfl) rfl (fun h15 => ?_) (fun h15 => ?_)
      · skip
        refine ex_aload_n ok_X8_sendAgain (mi 32 rfl) rfl ?_
        refine ex_getRx ok_X8_sendAgain (mi 33 rfl) rfl rfl (fk (INV_8 J2 ha).1 0 rfl) (fr (INV_8 J2 ha).1 0 rfl) (fk (INV_8 J2 ha).1 1 rfl) (by decide) ?_
        refine ex_iload_n ok_X8_sendAgain (mi 34 rfl) rfl ?_
        refine sf_iald ok_X8_sendAgain (mi 35 rfl) (fk (INV_8 J2 ha).1 1 rfl) (fn (INV_8 J2 ha).1 1 rfl) (vp_in_nI (by omega) (by decide)) (fun v4 => ?_)
        refine ex_iconst ok_X8_sendAgain (mi 36 rfl) ?_
        refine ex_icmp_ne (tgt := 93) ok_X8_sendAgain (mi 37 rfl) rfl (fun h58 => ?_) (fun h58 => ?_)
        · skip
          refine ex_iincx (w := (nI (k2 + 1))) ok_X8_sendAgain (mi 58 rfl) rfl (nI_1 _) ?_
          refine ex_goto (tgt := 2) ok_X8_sendAgain (mi 59 rfl) rfl ?_
          exact ex_ls (ls' := [(0, .ref a), (1, .int p0), (2, .int p1), (3, .int (nI (k2 + 1)))]) ⟨rfl, rfl, rfl, rfl, trivial⟩ (ih2 (k2 + 1) (by omega) g1 J2)
        · skip
          refine ex_aload_n ok_X8_sendAgain (mi 38 rfl) rfl ?_
          refine ex_getRx ok_X8_sendAgain (mi 39 rfl) rfl rfl (fk (INV_8 J2 ha).1 0 rfl) (INV_8 J2 ha).2 (fk J2.1 1 rfl) (by decide) ?_
          refine ex_bipush ok_X8_sendAgain (mi 40 rfl) ?_
          refine ex_aload_n ok_X8_sendAgain (mi 41 rfl) rfl ?_
          refine sf_getI ok_X8_sendAgain (mi 42 rfl) rfl rfl (fk (INV_8 J2 ha).1 0 rfl) (fun v5 => ?_)
          refine ex_bipush ok_X8_sendAgain (mi 43 rfl) ?_
          refine ex_aload_n ok_X8_sendAgain (mi 44 rfl) rfl ?_
          refine ex_getRx ok_X8_sendAgain (mi 45 rfl) rfl rfl (fk (INV_8 J2 ha).1 0 rfl) (fr (INV_8 J2 ha).1 3 rfl) (fk (INV_8 J2 ha).1 4 rfl) (by decide) ?_
          refine ex_iload_n ok_X8_sendAgain (mi 46 rfl) rfl ?_
          refine sf_iald ok_X8_sendAgain (mi 47 rfl) (fk (INV_8 J2 ha).1 4 rfl) (fn (INV_8 J2 ha).1 4 rfl) (vp_in_nI (by omega) (by decide)) (fun v6 => ?_)
          refine ex_iconst ok_X8_sendAgain (mi 48 rfl) ?_
          refine ex_ixor ok_X8_sendAgain (mi 49 rfl) ?_
          refine ex_gen (fun w7 => ?_)
          refine ex_iand ok_X8_sendAgain (mi 50 rfl) ?_
          refine ex_gen (fun w8 => ?_)
          refine ex_iload_n ok_X8_sendAgain (mi 51 rfl) rfl ?_
          refine ex_aload_n ok_X8_sendAgain (mi 52 rfl) rfl ?_
          refine ex_getRx ok_X8_sendAgain (mi 53 rfl) rfl rfl (fk (INV_8 J2 ha).1 0 rfl) (fr (INV_8 J2 ha).1 1 rfl) (fk (INV_8 J2 ha).1 2 rfl) (by decide) ?_
          refine ex_iload_n ok_X8_sendAgain (mi 54 rfl) rfl ?_
          refine sf_iald ok_X8_sendAgain (mi 55 rfl) (fk (INV_8 J2 ha).1 2 rfl) (fn (INV_8 J2 ha).1 2 rfl) (vp_in_nI (by omega) (by decide)) (fun v9 => ?_)
          refine ex_iconst ok_X8_sendAgain (mi 56 rfl) ?_
          refine sf_V (As := [_, _, _, _, _, _]) ok_X8_sendAgain (mi 57 rfl) rfl (s_X0_sendEach hst J2) rfl (fk J2.1 1 rfl) rfl rfl (by decide) (by decide) (Nat.le_of_ble_eq_true rfl) (by decide) (fun z10 g11 p12 J13 => ?_)
          obtain rfl : z10 = none := p12
          refine ex_iincx (w := (nI (k2 + 1))) ok_X8_sendAgain (mi 58 rfl) rfl (nI_1 _) ?_
          refine ex_goto (tgt := 2) ok_X8_sendAgain (mi 59 rfl) rfl ?_
          exact ex_ls (ls' := [(0, .ref a), (1, .int p0), (2, .int p1), (3, .int (nI (k2 + 1)))]) ⟨rfl, rfl, rfl, rfl, trivial⟩ (ih2 (k2 + 1) (by omega) g11 J13)
      · skip
        refine ex_aload_n ok_X8_sendAgain (mi 11 rfl) rfl ?_
        refine ex_getRx ok_X8_sendAgain (mi 12 rfl) rfl rfl (fk (INV_8 J2 ha).1 0 rfl) (INV_8 J2 ha).2 (fk J2.1 1 rfl) (by decide) ?_
        refine ex_iconst ok_X8_sendAgain (mi 13 rfl) ?_
        refine ex_aload_n ok_X8_sendAgain (mi 14 rfl) rfl ?_
        refine sf_getI ok_X8_sendAgain (mi 15 rfl) rfl rfl (fk (INV_8 J2 ha).1 0 rfl) (fun v14 => ?_)
        refine ex_iload_n ok_X8_sendAgain (mi 16 rfl) rfl ?_
        refine ex_aload_n ok_X8_sendAgain (mi 17 rfl) rfl ?_
        refine ex_getRx ok_X8_sendAgain (mi 18 rfl) rfl rfl (fk (INV_8 J2 ha).1 0 rfl) (fr (INV_8 J2 ha).1 2 rfl) (fk (INV_8 J2 ha).1 3 rfl) (by decide) ?_
        refine ex_iload_n ok_X8_sendAgain (mi 19 rfl) rfl ?_
        refine sf_iald ok_X8_sendAgain (mi 20 rfl) (fk (INV_8 J2 ha).1 3 rfl) (fn (INV_8 J2 ha).1 3 rfl) (vp_in_nI (by omega) (by decide)) (fun v15 => ?_)
        refine ex_iconst ok_X8_sendAgain (mi 21 rfl) ?_
        refine ex_ixor ok_X8_sendAgain (mi 22 rfl) ?_
        refine ex_gen (fun w16 => ?_)
        refine ex_iand ok_X8_sendAgain (mi 23 rfl) ?_
        refine ex_gen (fun w17 => ?_)
        refine ex_iload_n ok_X8_sendAgain (mi 24 rfl) rfl ?_
        refine ex_iload_n ok_X8_sendAgain (mi 25 rfl) rfl ?_
        refine ex_aload_n ok_X8_sendAgain (mi 26 rfl) rfl ?_
        refine ex_getRx ok_X8_sendAgain (mi 27 rfl) rfl rfl (fk (INV_8 J2 ha).1 0 rfl) (fr (INV_8 J2 ha).1 1 rfl) (fk (INV_8 J2 ha).1 2 rfl) (by decide) ?_
        refine ex_iload_n ok_X8_sendAgain (mi 28 rfl) rfl ?_
        refine sf_iald ok_X8_sendAgain (mi 29 rfl) (fk (INV_8 J2 ha).1 2 rfl) (fn (INV_8 J2 ha).1 2 rfl) (vp_in_nI (by omega) (by decide)) (fun v18 => ?_)
        refine sf_V (As := [_, _, _, _, _, _]) ok_X8_sendAgain (mi 30 rfl) rfl (s_X0_sendEach hst J2) rfl (fk J2.1 1 rfl) rfl rfl (by decide) (by decide) (Nat.le_of_ble_eq_true rfl) (by decide) (fun z19 g20 p21 J22 => ?_)
        obtain rfl : z19 = none := p21
        refine ex_goto (tgt := 93) ok_X8_sendAgain (mi 31 rfl) rfl ?_
        refine ex_iincx (w := (nI (k2 + 1))) ok_X8_sendAgain (mi 58 rfl) rfl (nI_1 _) ?_
        refine ex_goto (tgt := 2) ok_X8_sendAgain (mi 59 rfl) rfl ?_
        exact ex_ls (ls' := [(0, .ref a), (1, .int p0), (2, .int p1), (3, .int (nI (k2 + 1)))]) ⟨rfl, rfl, rfl, rfl, trivial⟩ (ih2 (k2 + 1) (by omega) g20 J22)
  exact ex_ls (ls' := [(0, .ref a), (1, .int p0), (2, .int p1), (3, .int (nI 0))]) ⟨rfl, rfl, rfl, rfl, trivial⟩ (lp2 16 0 (by decide) g I)
theorem s_X8_tell {G : GE} (hst : (ge_l G).stackTraces = false) {x : Nat} {U : UT} {g : GT} (I : INV x U g) {a : Nat} (ha : SLR x a) {p0 : Int32} {p1 : Int32} : ex_M G 2 0 0 my_X8_tell [.ref a, .int p0, .int p1] g (SVp g pI) := by
  refine ex_M_of ok_X8_tell cw_X8_tell rfl hst (Nat.le_of_ble_eq_true rfl) ?_
  refine ex_iload_n ok_X8_tell (mi 0 rfl) rfl ?_
  refine sf_SNp (As := [_]) ok_X8_tell (mi 1 rfl) rfl (s_X11_isSlot hst I) rfl (List.mem_of_getElem? (i := 2) rfl) rfl rfl (by decide) (Nat.le_of_ble_eq_true rfl) (by decide) (fun z1 p3 => ?_)
  obtain ⟨v5, rfl, hbv5, hfv5⟩ := p3
  refine ex_if_ne (tgt := 9) ok_X8_tell (mi 2 rfl) rfl (fun h4 => ?_) (fun h4 => ?_)
  · skip
    refine ex_iload_n ok_X8_tell (mi 5 rfl) rfl ?_
    refine sf_table [36, 43, 50, 57] ok_X8_tell (mi 6 rfl) (by decide) (by decide) (fun t ht => ?_)
    simp only [List.mem_cons, List.not_mem_nil, or_false] at ht
    rcases ht with rfl | rfl | rfl | rfl
    · skip
      refine ex_aload_n ok_X8_tell (mi 7 rfl) rfl ?_
      refine ex_getRx ok_X8_tell (mi 8 rfl) rfl rfl (fk (INV_8 I ha).1 0 rfl) (fr (INV_8 I ha).1 0 rfl) (fk (INV_8 I ha).1 1 rfl) (by decide) ?_
      refine ex_iload_n ok_X8_tell (mi 9 rfl) rfl ?_
      refine sf_iald ok_X8_tell (mi 10 rfl) (fk (INV_8 I ha).1 1 rfl) (fn (INV_8 I ha).1 1 rfl) (hfv5 h4) (fun v6 => ?_)
      refine ex_iret ok_X8_tell (mi 11 rfl) rfl ?_
      exact ⟨_, rfl, ⟨_, rfl⟩, rfl⟩
    · skip
      refine ex_aload_n ok_X8_tell (mi 12 rfl) rfl ?_
      refine ex_getRx ok_X8_tell (mi 13 rfl) rfl rfl (fk (INV_8 I ha).1 0 rfl) (fr (INV_8 I ha).1 1 rfl) (fk (INV_8 I ha).1 2 rfl) (by decide) ?_
      refine ex_iload_n ok_X8_tell (mi 14 rfl) rfl ?_
      refine sf_iald ok_X8_tell (mi 15 rfl) (fk (INV_8 I ha).1 2 rfl) (fn (INV_8 I ha).1 2 rfl) (hfv5 h4) (fun v7 => ?_)
      refine ex_iret ok_X8_tell (mi 16 rfl) rfl ?_
      exact ⟨_, rfl, ⟨_, rfl⟩, rfl⟩
    · skip
      refine ex_aload_n ok_X8_tell (mi 17 rfl) rfl ?_
      refine ex_getRx ok_X8_tell (mi 18 rfl) rfl rfl (fk (INV_8 I ha).1 0 rfl) (fr (INV_8 I ha).1 2 rfl) (fk (INV_8 I ha).1 3 rfl) (by decide) ?_
      refine ex_iload_n ok_X8_tell (mi 19 rfl) rfl ?_
      refine sf_iald ok_X8_tell (mi 20 rfl) (fk (INV_8 I ha).1 3 rfl) (fn (INV_8 I ha).1 3 rfl) (hfv5 h4) (fun v8 => ?_)
      refine ex_iret ok_X8_tell (mi 21 rfl) rfl ?_
      exact ⟨_, rfl, ⟨_, rfl⟩, rfl⟩
    · skip
      refine ex_aload_n ok_X8_tell (mi 22 rfl) rfl ?_
      refine ex_getRx ok_X8_tell (mi 23 rfl) rfl rfl (fk (INV_8 I ha).1 0 rfl) (fr (INV_8 I ha).1 3 rfl) (fk (INV_8 I ha).1 4 rfl) (by decide) ?_
      refine ex_iload_n ok_X8_tell (mi 24 rfl) rfl ?_
      refine sf_iald ok_X8_tell (mi 25 rfl) (fk (INV_8 I ha).1 4 rfl) (fn (INV_8 I ha).1 4 rfl) (hfv5 h4) (fun v9 => ?_)
      refine ex_iret ok_X8_tell (mi 26 rfl) rfl ?_
      exact ⟨_, rfl, ⟨_, rfl⟩, rfl⟩
  · skip
    refine ex_iconst ok_X8_tell (mi 3 rfl) ?_
    refine ex_iret ok_X8_tell (mi 4 rfl) rfl ?_
    exact ⟨_, rfl, ⟨_, rfl⟩, rfl⟩
