/-! ===== the model's pure methods ===== -/
theorem bt_lt {l : Int32} (h : ¬ l = 0) : (l &&& (l - Int32.ofInt 1)).toBitVec.toNat < l.toBitVec.toNat := by
  have e : Int32.ofInt 1 = 1 := by decide
  rw [e, Int32.toBitVec_and, BitVec.toNat_and]
  have hp : 0 < l.toBitVec.toNat := Nat.pos_of_ne_zero (fun k => h (Int32.toBitVec_inj.mp (BitVec.eq_of_toNat_eq (by rw [k]; rfl))))
  have hs : (l - 1).toBitVec.toNat = l.toBitVec.toNat - 1 := by
    rw [Int32.toBitVec_sub]
    have h1 : (1 : Int32).toBitVec = 1#32 := rfl
    rw [h1, BitVec.toNat_sub]
    have := l.toBitVec.isLt
    simp only [BitVec.toNat_ofNat]
    omega
  rw [hs]
  exact Nat.lt_of_le_of_lt Nat.and_le_right (by omega)
theorem s_X12_bits {G : GE} (hst : (ge_l G).stackTraces = false) {x : Nat} {g : GT} (I : sh T12 g x) {p0 : Int32} : ex_M G 1 0 0 my_X12_bits [.int p0] g (SVp g pI) := by
  refine ex_M_of ok_X12_bits cw_X12_bits rfl hst (Nat.le_of_ble_eq_true rfl) ?_
  refine ex_iconst ok_X12_bits (mi 0 rfl) ?_
  refine ex_istore_n ok_X12_bits (mi 1 rfl) ?_
  refine ex_iload_n ok_X12_bits (mi 2 rfl) rfl ?_
  refine ex_istore_n ok_X12_bits (mi 3 rfl) ?_
  have lp : ∀ (N : Nat) (c l : Int32), l.toBitVec.toNat < N → ex_W G 1 0 0 M_X12_bits 4 [(0, .int p0), (1, .int c), (2, .int l)] [] g (SVp g pI) := by
    intro N
    induction N with
    | zero => intro c l hl; exact absurd hl (Nat.not_lt_zero _)
    | succ N ih =>
      intro c l hl
      refine ex_iload_n ok_X12_bits (mi 4 rfl) rfl ?_
      refine ex_if_eq (tgt := 20) ok_X12_bits (mi 5 rfl) rfl (fun h5 => ?_) (fun h5 => ?_)
      · refine ex_iload_n ok_X12_bits (mi 14 rfl) rfl ?_
        refine ex_iret ok_X12_bits (mi 15 rfl) rfl ?_
        exact ⟨_, rfl, ⟨_, rfl⟩, rfl⟩
      · refine ex_iinc ok_X12_bits (mi 6 rfl) rfl ?_
        refine ex_iload_n ok_X12_bits (mi 7 rfl) rfl ?_
        refine ex_iload_n ok_X12_bits (mi 8 rfl) rfl ?_
        refine ex_iconst ok_X12_bits (mi 9 rfl) ?_
        refine ex_isub ok_X12_bits (mi 10 rfl) ?_
        refine ex_iand ok_X12_bits (mi 11 rfl) ?_
        refine ex_istore_n ok_X12_bits (mi 12 rfl) ?_
        refine ex_goto (tgt := 4) ok_X12_bits (mi 13 rfl) rfl ?_
        exact ex_ls (ls' := [(0, .int p0), (1, .int (c + Int32.ofInt 1)), (2, .int (l &&& (l - Int32.ofInt 1)))]) ⟨rfl, rfl, rfl, trivial⟩ (ih _ _ (by have := bt_lt h5; omega))
  exact ex_ls (ls' := [(0, .int p0), (1, .int (Int32.ofInt 0)), (2, .int p0)]) ⟨rfl, rfl, rfl, trivial⟩ (lp _ _ _ (Nat.lt_succ_self _))
theorem s_X12_in {G : GE} (hst : (ge_l G).stackTraces = false) {x : Nat} {g : GT} (I : sh T12 g x) {p0 : Int32} {p1 : Int32} {p2 : Int32} : ex_M G 1 0 0 my_X12_in [.int p0, .int p1, .int p2] g (SVp g pZ) := by
  refine ex_M_of ok_X12_in cw_X12_in rfl hst (Nat.le_of_ble_eq_true rfl) ?_
  refine ex_iload_n ok_X12_in (mi 0 rfl) rfl ?_
  refine ex_iload_n ok_X12_in (mi 1 rfl) rfl ?_
  refine ex_icmp_lt (tgt := 14) ok_X12_in (mi 2 rfl) rfl (fun h2 => ?_) (fun h2 => ?_)
  · skip
    refine ex_iconst ok_X12_in (mi 8 rfl) ?_
    refine ex_zret ok_X12_in (mi 9 rfl) rfl (by decide) ?_
    exact ⟨_, rfl, ⟨_, rfl, (by decide)⟩, rfl⟩
  · skip
    refine ex_iload_n ok_X12_in (mi 3 rfl) rfl ?_
    refine ex_iload_n ok_X12_in (mi 4 rfl) rfl ?_
    refine ex_icmp_gt (tgt := 14) ok_X12_in (mi 5 rfl) rfl (fun h7 => ?_) (fun h7 => ?_)
    · skip
      refine ex_iconst ok_X12_in (mi 8 rfl) ?_
      refine ex_zret ok_X12_in (mi 9 rfl) rfl (by decide) ?_
      exact ⟨_, rfl, ⟨_, rfl, (by decide)⟩, rfl⟩
    · skip
      refine ex_iconst ok_X12_in (mi 6 rfl) ?_
      refine ex_goto (tgt := 15) ok_X12_in (mi 7 rfl) rfl ?_
      refine ex_zret ok_X12_in (mi 9 rfl) rfl (by decide) ?_
      exact ⟨_, rfl, ⟨_, rfl, (by decide)⟩, rfl⟩
theorem s_X12_has {G : GE} (hst : (ge_l G).stackTraces = false) {x : Nat} {g : GT} (I : sh T12 g x) {p0 : Int32} {p1 : Int32} : ex_M G 1 0 0 my_X12_has [.int p0, .int p1] g (SVp g pZ) := by
  refine ex_M_of ok_X12_has cw_X12_has rfl hst (Nat.le_of_ble_eq_true rfl) ?_
  refine ex_iload_n ok_X12_has (mi 0 rfl) rfl ?_
  refine ex_iload_n ok_X12_has (mi 1 rfl) rfl ?_
  refine ex_ishr ok_X12_has (mi 2 rfl) ?_
  refine ex_gen (fun w1 => ?_)
  refine ex_iconst ok_X12_has (mi 3 rfl) ?_
  refine ex_iand ok_X12_has (mi 4 rfl) ?_
  refine ex_gen (fun w2 => ?_)
  refine ex_iconst ok_X12_has (mi 5 rfl) ?_
  refine ex_icmp_ne (tgt := 13) ok_X12_has (mi 6 rfl) rfl (fun h6 => ?_) (fun h6 => ?_)
  · skip
    refine ex_iconst ok_X12_has (mi 9 rfl) ?_
    refine ex_zret ok_X12_has (mi 10 rfl) rfl (by decide) ?_
    exact ⟨_, rfl, ⟨_, rfl, (by decide)⟩, rfl⟩
  · skip
    refine ex_iconst ok_X12_has (mi 7 rfl) ?_
    refine ex_goto (tgt := 14) ok_X12_has (mi 8 rfl) rfl ?_
    refine ex_zret ok_X12_has (mi 10 rfl) rfl (by decide) ?_
    exact ⟨_, rfl, ⟨_, rfl, (by decide)⟩, rfl⟩
theorem s_X12_isMajority {G : GE} (hst : (ge_l G).stackTraces = false) {x : Nat} {g : GT} (I : sh T12 g x) {p0 : Int32} {p1 : Int32} : ex_M G 2 0 0 my_X12_isMajority [.int p0, .int p1] g (SVp g pZ) := by
  refine ex_M_of ok_X12_isMajority cw_X12_isMajority rfl hst (Nat.le_of_ble_eq_true rfl) ?_
  refine ex_iconst ok_X12_isMajority (mi 0 rfl) ?_
  refine ex_iload_n ok_X12_isMajority (mi 1 rfl) rfl ?_
  refine ex_iload_n ok_X12_isMajority (mi 2 rfl) rfl ?_
  refine ex_iand ok_X12_isMajority (mi 3 rfl) ?_
  refine ex_gen (fun w1 => ?_)
  refine sf_Sp (As := [_]) ok_X12_isMajority (mi 4 rfl) rfl (s_X12_bits hst I) rfl rfl rfl (by decide) (Nat.le_of_ble_eq_true rfl) (by decide) (fun z2 p4 => ?_)
  obtain ⟨v6, rfl⟩ := p4
  refine ex_imul ok_X12_isMajority (mi 5 rfl) ?_
  refine ex_gen (fun w7 => ?_)
  refine ex_iload_n ok_X12_isMajority (mi 6 rfl) rfl ?_
  refine sf_Sp (As := [_]) ok_X12_isMajority (mi 7 rfl) rfl (s_X12_bits hst I) rfl rfl rfl (by decide) (Nat.le_of_ble_eq_true rfl) (by decide) (fun z8 p10 => ?_)
  obtain ⟨v12, rfl⟩ := p10
  refine ex_icmp_le (tgt := 19) ok_X12_isMajority (mi 8 rfl) rfl (fun h12 => ?_) (fun h12 => ?_)
  · skip
    refine ex_iconst ok_X12_isMajority (mi 11 rfl) ?_
    refine ex_zret ok_X12_isMajority (mi 12 rfl) rfl (by decide) ?_
    exact ⟨_, rfl, ⟨_, rfl, (by decide)⟩, rfl⟩
  · skip
    refine ex_iconst ok_X12_isMajority (mi 9 rfl) ?_
    refine ex_goto (tgt := 20) ok_X12_isMajority (mi 10 rfl) rfl ?_
    refine ex_zret ok_X12_isMajority (mi 12 rfl) rfl (by decide) ?_
    exact ⟨_, rfl, ⟨_, rfl, (by decide)⟩, rfl⟩
theorem s_X12_sortOf {G : GE} (hst : (ge_l G).stackTraces = false) {x : Nat} {g : GT} (I : sh T12 g x) {p0 : Int32} : ex_M G 1 0 0 my_X12_sortOf [.int p0] g (SVp g pI) := by
  refine ex_M_of ok_X12_sortOf cw_X12_sortOf rfl hst (Nat.le_of_ble_eq_true rfl) ?_
  refine ex_iload_n ok_X12_sortOf (mi 0 rfl) rfl ?_
  refine sf_table [104, 106, 108, 110] ok_X12_sortOf (mi 1 rfl) (by decide) (by decide) (fun t ht => ?_)
  simp only [List.mem_cons, List.not_mem_nil, or_false] at ht
  rcases ht with rfl | rfl | rfl | rfl
  · skip
    refine ex_iconst ok_X12_sortOf (mi 2 rfl) ?_
    refine ex_iret ok_X12_sortOf (mi 3 rfl) rfl ?_
    exact ⟨_, rfl, ⟨_, rfl⟩, rfl⟩
  · skip
    refine ex_iconst ok_X12_sortOf (mi 4 rfl) ?_
    refine ex_iret ok_X12_sortOf (mi 5 rfl) rfl ?_
    exact ⟨_, rfl, ⟨_, rfl⟩, rfl⟩
  · skip
    refine ex_iconst ok_X12_sortOf (mi 6 rfl) ?_
    refine ex_iret ok_X12_sortOf (mi 7 rfl) rfl ?_
    exact ⟨_, rfl, ⟨_, rfl⟩, rfl⟩
  · skip
    refine ex_iconst ok_X12_sortOf (mi 8 rfl) ?_
    refine ex_iret ok_X12_sortOf (mi 9 rfl) rfl ?_
    exact ⟨_, rfl, ⟨_, rfl⟩, rfl⟩
theorem s_X12_first {G : GE} (hst : (ge_l G).stackTraces = false) {x : Nat} {g : GT} (I : sh T12 g x) {p0 : Int32} : ex_M G 1 0 0 my_X12_first [.int p0] g (SVp g pI) := by
  refine ex_M_of ok_X12_first cw_X12_first rfl hst (Nat.le_of_ble_eq_true rfl) ?_
  refine ex_iload_n ok_X12_first (mi 0 rfl) rfl ?_
  refine ex_if_ne (tgt := 8) ok_X12_first (mi 1 rfl) rfl (fun h1 => ?_) (fun h1 => ?_)
  · skip
    refine ex_iload_n ok_X12_first (mi 4 rfl) rfl ?_
    refine ex_iconst ok_X12_first (mi 5 rfl) ?_
    refine ex_icmp_ne (tgt := 17) ok_X12_first (mi 6 rfl) rfl (fun h10 => ?_) (fun h10 => ?_)
    · skip
      refine ex_iload_n ok_X12_first (mi 9 rfl) rfl ?_
      refine ex_iconst ok_X12_first (mi 10 rfl) ?_
      refine ex_icmp_ne (tgt := 27) ok_X12_first (mi 11 rfl) rfl (fun h19 => ?_) (fun h19 => ?_)
      · skip
        refine ex_bipush ok_X12_first (mi 14 rfl) ?_
        refine ex_iret ok_X12_first (mi 15 rfl) rfl ?_
        exact ⟨_, rfl, ⟨_, rfl⟩, rfl⟩
      · skip
        refine ex_bipush ok_X12_first (mi 12 rfl) ?_
        refine ex_goto (tgt := 29) ok_X12_first (mi 13 rfl) rfl ?_
        refine ex_iret ok_X12_first (mi 15 rfl) rfl ?_
        exact ⟨_, rfl, ⟨_, rfl⟩, rfl⟩
    · skip
      refine ex_iconst ok_X12_first (mi 7 rfl) ?_
      refine ex_goto (tgt := 29) ok_X12_first (mi 8 rfl) rfl ?_
      refine ex_iret ok_X12_first (mi 15 rfl) rfl ?_
      exact ⟨_, rfl, ⟨_, rfl⟩, rfl⟩
  · skip
    refine ex_iconst ok_X12_first (mi 2 rfl) ?_
    refine ex_goto (tgt := 29) ok_X12_first (mi 3 rfl) rfl ?_
    refine ex_iret ok_X12_first (mi 15 rfl) rfl ?_
    exact ⟨_, rfl, ⟨_, rfl⟩, rfl⟩
theorem s_X12_nodes {G : GE} (hst : (ge_l G).stackTraces = false) {x : Nat} {g : GT} (I : sh T12 g x) {p0 : Int32} : ex_M G 1 0 0 my_X12_nodes [.int p0] g (SVp g pI) := by
  refine ex_M_of ok_X12_nodes cw_X12_nodes rfl hst (Nat.le_of_ble_eq_true rfl) ?_
  refine ex_iload_n ok_X12_nodes (mi 0 rfl) rfl ?_
  refine ex_iconst ok_X12_nodes (mi 1 rfl) ?_
  refine ex_icmp_ne (tgt := 10) ok_X12_nodes (mi 2 rfl) rfl (fun h2 => ?_) (fun h2 => ?_)
  · skip
    refine ex_iload_n ok_X12_nodes (mi 5 rfl) rfl ?_
    refine ex_iconst ok_X12_nodes (mi 6 rfl) ?_
    refine ex_icmp_ne (tgt := 20) ok_X12_nodes (mi 7 rfl) rfl (fun h12 => ?_) (fun h12 => ?_)
    · skip
      refine ex_iconst ok_X12_nodes (mi 10 rfl) ?_
      refine ex_iret ok_X12_nodes (mi 11 rfl) rfl ?_
      exact ⟨_, rfl, ⟨_, rfl⟩, rfl⟩
    · skip
      refine ex_bipush ok_X12_nodes (mi 8 rfl) ?_
      refine ex_goto (tgt := 21) ok_X12_nodes (mi 9 rfl) rfl ?_
      refine ex_iret ok_X12_nodes (mi 11 rfl) rfl ?_
      exact ⟨_, rfl, ⟨_, rfl⟩, rfl⟩
  · skip
    refine ex_bipush ok_X12_nodes (mi 3 rfl) ?_
    refine ex_goto (tgt := 21) ok_X12_nodes (mi 4 rfl) rfl ?_
    refine ex_iret ok_X12_nodes (mi 11 rfl) rfl ?_
    exact ⟨_, rfl, ⟨_, rfl⟩, rfl⟩
theorem s_X12_history {G : GE} (hst : (ge_l G).stackTraces = false) {x : Nat} {g : GT} (I : sh T12 g x) {p0 : Int32} (hp0 : vp_in p0 3) : ex_M G 1 0 0 my_X12_history [.ref x, .int p0] g (SVp g pI) := by
  refine ex_M_of ok_X12_history cw_X12_history rfl hst (Nat.le_of_ble_eq_true rfl) ?_
  refine ex_iconst ok_X12_history (mi 0 rfl) ?_
  refine ex_istore_n ok_X12_history (mi 1 rfl) ?_
  refine ex_iconst ok_X12_history (mi 2 rfl) ?_
  refine ex_istore_n ok_X12_history (mi 3 rfl) ?_
  have lp4 : ∀ n4 k4 : Nat, k4 + n4 = 300 → ∀ (q1 : Int32), ex_W G 1 0 0 M_X12_history 4 [(0, .ref x), (1, .int p0), (2, .int q1), (3, .int (nI k4))] [] g (SVp g pI) := by
    intro n4
    induction n4 with
    | zero =>
      intro k4 hk4 q1
      obtain rfl : k4 = 300 := by omega
      refine ex_iload_n ok_X12_history (mi 4 rfl) rfl ?_
      refine ex_sipush ok_X12_history (mi 5 rfl) ?_
      refine ex_icmp_ge (tgt := 40) ok_X12_history (mi 6 rfl) rfl (fun _ => ?_) (fun hn => absurd (by decide) hn)
      refine ex_iload_n ok_X12_history (mi 24 rfl) rfl ?_
      refine ex_iret ok_X12_history (mi 25 rfl) rfl ?_
      exact ⟨_, rfl, ⟨_, rfl⟩, rfl⟩
    | succ n4 ih4 =>
      intro k4 hk4 q1
      have hr4 : k4 < 300 := by omega
      refine ex_iload_n ok_X12_history (mi 4 rfl) rfl ?_
      refine ex_sipush ok_X12_history (mi 5 rfl) ?_
      refine ex_icmp_ge (tgt := 40) ok_X12_history (mi 6 rfl) rfl (fun hn => absurd hn (nI_ge hr4 (by decide))) (fun _ => ?_)
      refine ex_iload_n ok_X12_history (mi 7 rfl) rfl ?_
      refine ex_aload_n ok_X12_history (mi 8 rfl) rfl ?_
      refine ex_getRx ok_X12_history (mi 9 rfl) rfl rfl (fk I 0 rfl) (fr I 8 rfl) (fk I 9 rfl) (by decide) ?_
      refine ex_sipush ok_X12_history (mi 10 rfl) ?_
      refine ex_iload_n ok_X12_history (mi 11 rfl) rfl ?_
      refine ex_imul ok_X12_history (mi 12 rfl) ?_
      refine ex_iload_n ok_X12_history (mi 13 rfl) rfl ?_
      refine ex_iadd ok_X12_history (mi 14 rfl) ?_
      refine sf_iald ok_X12_history (mi 15 rfl) (fk I 9 rfl) (fn I 9 rfl) (mi_in (B := 300) (A := 3) (C := 300) rfl hp0 (vp_in_nI hr4 (by decide)) (by decide) (by decide) (by decide) rfl (by decide)) (fun v4 => ?_)
      refine ex_if_eq (tgt := 31) ok_X12_history (mi 16 rfl) rfl (fun h24 => ?_) (fun h24 => ?_)
      · skip
        refine ex_iconst ok_X12_history (mi 19 rfl) ?_
        refine ex_iadd ok_X12_history (mi 20 rfl) ?_
        refine ex_gen (fun w5 => ?_)
        refine ex_istore_n ok_X12_history (mi 21 rfl) ?_
        refine ex_iincx (w := (nI (k4 + 1))) ok_X12_history (mi 22 rfl) rfl (nI_1 _) ?_
        refine ex_goto (tgt := 4) ok_X12_history (mi 23 rfl) rfl ?_
        exact ex_ls (ls' := [(0, .ref x), (1, .int p0), (2, .int w5), (3, .int (nI (k4 + 1)))]) ⟨rfl, rfl, rfl, rfl, trivial⟩ (ih4 (k4 + 1) (by omega) _ )
      · skip
        refine ex_iconst ok_X12_history (mi 17 rfl) ?_
        refine ex_goto (tgt := 32) ok_X12_history (mi 18 rfl) rfl ?_
        refine ex_iadd ok_X12_history (mi 20 rfl) ?_
        refine ex_gen (fun w6 => ?_)
        refine ex_istore_n ok_X12_history (mi 21 rfl) ?_
        refine ex_iincx (w := (nI (k4 + 1))) ok_X12_history (mi 22 rfl) rfl (nI_1 _) ?_
        refine ex_goto (tgt := 4) ok_X12_history (mi 23 rfl) rfl ?_
        exact ex_ls (ls' := [(0, .ref x), (1, .int p0), (2, .int w6), (3, .int (nI (k4 + 1)))]) ⟨rfl, rfl, rfl, rfl, trivial⟩ (ih4 (k4 + 1) (by omega) _ )
  exact ex_ls (ls' := [(0, .ref x), (1, .int p0), (2, .int (nI 0)), (3, .int (nI 0))]) ⟨rfl, rfl, rfl, rfl, trivial⟩ (lp4 300 0 (by decide) _ )
theorem s_X12_countEntries {G : GE} (hst : (ge_l G).stackTraces = false) {x : Nat} {g : GT} (I : sh T12 g x) {p0 : Int32} (hp0 : vp_in p0 9) : ex_M G 1 0 0 my_X12_countEntries [.ref x, .int p0] g (SVp g pI) := by
  refine ex_M_of ok_X12_countEntries cw_X12_countEntries rfl hst (Nat.le_of_ble_eq_true rfl) ?_
  refine ex_iconst ok_X12_countEntries (mi 0 rfl) ?_
  refine ex_istore_n ok_X12_countEntries (mi 1 rfl) ?_
  refine ex_iconst ok_X12_countEntries (mi 2 rfl) ?_
  refine ex_istore_n ok_X12_countEntries (mi 3 rfl) ?_
  have lp4 : ∀ n4 k4 : Nat, k4 + n4 = 300 → ∀ (q1 : Int32), ex_W G 1 0 0 M_X12_countEntries 4 [(0, .ref x), (1, .int p0), (2, .int q1), (3, .int (nI k4))] [] g (SVp g pI) := by
    intro n4
    induction n4 with
    | zero =>
      intro k4 hk4 q1
      obtain rfl : k4 = 300 := by omega
      refine ex_iload_n ok_X12_countEntries (mi 4 rfl) rfl ?_
      refine ex_sipush ok_X12_countEntries (mi 5 rfl) ?_
      refine ex_icmp_ge (tgt := 40) ok_X12_countEntries (mi 6 rfl) rfl (fun _ => ?_) (fun hn => absurd (by decide) hn)
      refine ex_iload_n ok_X12_countEntries (mi 24 rfl) rfl ?_
      refine ex_iret ok_X12_countEntries (mi 25 rfl) rfl ?_
      exact ⟨_, rfl, ⟨_, rfl⟩, rfl⟩
    | succ n4 ih4 =>
      intro k4 hk4 q1
      have hr4 : k4 < 300 := by omega
      refine ex_iload_n ok_X12_countEntries (mi 4 rfl) rfl ?_
      refine ex_sipush ok_X12_countEntries (mi 5 rfl) ?_
      refine ex_icmp_ge (tgt := 40) ok_X12_countEntries (mi 6 rfl) rfl (fun hn => absurd hn (nI_ge hr4 (by decide))) (fun _ => ?_)
      refine ex_iload_n ok_X12_countEntries (mi 7 rfl) rfl ?_
      refine ex_aload_n ok_X12_countEntries (mi 8 rfl) rfl ?_
      refine ex_getRx ok_X12_countEntries (mi 9 rfl) rfl rfl (fk I 0 rfl) (fr I 37 rfl) (fk I 38 rfl) (by decide) ?_
      refine ex_sipush ok_X12_countEntries (mi 10 rfl) ?_
      refine ex_iload_n ok_X12_countEntries (mi 11 rfl) rfl ?_
      refine ex_imul ok_X12_countEntries (mi 12 rfl) ?_
      refine ex_iload_n ok_X12_countEntries (mi 13 rfl) rfl ?_
      refine ex_iadd ok_X12_countEntries (mi 14 rfl) ?_
      refine sf_iald ok_X12_countEntries (mi 15 rfl) (fk I 38 rfl) (fn I 38 rfl) (mi_in (B := 300) (A := 9) (C := 300) rfl hp0 (vp_in_nI hr4 (by decide)) (by decide) (by decide) (by decide) rfl (by decide)) (fun v4 => ?_)
      refine ex_if_eq (tgt := 31) ok_X12_countEntries (mi 16 rfl) rfl (fun h24 => ?_) (fun h24 => ?_)
      · skip
        refine ex_iconst ok_X12_countEntries (mi 19 rfl) ?_
        refine ex_iadd ok_X12_countEntries (mi 20 rfl) ?_
        refine ex_gen (fun w5 => ?_)
        refine ex_istore_n ok_X12_countEntries (mi 21 rfl) ?_
        refine ex_iincx (w := (nI (k4 + 1))) ok_X12_countEntries (mi 22 rfl) rfl (nI_1 _) ?_
        refine ex_goto (tgt := 4) ok_X12_countEntries (mi 23 rfl) rfl ?_
        exact ex_ls (ls' := [(0, .ref x), (1, .int p0), (2, .int w5), (3, .int (nI (k4 + 1)))]) ⟨rfl, rfl, rfl, rfl, trivial⟩ (ih4 (k4 + 1) (by omega) _ )
      · skip
        refine ex_iconst ok_X12_countEntries (mi 17 rfl) ?_
        refine ex_goto (tgt := 32) ok_X12_countEntries (mi 18 rfl) rfl ?_
        refine ex_iadd ok_X12_countEntries (mi 20 rfl) ?_
        refine ex_gen (fun w6 => ?_)
        refine ex_istore_n ok_X12_countEntries (mi 21 rfl) ?_
        refine ex_iincx (w := (nI (k4 + 1))) ok_X12_countEntries (mi 22 rfl) rfl (nI_1 _) ?_
        refine ex_goto (tgt := 4) ok_X12_countEntries (mi 23 rfl) rfl ?_
        exact ex_ls (ls' := [(0, .ref x), (1, .int p0), (2, .int w6), (3, .int (nI (k4 + 1)))]) ⟨rfl, rfl, rfl, rfl, trivial⟩ (ih4 (k4 + 1) (by omega) _ )
  exact ex_ls (ls' := [(0, .ref x), (1, .int p0), (2, .int (nI 0)), (3, .int (nI 0))]) ⟨rfl, rfl, rfl, rfl, trivial⟩ (lp4 300 0 (by decide) _ )
theorem s_X12_greatestRound {G : GE} (hst : (ge_l G).stackTraces = false) {x : Nat} {g : GT} (I : sh T12 g x) {p0 : Int32} (hp0 : vp_in p0 9) : ex_M G 1 0 0 my_X12_greatestRound [.ref x, .int p0] g (SVp g pI) := by
  refine ex_M_of ok_X12_greatestRound cw_X12_greatestRound rfl hst (Nat.le_of_ble_eq_true rfl) ?_
  refine ex_iconst ok_X12_greatestRound (mi 0 rfl) ?_
  refine ex_istore_n ok_X12_greatestRound (mi 1 rfl) ?_
  refine ex_iconst ok_X12_greatestRound (mi 2 rfl) ?_
  refine ex_istore_n ok_X12_greatestRound (mi 3 rfl) ?_
  have lp4 : ∀ n4 k4 : Nat, k4 + n4 = 300 → ∀ (q1 : Int32), ex_W G 1 0 0 M_X12_greatestRound 4 [(0, .ref x), (1, .int p0), (2, .int q1), (3, .int (nI k4))] [] g (SVp g pI) := by
    intro n4
    induction n4 with
    | zero =>
      intro k4 hk4 q1
      obtain rfl : k4 = 300 := by omega
      refine ex_iload_n ok_X12_greatestRound (mi 4 rfl) rfl ?_
      refine ex_sipush ok_X12_greatestRound (mi 5 rfl) ?_
      refine ex_icmp_ge (tgt := 38) ok_X12_greatestRound (mi 6 rfl) rfl (fun _ => ?_) (fun hn => absurd (by decide) hn)
      refine ex_iload_n ok_X12_greatestRound (mi 22 rfl) rfl ?_
      refine ex_iret ok_X12_greatestRound (mi 23 rfl) rfl ?_
      exact ⟨_, rfl, ⟨_, rfl⟩, rfl⟩
    | succ n4 ih4 =>
      intro k4 hk4 q1
      have hr4 : k4 < 300 := by omega
      refine ex_iload_n ok_X12_greatestRound (mi 4 rfl) rfl ?_
      refine ex_sipush ok_X12_greatestRound (mi 5 rfl) ?_
      refine ex_icmp_ge (tgt := 38) ok_X12_greatestRound (mi 6 rfl) rfl (fun hn => absurd hn (nI_ge hr4 (by decide))) (fun _ => ?_)
      refine ex_aload_n ok_X12_greatestRound (mi 7 rfl) rfl ?_
      refine ex_getRx ok_X12_greatestRound (mi 8 rfl) rfl rfl (fk I 0 rfl) (fr I 37 rfl) (fk I 38 rfl) (by decide) ?_
      refine ex_sipush ok_X12_greatestRound (mi 9 rfl) ?_
      refine ex_iload_n ok_X12_greatestRound (mi 10 rfl) rfl ?_
      refine ex_imul ok_X12_greatestRound (mi 11 rfl) ?_
      refine ex_iload_n ok_X12_greatestRound (mi 12 rfl) rfl ?_
      refine ex_iadd ok_X12_greatestRound (mi 13 rfl) ?_
      refine sf_iald ok_X12_greatestRound (mi 14 rfl) (fk I 38 rfl) (fn I 38 rfl) (mi_in (B := 300) (A := 9) (C := 300) rfl hp0 (vp_in_nI hr4 (by decide)) (by decide) (by decide) (by decide) rfl (by decide)) (fun v4 => ?_)
      refine ex_if_eq (tgt := 30) ok_X12_greatestRound (mi 15 rfl) rfl (fun h23 => ?_) (fun h23 => ?_)
      · skip
        refine ex_iload_n ok_X12_greatestRound (mi 18 rfl) rfl ?_
        refine ex_istore_n ok_X12_greatestRound (mi 19 rfl) ?_
        refine ex_iincx (w := (nI (k4 + 1))) ok_X12_greatestRound (mi 20 rfl) rfl (nI_1 _) ?_
        refine ex_goto (tgt := 4) ok_X12_greatestRound (mi 21 rfl) rfl ?_
        exact ex_ls (ls' := [(0, .ref x), (1, .int p0), (2, .int q1), (3, .int (nI (k4 + 1)))]) ⟨rfl, rfl, rfl, rfl, trivial⟩ (ih4 (k4 + 1) (by omega) _ )
      · skip
        refine ex_iload_n ok_X12_greatestRound (mi 16 rfl) rfl ?_
        refine ex_goto (tgt := 31) ok_X12_greatestRound (mi 17 rfl) rfl ?_
        refine ex_istore_n ok_X12_greatestRound (mi 19 rfl) ?_
        refine ex_iincx (w := (nI (k4 + 1))) ok_X12_greatestRound (mi 20 rfl) rfl (nI_1 _) ?_
        refine ex_goto (tgt := 4) ok_X12_greatestRound (mi 21 rfl) rfl ?_
        exact ex_ls (ls' := [(0, .ref x), (1, .int p0), (2, .int (nI k4)), (3, .int (nI (k4 + 1)))]) ⟨rfl, rfl, rfl, rfl, trivial⟩ (ih4 (k4 + 1) (by omega) _ )
  exact ex_ls (ls' := [(0, .ref x), (1, .int p0), (2, .int (-1)), (3, .int (nI 0))]) ⟨rfl, rfl, rfl, rfl, trivial⟩ (lp4 300 0 (by decide) _ )
theorem s_X12_votersOfHistory {G : GE} (hst : (ge_l G).stackTraces = false) {x : Nat} {g : GT} (I : sh T12 g x) {p0 : Int32} (hp0 : vp_in p0 3) : ex_M G 1 0 0 my_X12_votersOfHistory [.ref x, .int p0] g (SVp g pI) := by
  refine ex_M_of ok_X12_votersOfHistory cw_X12_votersOfHistory rfl hst (Nat.le_of_ble_eq_true rfl) ?_
  refine ex_iconst ok_X12_votersOfHistory (mi 0 rfl) ?_
  refine ex_istore_n ok_X12_votersOfHistory (mi 1 rfl) ?_
  refine ex_iconst ok_X12_votersOfHistory (mi 2 rfl) ?_
  refine ex_istore_n ok_X12_votersOfHistory (mi 3 rfl) ?_
  have lp4 : ∀ n4 k4 : Nat, k4 + n4 = 300 → ∀ (q1 : Int32), ex_W G 1 0 0 M_X12_votersOfHistory 4 [(0, .ref x), (1, .int p0), (2, .int q1), (3, .int (nI k4))] [] g (SVp g pI) := by
    intro n4
    induction n4 with
    | zero =>
      intro k4 hk4 q1
      obtain rfl : k4 = 300 := by omega
      refine ex_iload_n ok_X12_votersOfHistory (mi 4 rfl) rfl ?_
      refine ex_sipush ok_X12_votersOfHistory (mi 5 rfl) ?_
      refine ex_icmp_ge (tgt := 32) ok_X12_votersOfHistory (mi 6 rfl) rfl (fun _ => ?_) (fun hn => absurd (by decide) hn)
      refine ex_iload_n ok_X12_votersOfHistory (mi 20 rfl) rfl ?_
      refine ex_iret ok_X12_votersOfHistory (mi 21 rfl) rfl ?_
      exact ⟨_, rfl, ⟨_, rfl⟩, rfl⟩
    | succ n4 ih4 =>
      intro k4 hk4 q1
      have hr4 : k4 < 300 := by omega
      refine ex_iload_n ok_X12_votersOfHistory (mi 4 rfl) rfl ?_
      refine ex_sipush ok_X12_votersOfHistory (mi 5 rfl) ?_
      refine ex_icmp_ge (tgt := 32) ok_X12_votersOfHistory (mi 6 rfl) rfl (fun hn => absurd hn (nI_ge hr4 (by decide))) (fun _ => ?_)
      refine ex_iload_n ok_X12_votersOfHistory (mi 7 rfl) rfl ?_
      refine ex_aload_n ok_X12_votersOfHistory (mi 8 rfl) rfl ?_
      refine ex_getRx ok_X12_votersOfHistory (mi 9 rfl) rfl rfl (fk I 0 rfl) (fr I 8 rfl) (fk I 9 rfl) (by decide) ?_
      refine ex_sipush ok_X12_votersOfHistory (mi 10 rfl) ?_
      refine ex_iload_n ok_X12_votersOfHistory (mi 11 rfl) rfl ?_
      refine ex_imul ok_X12_votersOfHistory (mi 12 rfl) ?_
      refine ex_iload_n ok_X12_votersOfHistory (mi 13 rfl) rfl ?_
      refine ex_iadd ok_X12_votersOfHistory (mi 14 rfl) ?_
      refine sf_iald ok_X12_votersOfHistory (mi 15 rfl) (fk I 9 rfl) (fn I 9 rfl) (mi_in (B := 300) (A := 3) (C := 300) rfl hp0 (vp_in_nI hr4 (by decide)) (by decide) (by decide) (by decide) rfl (by decide)) (fun v4 => ?_)
      refine ex_ior ok_X12_votersOfHistory (mi 16 rfl) ?_
      refine ex_gen (fun w5 => ?_)
      refine ex_istore_n ok_X12_votersOfHistory (mi 17 rfl) ?_
      refine ex_iincx (w := (nI (k4 + 1))) ok_X12_votersOfHistory (mi 18 rfl) rfl (nI_1 _) ?_
      refine ex_goto (tgt := 4) ok_X12_votersOfHistory (mi 19 rfl) rfl ?_
      exact ex_ls (ls' := [(0, .ref x), (1, .int p0), (2, .int w5), (3, .int (nI (k4 + 1)))]) ⟨rfl, rfl, rfl, rfl, trivial⟩ (ih4 (k4 + 1) (by omega) _ )
  exact ex_ls (ls' := [(0, .ref x), (1, .int p0), (2, .int (nI 0)), (3, .int (nI 0))]) ⟨rfl, rfl, rfl, rfl, trivial⟩ (lp4 300 0 (by decide) _ )
theorem s_X12_firm {G : GE} (hst : (ge_l G).stackTraces = false) {x : Nat} {g : GT} (I : sh T12 g x) {p0 : Int32} (hp0 : vp_in p0 3) : ex_M G 1 0 0 my_X12_firm [.ref x, .int p0] g (SVp g pI) := by
  refine ex_M_of ok_X12_firm cw_X12_firm rfl hst (Nat.le_of_ble_eq_true rfl) ?_
  refine ex_iconst ok_X12_firm (mi 0 rfl) ?_
  refine ex_istore_n ok_X12_firm (mi 1 rfl) ?_
  have lp2 : ∀ n2 k2 : Nat, k2 + n2 = 16 → ex_W G 1 0 0 M_X12_firm 2 [(0, .ref x), (1, .int p0), (2, .int (nI k2))] [] g (SVp g pI) := by
    intro n2
    induction n2 with
    | zero =>
      intro k2 hk2 
      obtain rfl : k2 = 16 := by omega
      refine ex_iload_n ok_X12_firm (mi 2 rfl) rfl ?_
      refine ex_bipush ok_X12_firm (mi 3 rfl) ?_
      refine ex_icmp_ge (tgt := 44) ok_X12_firm (mi 4 rfl) rfl (fun _ => ?_) (fun hn => absurd (by decide) hn)
      refine ex_iload_n ok_X12_firm (mi 27 rfl) rfl ?_
      refine ex_iret ok_X12_firm (mi 28 rfl) rfl ?_
      exact ⟨_, rfl, ⟨_, rfl⟩, rfl⟩
    | succ n2 ih2 =>
      intro k2 hk2 
      have hr2 : k2 < 16 := by omega
      refine ex_iload_n ok_X12_firm (mi 2 rfl) rfl ?_
      refine ex_bipush ok_X12_firm (mi 3 rfl) ?_
      refine ex_icmp_ge (tgt := 44) ok_X12_firm (mi 4 rfl) rfl (fun hn => absurd hn (nI_ge hr2 (by decide))) (fun _ => ?_)
      refine ex_aload_n ok_X12_firm (mi 5 rfl) rfl ?_
      refine ex_getRx ok_X12_firm (mi 6 rfl) rfl rfl (fk I 0 rfl) (fr I 15 rfl) (fk I 16 rfl) (by decide) ?_
      refine ex_bipush ok_X12_firm (mi 7 rfl) ?_
      refine ex_iload_n ok_X12_firm (mi 8 rfl) rfl ?_
      refine ex_imul ok_X12_firm (mi 9 rfl) ?_
      refine ex_iload_n ok_X12_firm (mi 10 rfl) rfl ?_
      refine ex_iadd ok_X12_firm (mi 11 rfl) ?_
      refine sf_iald ok_X12_firm (mi 12 rfl) (fk I 16 rfl) (fn I 16 rfl) (mi_in (B := 16) (A := 3) (C := 16) rfl hp0 (vp_in_nI hr2 (by decide)) (by decide) (by decide) (by decide) rfl (by decide)) (fun v3 => ?_)
      refine ex_iconst ok_X12_firm (mi 13 rfl) ?_
      refine ex_icmp_eq (tgt := 38) ok_X12_firm (mi 14 rfl) rfl (fun h20 => ?_) (fun h20 => ?_)
      · skip
        refine ex_iincx (w := (nI (k2 + 1))) ok_X12_firm (mi 25 rfl) rfl (nI_1 _) ?_
        refine ex_goto (tgt := 2) ok_X12_firm (mi 26 rfl) rfl ?_
        exact ex_ls (ls' := [(0, .ref x), (1, .int p0), (2, .int (nI (k2 + 1)))]) ⟨rfl, rfl, rfl, trivial⟩ (ih2 (k2 + 1) (by omega) )
      · skip
        refine ex_aload_n ok_X12_firm (mi 15 rfl) rfl ?_
        refine ex_getRx ok_X12_firm (mi 16 rfl) rfl rfl (fk I 0 rfl) (fr I 15 rfl) (fk I 16 rfl) (by decide) ?_
        refine ex_bipush ok_X12_firm (mi 17 rfl) ?_
        refine ex_iload_n ok_X12_firm (mi 18 rfl) rfl ?_
        refine ex_imul ok_X12_firm (mi 19 rfl) ?_
        refine ex_iload_n ok_X12_firm (mi 20 rfl) rfl ?_
        refine ex_iadd ok_X12_firm (mi 21 rfl) ?_
        refine sf_iald ok_X12_firm (mi 22 rfl) (fk I 16 rfl) (fn I 16 rfl) (mi_in (B := 16) (A := 3) (C := 16) rfl hp0 (vp_in_nI hr2 (by decide)) (by decide) (by decide) (by decide) rfl (by decide)) (fun v4 => ?_)
        refine ex_iconst ok_X12_firm (mi 23 rfl) ?_
        refine ex_icmp_ne (tgt := 44) ok_X12_firm (mi 24 rfl) rfl (fun h35 => ?_) (fun h35 => ?_)
        · skip
          refine ex_iload_n ok_X12_firm (mi 27 rfl) rfl ?_
          refine ex_iret ok_X12_firm (mi 28 rfl) rfl ?_
          exact ⟨_, rfl, ⟨_, rfl⟩, rfl⟩
        · skip
          refine ex_iincx (w := (nI (k2 + 1))) ok_X12_firm (mi 25 rfl) rfl (nI_1 _) ?_
          refine ex_goto (tgt := 2) ok_X12_firm (mi 26 rfl) rfl ?_
          exact ex_ls (ls' := [(0, .ref x), (1, .int p0), (2, .int (nI (k2 + 1)))]) ⟨rfl, rfl, rfl, trivial⟩ (ih2 (k2 + 1) (by omega) )
  exact ex_ls (ls' := [(0, .ref x), (1, .int p0), (2, .int (nI 0))]) ⟨rfl, rfl, rfl, trivial⟩ (lp2 16 0 (by decide) )
theorem s_X12_isOn {G : GE} (hst : (ge_l G).stackTraces = false) {x : Nat} {g : GT} (I : sh T12 g x) {p0 : Int32} (hp0 : vp_in p0 9) {p1 : Int32} : ex_M G 1 0 0 my_X12_isOn [.ref x, .int p0, .int p1] g (SVp g pZ) := by
  refine ex_M_of ok_X12_isOn cw_X12_isOn rfl hst (Nat.le_of_ble_eq_true rfl) ?_
  refine ex_aload_n ok_X12_isOn (mi 0 rfl) rfl ?_
  refine ex_getRx ok_X12_isOn (mi 1 rfl) rfl rfl (fk I 0 rfl) (fr I 33 rfl) (fk I 34 rfl) (by decide) ?_
  refine ex_iload_n ok_X12_isOn (mi 2 rfl) rfl ?_
  refine sf_iald ok_X12_isOn (mi 3 rfl) (fk I 34 rfl) (fn I 34 rfl) hp0 (fun v1 => ?_)
  refine ex_iconst ok_X12_isOn (mi 4 rfl) ?_
  refine ex_icmp_ne (tgt := 24) ok_X12_isOn (mi 5 rfl) rfl (fun h7 => ?_) (fun h7 => ?_)
  · skip
    refine ex_iconst ok_X12_isOn (mi 14 rfl) ?_
    refine ex_zret ok_X12_isOn (mi 15 rfl) rfl (by decide) ?_
    exact ⟨_, rfl, ⟨_, rfl, (by decide)⟩, rfl⟩
  · skip
    refine ex_aload_n ok_X12_isOn (mi 6 rfl) rfl ?_
    refine ex_getRx ok_X12_isOn (mi 7 rfl) rfl rfl (fk I 0 rfl) (fr I 34 rfl) (fk I 35 rfl) (by decide) ?_
    refine ex_iload_n ok_X12_isOn (mi 8 rfl) rfl ?_
    refine sf_iald ok_X12_isOn (mi 9 rfl) (fk I 35 rfl) (fn I 35 rfl) hp0 (fun v2 => ?_)
    refine ex_iload_n ok_X12_isOn (mi 10 rfl) rfl ?_
    refine ex_icmp_ne (tgt := 24) ok_X12_isOn (mi 11 rfl) rfl (fun h17 => ?_) (fun h17 => ?_)
    · skip
      refine ex_iconst ok_X12_isOn (mi 14 rfl) ?_
      refine ex_zret ok_X12_isOn (mi 15 rfl) rfl (by decide) ?_
      exact ⟨_, rfl, ⟨_, rfl, (by decide)⟩, rfl⟩
    · skip
      refine ex_iconst ok_X12_isOn (mi 12 rfl) ?_
      refine ex_goto (tgt := 25) ok_X12_isOn (mi 13 rfl) rfl ?_
      refine ex_zret ok_X12_isOn (mi 15 rfl) rfl (by decide) ?_
      exact ⟨_, rfl, ⟨_, rfl, (by decide)⟩, rfl⟩
