theorem s_X12_toLeader_0 {G : GE} (hst : (ge_l G).stackTraces = false) {y c : Nat} {D : UT} {R : Nat → Prop} {g : GT} (I : MI y D c R g) {a0 : Nat} (ha0 : a0 < 3) {a1 : Nat} (ha1 : a1 < 402) {m : Nat} (hmk : MK y g a1 0 m) : ex_M G 6 0 0 my_X12_toLeader [.ref y, .int (nI (a0)), .int (nI (a1))] g (SM y D c R pN) := by
  refine ex_M_of ok_X12_toLeader cw_X12_toLeader rfl hst (Nat.le_of_ble_eq_true rfl) ?_
  have hm3 : m < 301 := hmk.2.2.2.2.2.2.2.1
  refine ex_aload_n ok_X12_toLeader (mi 0 rfl) rfl ?_
  refine ex_getRx ok_X12_toLeader (mi 1 rfl) rfl rfl (fk (MI_s I) 0 rfl) (fr (MI_s I) 49 rfl) (fk (MI_s I) 50 rfl) (by decide) ?_
  refine ex_iload_n ok_X12_toLeader (mi 2 rfl) rfl ?_
  refine sm_iald ok_X12_toLeader (mi 3 rfl) (fk (MI_s I) 50 rfl) (fn (MI_s I) 50 rfl) rfl (by omega) (by decide) ?_
  refine ex_top (w := nI 0) hmk.1 ?_
  refine ex_tblk (tgt := 279) ok_X12_toLeader (mi 4 rfl) (by decide) (by decide) (by decide) (by decide) ?_
  refine ex_aload_n ok_X12_toLeader (mi 110 rfl) rfl ?_
  refine ex_getRx ok_X12_toLeader (mi 111 rfl) rfl rfl (fk (MI_s I) 0 rfl) (fr (MI_s I) 1 rfl) (fk (MI_s I) 2 rfl) (by decide) ?_
  refine ex_iload_n ok_X12_toLeader (mi 112 rfl) rfl ?_
  refine ex_aload_n ok_X12_toLeader (mi 113 rfl) rfl ?_
  refine ex_getRx ok_X12_toLeader (mi 114 rfl) rfl rfl (fk (MI_s I) 0 rfl) (fr (MI_s I) 2 rfl) (fk (MI_s I) 3 rfl) (by decide) ?_
  refine ex_iload_n ok_X12_toLeader (mi 115 rfl) rfl ?_
  refine sm_iald ok_X12_toLeader (mi 116 rfl) (fk (MI_s I) 3 rfl) (fn (MI_s I) 3 rfl) rfl (by omega) (by decide) ?_
  refine ex_gen (fun w1 => ?_)
  refine ex_aload_n ok_X12_toLeader (mi 117 rfl) rfl ?_
  refine ex_getRx ok_X12_toLeader (mi 118 rfl) rfl rfl (fk (MI_s I) 0 rfl) (fr (MI_s I) 52 rfl) (fk (MI_s I) 53 rfl) (by decide) ?_
  refine ex_iconst ok_X12_toLeader (mi 119 rfl) ?_
  refine ex_iload_n ok_X12_toLeader (mi 120 rfl) rfl ?_
  refine ex_imul ok_X12_toLeader (mi 121 rfl) ?_
  refine ex_top (w := (nI (3 * a1))) (nI_mulc rfl) ?_
  refine sm_iald ok_X12_toLeader (mi 122 rfl) (fk (MI_s I) 53 rfl) (fn (MI_s I) 53 rfl) rfl (by omega) (by decide) ?_
  refine ex_gen (fun w2 => ?_)
  refine ex_icmp_ne (tgt := 305) ok_X12_toLeader (mi 123 rfl) rfl (fun h298 => ?_) (fun h298 => ?_)
  · skip
    refine ex_aload_n ok_X12_toLeader (mi 126 rfl) rfl ?_
    refine ex_getRx ok_X12_toLeader (mi 127 rfl) rfl rfl (fk (MI_s I) 0 rfl) (fr (MI_s I) 1 rfl) (fk (MI_s I) 2 rfl) (by decide) ?_
    refine ex_iload_n ok_X12_toLeader (mi 128 rfl) rfl ?_
    refine sm_iald ok_X12_toLeader (mi 129 rfl) (fk (MI_s I) 2 rfl) (fn (MI_s I) 2 rfl) rfl (by omega) (by decide) ?_
    refine mf_ph2 I ok_X12_toLeader (mi 130 rfl) (fk (MI_s I) 2 rfl) (fn (MI_s I) 2 rfl) rfl (by omega) (fun g3 J4 K5 => ?_)
    have mk6 := KK_mk K5 hmk
    refine ex_vret ok_X12_toLeader (mi 131 rfl) rfl ?_
    exact ⟨_, rfl, rfl, J4⟩
  · skip
    refine ex_iconst ok_X12_toLeader (mi 124 rfl) ?_
    refine ex_goto (tgt := 311) ok_X12_toLeader (mi 125 rfl) rfl ?_
    refine mf_ph I ok_X12_toLeader (mi 130 rfl) (fk (MI_s I) 2 rfl) (fn (MI_s I) 2 rfl) rfl (by omega) (Or.inl (by decide)) (fun g7 J8 K9 => ?_)
    have mk10 := KK_mk K9 hmk
    refine ex_vret ok_X12_toLeader (mi 131 rfl) rfl ?_
    exact ⟨_, rfl, rfl, J8⟩
theorem s_X12_toLeader_2 {G : GE} (hst : (ge_l G).stackTraces = false) {y c : Nat} {D : UT} {R : Nat → Prop} {g : GT} (I : MI y D c R g) {a0 : Nat} (ha0 : a0 < 3) {a1 : Nat} (ha1 : a1 < 402) {m : Nat} (hmk : MK y g a1 2 m) : ex_M G 6 0 0 my_X12_toLeader [.ref y, .int (nI (a0)), .int (nI (a1))] g (SM y D c R pN) := by
  refine ex_M_of ok_X12_toLeader cw_X12_toLeader rfl hst (Nat.le_of_ble_eq_true rfl) ?_
  have hm3 : m < 301 := hmk.2.2.2.2.2.2.2.1
  refine ex_aload_n ok_X12_toLeader (mi 0 rfl) rfl ?_
  refine ex_getRx ok_X12_toLeader (mi 1 rfl) rfl rfl (fk (MI_s I) 0 rfl) (fr (MI_s I) 49 rfl) (fk (MI_s I) 50 rfl) (by decide) ?_
  refine ex_iload_n ok_X12_toLeader (mi 2 rfl) rfl ?_
  refine sm_iald ok_X12_toLeader (mi 3 rfl) (fk (MI_s I) 50 rfl) (fn (MI_s I) 50 rfl) rfl (by omega) (by decide) ?_
  refine ex_top (w := nI 2) hmk.1 ?_
  refine ex_tblk (tgt := 108) ok_X12_toLeader (mi 4 rfl) (by decide) (by decide) (by decide) (by decide) ?_
  refine ex_aload_n ok_X12_toLeader (mi 5 rfl) rfl ?_
  refine ex_iload_n ok_X12_toLeader (mi 6 rfl) rfl ?_
  refine ex_iload_n ok_X12_toLeader (mi 7 rfl) rfl ?_
  refine sm_V (As := [_, _]) ok_X12_toLeader (mi 8 rfl) rfl (s_X12_matched hst I (by omega) (by omega) hmk) rfl (fk (MI_s I) 0 rfl) rfl rfl (by decide) (by decide) (Nat.le_of_ble_eq_true rfl) (by decide) SM_no (fun z1 g3 p2 => ?_)
  obtain ⟨u5, eu5, u5p, J4⟩ := p2
  cases eu5
  obtain rfl : z1 = none := u5p
  refine ex_goto (tgt := 312) ok_X12_toLeader (mi 9 rfl) rfl ?_
  refine ex_vret ok_X12_toLeader (mi 131 rfl) rfl ?_
  exact ⟨_, rfl, rfl, J4⟩
theorem s_X12_toLeader_4 {G : GE} (hst : (ge_l G).stackTraces = false) {y c : Nat} {D : UT} {R : Nat → Prop} {g : GT} (I : MI y D c R g) {a0 : Nat} (ha0 : a0 < 3) {a1 : Nat} (ha1 : a1 < 402) {m : Nat} (hmk : MK y g a1 4 m) : ex_M G 6 0 0 my_X12_toLeader [.ref y, .int (nI (a0)), .int (nI (a1))] g (SM y D c R pN) := by
  refine ex_M_of ok_X12_toLeader cw_X12_toLeader rfl hst (Nat.le_of_ble_eq_true rfl) ?_
  have hm3 : m < 17 := hmk.2.2.2.2.2.2.2.1
  refine ex_aload_n ok_X12_toLeader (mi 0 rfl) rfl ?_
  refine ex_getRx ok_X12_toLeader (mi 1 rfl) rfl rfl (fk (MI_s I) 0 rfl) (fr (MI_s I) 49 rfl) (fk (MI_s I) 50 rfl) (by decide) ?_
  refine ex_iload_n ok_X12_toLeader (mi 2 rfl) rfl ?_
  refine sm_iald ok_X12_toLeader (mi 3 rfl) (fk (MI_s I) 50 rfl) (fn (MI_s I) 50 rfl) rfl (by omega) (by decide) ?_
  refine ex_top (w := nI 4) hmk.1 ?_
  refine ex_tblk (tgt := 117) ok_X12_toLeader (mi 4 rfl) (by decide) (by decide) (by decide) (by decide) ?_
  refine ex_aload_n ok_X12_toLeader (mi 10 rfl) rfl ?_
  refine ex_iload_n ok_X12_toLeader (mi 11 rfl) rfl ?_
  refine ex_iload_n ok_X12_toLeader (mi 12 rfl) rfl ?_
  refine sm_V (As := [_, _]) ok_X12_toLeader (mi 13 rfl) rfl (s_X12_asked hst I (by omega) (by omega) hmk) rfl (fk (MI_s I) 0 rfl) rfl rfl (by decide) (by decide) (Nat.le_of_ble_eq_true rfl) (by decide) SM_no (fun z1 g3 p2 => ?_)
  obtain ⟨u5, eu5, u5p, J4⟩ := p2
  cases eu5
  obtain rfl : z1 = none := u5p
  refine ex_goto (tgt := 312) ok_X12_toLeader (mi 14 rfl) rfl ?_
  refine ex_vret ok_X12_toLeader (mi 131 rfl) rfl ?_
  exact ⟨_, rfl, rfl, J4⟩
theorem s_X12_toLeader_6 {G : GE} (hst : (ge_l G).stackTraces = false) {y c : Nat} {D : UT} {R : Nat → Prop} {g : GT} (I : MI y D c R g) {a0 : Nat} (ha0 : a0 < 3) {a1 : Nat} (ha1 : a1 < 402) {m : Nat} (hmk : MK y g a1 6 m) : ex_M G 6 0 0 my_X12_toLeader [.ref y, .int (nI (a0)), .int (nI (a1))] g (SM y D c R pN) := by
  refine ex_M_of ok_X12_toLeader cw_X12_toLeader rfl hst (Nat.le_of_ble_eq_true rfl) ?_
  have hm3 : m < 301 := hmk.2.2.2.2.2.2.2.1
  refine ex_aload_n ok_X12_toLeader (mi 0 rfl) rfl ?_
  refine ex_getRx ok_X12_toLeader (mi 1 rfl) rfl rfl (fk (MI_s I) 0 rfl) (fr (MI_s I) 49 rfl) (fk (MI_s I) 50 rfl) (by decide) ?_
  refine ex_iload_n ok_X12_toLeader (mi 2 rfl) rfl ?_
  refine sm_iald ok_X12_toLeader (mi 3 rfl) (fk (MI_s I) 50 rfl) (fn (MI_s I) 50 rfl) rfl (by omega) (by decide) ?_
  refine ex_top (w := nI 6) hmk.1 ?_
  refine ex_tblk (tgt := 126) ok_X12_toLeader (mi 4 rfl) (by decide) (by decide) (by decide) (by decide) ?_
  refine ex_aload_n ok_X12_toLeader (mi 15 rfl) rfl ?_
  refine ex_iload_n ok_X12_toLeader (mi 16 rfl) rfl ?_
  refine ex_iload_n ok_X12_toLeader (mi 17 rfl) rfl ?_
  refine sm_V (As := [_, _]) ok_X12_toLeader (mi 18 rfl) rfl (s_X12_voted hst I (by omega) (by omega) hmk) rfl (fk (MI_s I) 0 rfl) rfl rfl (by decide) (by decide) (Nat.le_of_ble_eq_true rfl) (by decide) SM_no (fun z1 g3 p2 => ?_)
  obtain ⟨u5, eu5, u5p, J4⟩ := p2
  cases eu5
  obtain rfl : z1 = none := u5p
  refine ex_goto (tgt := 312) ok_X12_toLeader (mi 19 rfl) rfl ?_
  refine ex_vret ok_X12_toLeader (mi 131 rfl) rfl ?_
  exact ⟨_, rfl, rfl, J4⟩
theorem s_X12_toLeader_8 {G : GE} (hst : (ge_l G).stackTraces = false) {y c : Nat} {D : UT} {R : Nat → Prop} {g : GT} (I : MI y D c R g) {a0 : Nat} (ha0 : a0 < 3) {a1 : Nat} (ha1 : a1 < 402) {m : Nat} (hmk : MK y g a1 8 m) : ex_M G 6 0 0 my_X12_toLeader [.ref y, .int (nI (a0)), .int (nI (a1))] g (SM y D c R pN) := by
  refine ex_M_of ok_X12_toLeader cw_X12_toLeader rfl hst (Nat.le_of_ble_eq_true rfl) ?_
  have hm3 : m < 301 := hmk.2.2.2.2.2.2.2.1
  refine ex_aload_n ok_X12_toLeader (mi 0 rfl) rfl ?_
  refine ex_getRx ok_X12_toLeader (mi 1 rfl) rfl rfl (fk (MI_s I) 0 rfl) (fr (MI_s I) 49 rfl) (fk (MI_s I) 50 rfl) (by decide) ?_
  refine ex_iload_n ok_X12_toLeader (mi 2 rfl) rfl ?_
  refine sm_iald ok_X12_toLeader (mi 3 rfl) (fk (MI_s I) 50 rfl) (fn (MI_s I) 50 rfl) rfl (by omega) (by decide) ?_
  refine ex_top (w := nI 8) hmk.1 ?_
  refine ex_tblk (tgt := 135) ok_X12_toLeader (mi 4 rfl) (by decide) (by decide) (by decide) (by decide) ?_
  refine ex_aload_n ok_X12_toLeader (mi 20 rfl) rfl ?_
  refine ex_iload_n ok_X12_toLeader (mi 21 rfl) rfl ?_
  refine ex_iload_n ok_X12_toLeader (mi 22 rfl) rfl ?_
  refine sm_V (As := [_, _]) ok_X12_toLeader (mi 23 rfl) rfl (s_X12_told hst I (by omega) (by omega) hmk) rfl (fk (MI_s I) 0 rfl) rfl rfl (by decide) (by decide) (Nat.le_of_ble_eq_true rfl) (by decide) SM_no (fun z1 g3 p2 => ?_)
  obtain ⟨u5, eu5, u5p, J4⟩ := p2
  cases eu5
  obtain rfl : z1 = none := u5p
  refine ex_goto (tgt := 312) ok_X12_toLeader (mi 24 rfl) rfl ?_
  refine ex_vret ok_X12_toLeader (mi 131 rfl) rfl ?_
  exact ⟨_, rfl, rfl, J4⟩
theorem s_X12_toLeader_10 {G : GE} (hst : (ge_l G).stackTraces = false) {y c : Nat} {D : UT} {R : Nat → Prop} {g : GT} (I : MI y D c R g) {a0 : Nat} (ha0 : a0 < 3) {a1 : Nat} (ha1 : a1 < 402) {m : Nat} (hmk : MK y g a1 10 m) : ex_M G 6 0 0 my_X12_toLeader [.ref y, .int (nI (a0)), .int (nI (a1))] g (SM y D c R pN) := by
  refine ex_M_of ok_X12_toLeader cw_X12_toLeader rfl hst (Nat.le_of_ble_eq_true rfl) ?_
  have hm3 : m < 301 := hmk.2.2.2.2.2.2.2.1
  refine ex_aload_n ok_X12_toLeader (mi 0 rfl) rfl ?_
  refine ex_getRx ok_X12_toLeader (mi 1 rfl) rfl rfl (fk (MI_s I) 0 rfl) (fr (MI_s I) 49 rfl) (fk (MI_s I) 50 rfl) (by decide) ?_
  refine ex_iload_n ok_X12_toLeader (mi 2 rfl) rfl ?_
  refine sm_iald ok_X12_toLeader (mi 3 rfl) (fk (MI_s I) 50 rfl) (fn (MI_s I) 50 rfl) rfl (by omega) (by decide) ?_
  refine ex_top (w := nI 10) hmk.1 ?_
  refine ex_tblk (tgt := 144) ok_X12_toLeader (mi 4 rfl) (by decide) (by decide) (by decide) (by decide) ?_
  refine ex_aload_n ok_X12_toLeader (mi 25 rfl) rfl ?_
  refine ex_iload_n ok_X12_toLeader (mi 26 rfl) rfl ?_
  refine ex_iload_n ok_X12_toLeader (mi 27 rfl) rfl ?_
  refine sm_V (As := [_, _]) ok_X12_toLeader (mi 28 rfl) rfl (s_X12_knowing hst I (by omega) (by omega) hmk) rfl (fk (MI_s I) 0 rfl) rfl rfl (by decide) (by decide) (Nat.le_of_ble_eq_true rfl) (by decide) SM_no (fun z1 g3 p2 => ?_)
  obtain ⟨u5, eu5, u5p, J4⟩ := p2
  cases eu5
  obtain rfl : z1 = none := u5p
  refine ex_goto (tgt := 312) ok_X12_toLeader (mi 29 rfl) rfl ?_
  refine ex_vret ok_X12_toLeader (mi 131 rfl) rfl ?_
  exact ⟨_, rfl, rfl, J4⟩
theorem s_X12_toLeader_12 {G : GE} (hst : (ge_l G).stackTraces = false) {y c : Nat} {D : UT} {R : Nat → Prop} {g : GT} (I : MI y D c R g) {a0 : Nat} (ha0 : a0 < 3) {a1 : Nat} (ha1 : a1 < 402) {m : Nat} (hmk : MK y g a1 12 m) : ex_M G 6 0 0 my_X12_toLeader [.ref y, .int (nI (a0)), .int (nI (a1))] g (SM y D c R pN) := by
  refine ex_M_of ok_X12_toLeader cw_X12_toLeader rfl hst (Nat.le_of_ble_eq_true rfl) ?_
  have hm3 : m < 301 := hmk.2.2.2.2.2.2.2.1
  refine ex_aload_n ok_X12_toLeader (mi 0 rfl) rfl ?_
  refine ex_getRx ok_X12_toLeader (mi 1 rfl) rfl rfl (fk (MI_s I) 0 rfl) (fr (MI_s I) 49 rfl) (fk (MI_s I) 50 rfl) (by decide) ?_
  refine ex_iload_n ok_X12_toLeader (mi 2 rfl) rfl ?_
  refine sm_iald ok_X12_toLeader (mi 3 rfl) (fk (MI_s I) 50 rfl) (fn (MI_s I) 50 rfl) rfl (by omega) (by decide) ?_
  refine ex_top (w := nI 12) hmk.1 ?_
  refine ex_tblk (tgt := 153) ok_X12_toLeader (mi 4 rfl) (by decide) (by decide) (by decide) (by decide) ?_
  refine ex_aload_n ok_X12_toLeader (mi 30 rfl) rfl ?_
  refine ex_iload_n ok_X12_toLeader (mi 31 rfl) rfl ?_
  refine ex_iload_n ok_X12_toLeader (mi 32 rfl) rfl ?_
  refine sm_V (As := [_, _]) ok_X12_toLeader (mi 33 rfl) rfl (s_X12_collected hst I (by omega) (by omega) hmk) rfl (fk (MI_s I) 0 rfl) rfl rfl (by decide) (by decide) (Nat.le_of_ble_eq_true rfl) (by decide) SM_no (fun z1 g3 p2 => ?_)
  obtain ⟨u5, eu5, u5p, J4⟩ := p2
  cases eu5
  obtain rfl : z1 = none := u5p
  refine ex_goto (tgt := 312) ok_X12_toLeader (mi 34 rfl) rfl ?_
  refine ex_vret ok_X12_toLeader (mi 131 rfl) rfl ?_
  exact ⟨_, rfl, rfl, J4⟩
theorem s_X12_toLeader_14 {G : GE} (hst : (ge_l G).stackTraces = false) {y c : Nat} {D : UT} {R : Nat → Prop} {g : GT} (I : MI y D c R g) {a0 : Nat} (ha0 : a0 < 3) {a1 : Nat} (ha1 : a1 < 402) {m : Nat} (hmk : MK y g a1 14 m) : ex_M G 6 0 0 my_X12_toLeader [.ref y, .int (nI (a0)), .int (nI (a1))] g (SM y D c R pN) := by
  refine ex_M_of ok_X12_toLeader cw_X12_toLeader rfl hst (Nat.le_of_ble_eq_true rfl) ?_
  have hm3 : m < 301 := hmk.2.2.2.2.2.2.2.1
  refine ex_aload_n ok_X12_toLeader (mi 0 rfl) rfl ?_
  refine ex_getRx ok_X12_toLeader (mi 1 rfl) rfl rfl (fk (MI_s I) 0 rfl) (fr (MI_s I) 49 rfl) (fk (MI_s I) 50 rfl) (by decide) ?_
  refine ex_iload_n ok_X12_toLeader (mi 2 rfl) rfl ?_
  refine sm_iald ok_X12_toLeader (mi 3 rfl) (fk (MI_s I) 50 rfl) (fn (MI_s I) 50 rfl) rfl (by omega) (by decide) ?_
  refine ex_top (w := nI 14) hmk.1 ?_
  refine ex_tblk (tgt := 162) ok_X12_toLeader (mi 4 rfl) (by decide) (by decide) (by decide) (by decide) ?_
  refine ex_aload_n ok_X12_toLeader (mi 35 rfl) rfl ?_
  refine ex_getRx ok_X12_toLeader (mi 36 rfl) rfl rfl (fk (MI_s I) 0 rfl) (fr (MI_s I) 19 rfl) (fk (MI_s I) 20 rfl) (by decide) ?_
  refine ex_iload_n ok_X12_toLeader (mi 37 rfl) rfl ?_
  refine sm_iald ok_X12_toLeader (mi 38 rfl) (fk (MI_s I) 20 rfl) (fn (MI_s I) 20 rfl) rfl (by omega) (by decide) ?_
  refine ex_gen (fun w1 => ?_)
  refine ex_iconst ok_X12_toLeader (mi 39 rfl) ?_
  refine ex_icmp_ne (tgt := 312) ok_X12_toLeader (mi 40 rfl) rfl (fun h169 => ?_) (fun h169 => ?_)
  · skip
    refine ex_vret ok_X12_toLeader (mi 131 rfl) rfl ?_
    exact ⟨_, rfl, rfl, I⟩
  · skip
    refine ex_aload_n ok_X12_toLeader (mi 41 rfl) rfl ?_
    refine ex_getRx ok_X12_toLeader (mi 42 rfl) rfl rfl (fk (MI_s I) 0 rfl) (fr (MI_s I) 2 rfl) (fk (MI_s I) 3 rfl) (by decide) ?_
    refine ex_iload_n ok_X12_toLeader (mi 43 rfl) rfl ?_
    refine sm_iald ok_X12_toLeader (mi 44 rfl) (fk (MI_s I) 3 rfl) (fn (MI_s I) 3 rfl) rfl (by omega) (by decide) ?_
    refine ex_gen (fun w2 => ?_)
    refine ex_aload_n ok_X12_toLeader (mi 45 rfl) rfl ?_
    refine ex_getRx ok_X12_toLeader (mi 46 rfl) rfl rfl (fk (MI_s I) 0 rfl) (fr (MI_s I) 52 rfl) (fk (MI_s I) 53 rfl) (by decide) ?_
    refine ex_iconst ok_X12_toLeader (mi 47 rfl) ?_
    refine ex_iload_n ok_X12_toLeader (mi 48 rfl) rfl ?_
    refine ex_imul ok_X12_toLeader (mi 49 rfl) ?_
    refine ex_top (w := (nI (3 * a1))) (nI_mulc rfl) ?_
    refine sm_iald ok_X12_toLeader (mi 50 rfl) (fk (MI_s I) 53 rfl) (fn (MI_s I) 53 rfl) rfl (by omega) (by decide) ?_
    refine ex_gen (fun w3 => ?_)
    refine ex_icmp_ne (tgt := 312) ok_X12_toLeader (mi 51 rfl) rfl (fun h186 => ?_) (fun h186 => ?_)
    · skip
      refine ex_vret ok_X12_toLeader (mi 131 rfl) rfl ?_
      exact ⟨_, rfl, rfl, I⟩
    · skip
      refine ex_aload_n ok_X12_toLeader (mi 52 rfl) rfl ?_
      refine ex_getRx ok_X12_toLeader (mi 53 rfl) rfl rfl (fk (MI_s I) 0 rfl) (fr (MI_s I) 24 rfl) (fk (MI_s I) 25 rfl) (by decide) ?_
      refine ex_iload_n ok_X12_toLeader (mi 54 rfl) rfl ?_
      refine ex_dup2 ok_X12_toLeader (mi 55 rfl) rfl rfl ?_
      refine sm_iald ok_X12_toLeader (mi 56 rfl) (fk (MI_s I) 25 rfl) (fn (MI_s I) 25 rfl) rfl (by omega) (by decide) ?_
      refine ex_gen (fun w4 => ?_)
      refine ex_iconst ok_X12_toLeader (mi 57 rfl) ?_
      refine ex_aload_n ok_X12_toLeader (mi 58 rfl) rfl ?_
      refine ex_getRx ok_X12_toLeader (mi 59 rfl) rfl rfl (fk (MI_s I) 0 rfl) (fr (MI_s I) 50 rfl) (fk (MI_s I) 51 rfl) (by decide) ?_
      refine ex_iload_n ok_X12_toLeader (mi 60 rfl) rfl ?_
      refine sm_iald ok_X12_toLeader (mi 61 rfl) (fk (MI_s I) 51 rfl) (fn (MI_s I) 51 rfl) rfl (by omega) (by decide) ?_
      refine ex_gen (fun w5 => ?_)
      refine ex_ishl ok_X12_toLeader (mi 62 rfl) ?_
      refine ex_gen (fun w6 => ?_)
      refine ex_ior ok_X12_toLeader (mi 63 rfl) ?_
      refine ex_gen (fun w7 => ?_)
      refine mf_A I ok_X12_toLeader (mi 64 rfl) (fk (MI_s I) 25 rfl) (fn (MI_s I) 25 rfl) rfl (by omega) (by decide) (by decide) (by decide) (by decide) (fun g8 J9 K10 => ?_)
      have mk11 := KK_mk K10 hmk
      refine ex_goto (tgt := 312) ok_X12_toLeader (mi 65 rfl) rfl ?_
      refine ex_vret ok_X12_toLeader (mi 131 rfl) rfl ?_
      exact ⟨_, rfl, rfl, J9⟩
theorem s_X12_toLeader_15 {G : GE} (hst : (ge_l G).stackTraces = false) {y c : Nat} {D : UT} {R : Nat → Prop} {g : GT} (I : MI y D c R g) {a0 : Nat} (ha0 : a0 < 3) {a1 : Nat} (ha1 : a1 < 402) {m : Nat} (hmk : MK y g a1 15 m) : ex_M G 6 0 0 my_X12_toLeader [.ref y, .int (nI (a0)), .int (nI (a1))] g (SM y D c R pN) := by
  refine ex_M_of ok_X12_toLeader cw_X12_toLeader rfl hst (Nat.le_of_ble_eq_true rfl) ?_
  have hm3 : m < 301 := hmk.2.2.2.2.2.2.2.1
  refine ex_aload_n ok_X12_toLeader (mi 0 rfl) rfl ?_
  refine ex_getRx ok_X12_toLeader (mi 1 rfl) rfl rfl (fk (MI_s I) 0 rfl) (fr (MI_s I) 49 rfl) (fk (MI_s I) 50 rfl) (by decide) ?_
  refine ex_iload_n ok_X12_toLeader (mi 2 rfl) rfl ?_
  refine sm_iald ok_X12_toLeader (mi 3 rfl) (fk (MI_s I) 50 rfl) (fn (MI_s I) 50 rfl) rfl (by omega) (by decide) ?_
  refine ex_top (w := nI 15) hmk.1 ?_
  refine ex_tblk (tgt := 279) ok_X12_toLeader (mi 4 rfl) (by decide) (by decide) (by decide) (by decide) ?_
  refine ex_aload_n ok_X12_toLeader (mi 110 rfl) rfl ?_
  refine ex_getRx ok_X12_toLeader (mi 111 rfl) rfl rfl (fk (MI_s I) 0 rfl) (fr (MI_s I) 1 rfl) (fk (MI_s I) 2 rfl) (by decide) ?_
  refine ex_iload_n ok_X12_toLeader (mi 112 rfl) rfl ?_
  refine ex_aload_n ok_X12_toLeader (mi 113 rfl) rfl ?_
  refine ex_getRx ok_X12_toLeader (mi 114 rfl) rfl rfl (fk (MI_s I) 0 rfl) (fr (MI_s I) 2 rfl) (fk (MI_s I) 3 rfl) (by decide) ?_
  refine ex_iload_n ok_X12_toLeader (mi 115 rfl) rfl ?_
  refine sm_iald ok_X12_toLeader (mi 116 rfl) (fk (MI_s I) 3 rfl) (fn (MI_s I) 3 rfl) rfl (by omega) (by decide) ?_
  refine ex_gen (fun w1 => ?_)
  refine ex_aload_n ok_X12_toLeader (mi 117 rfl) rfl ?_
  refine ex_getRx ok_X12_toLeader (mi 118 rfl) rfl rfl (fk (MI_s I) 0 rfl) (fr (MI_s I) 52 rfl) (fk (MI_s I) 53 rfl) (by decide) ?_
  refine ex_iconst ok_X12_toLeader (mi 119 rfl) ?_
  refine ex_iload_n ok_X12_toLeader (mi 120 rfl) rfl ?_
  refine ex_imul ok_X12_toLeader (mi 121 rfl) ?_
  refine ex_top (w := (nI (3 * a1))) (nI_mulc rfl) ?_
  refine sm_iald ok_X12_toLeader (mi 122 rfl) (fk (MI_s I) 53 rfl) (fn (MI_s I) 53 rfl) rfl (by omega) (by decide) ?_
  refine ex_gen (fun w2 => ?_)
  refine ex_icmp_ne (tgt := 305) ok_X12_toLeader (mi 123 rfl) rfl (fun h298 => ?_) (fun h298 => ?_)
  · skip
    refine ex_aload_n ok_X12_toLeader (mi 126 rfl) rfl ?_
    refine ex_getRx ok_X12_toLeader (mi 127 rfl) rfl rfl (fk (MI_s I) 0 rfl) (fr (MI_s I) 1 rfl) (fk (MI_s I) 2 rfl) (by decide) ?_
    refine ex_iload_n ok_X12_toLeader (mi 128 rfl) rfl ?_
    refine sm_iald ok_X12_toLeader (mi 129 rfl) (fk (MI_s I) 2 rfl) (fn (MI_s I) 2 rfl) rfl (by omega) (by decide) ?_
    refine mf_ph2 I ok_X12_toLeader (mi 130 rfl) (fk (MI_s I) 2 rfl) (fn (MI_s I) 2 rfl) rfl (by omega) (fun g3 J4 K5 => ?_)
    have mk6 := KK_mk K5 hmk
    refine ex_vret ok_X12_toLeader (mi 131 rfl) rfl ?_
    exact ⟨_, rfl, rfl, J4⟩
  · skip
    refine ex_iconst ok_X12_toLeader (mi 124 rfl) ?_
    refine ex_goto (tgt := 311) ok_X12_toLeader (mi 125 rfl) rfl ?_
    refine mf_ph I ok_X12_toLeader (mi 130 rfl) (fk (MI_s I) 2 rfl) (fn (MI_s I) 2 rfl) rfl (by omega) (Or.inl (by decide)) (fun g7 J8 K9 => ?_)
    have mk10 := KK_mk K9 hmk
    refine ex_vret ok_X12_toLeader (mi 131 rfl) rfl ?_
    exact ⟨_, rfl, rfl, J8⟩
theorem s_X12_toLeader_17 {G : GE} (hst : (ge_l G).stackTraces = false) {y c : Nat} {D : UT} {R : Nat → Prop} {g : GT} (I : MI y D c R g) {a0 : Nat} (ha0 : a0 < 3) {a1 : Nat} (ha1 : a1 < 402) {m : Nat} (hmk : MK y g a1 17 m) : ex_M G 6 0 0 my_X12_toLeader [.ref y, .int (nI (a0)), .int (nI (a1))] g (SM y D c R pN) := by
  refine ex_M_of ok_X12_toLeader cw_X12_toLeader rfl hst (Nat.le_of_ble_eq_true rfl) ?_
  have hm3 : m < 301 := hmk.2.2.2.2.2.2.2.1
  refine ex_aload_n ok_X12_toLeader (mi 0 rfl) rfl ?_
  refine ex_getRx ok_X12_toLeader (mi 1 rfl) rfl rfl (fk (MI_s I) 0 rfl) (fr (MI_s I) 49 rfl) (fk (MI_s I) 50 rfl) (by decide) ?_
  refine ex_iload_n ok_X12_toLeader (mi 2 rfl) rfl ?_
  refine sm_iald ok_X12_toLeader (mi 3 rfl) (fk (MI_s I) 50 rfl) (fn (MI_s I) 50 rfl) rfl (by omega) (by decide) ?_
  refine ex_top (w := nI 17) hmk.1 ?_
  refine ex_tblk (tgt := 209) ok_X12_toLeader (mi 4 rfl) (by decide) (by decide) (by decide) (by decide) ?_
  refine ex_aload_n ok_X12_toLeader (mi 66 rfl) rfl ?_
  refine ex_iload_n ok_X12_toLeader (mi 67 rfl) rfl ?_
  refine ex_iload_n ok_X12_toLeader (mi 68 rfl) rfl ?_
  refine sm_V (As := [_, _]) ok_X12_toLeader (mi 69 rfl) rfl (s_X12_stopped hst I (by omega) (by omega) hmk) rfl (fk (MI_s I) 0 rfl) rfl rfl (by decide) (by decide) (Nat.le_of_ble_eq_true rfl) (by decide) SM_no (fun z1 g3 p2 => ?_)
  obtain ⟨u5, eu5, u5p, J4⟩ := p2
  cases eu5
  obtain rfl : z1 = none := u5p
  refine ex_goto (tgt := 312) ok_X12_toLeader (mi 70 rfl) rfl ?_
  refine ex_vret ok_X12_toLeader (mi 131 rfl) rfl ?_
  exact ⟨_, rfl, rfl, J4⟩
theorem s_X12_toLeader_19 {G : GE} (hst : (ge_l G).stackTraces = false) {y c : Nat} {D : UT} {R : Nat → Prop} {g : GT} (I : MI y D c R g) {a0 : Nat} (ha0 : a0 < 3) {a1 : Nat} (ha1 : a1 < 402) {m : Nat} (hmk : MK y g a1 19 m) : ex_M G 6 0 0 my_X12_toLeader [.ref y, .int (nI (a0)), .int (nI (a1))] g (SM y D c R pN) := by
  refine ex_M_of ok_X12_toLeader cw_X12_toLeader rfl hst (Nat.le_of_ble_eq_true rfl) ?_
  have hm3 : m < 301 := hmk.2.2.2.2.2.2.2.1
  refine ex_aload_n ok_X12_toLeader (mi 0 rfl) rfl ?_
  refine ex_getRx ok_X12_toLeader (mi 1 rfl) rfl rfl (fk (MI_s I) 0 rfl) (fr (MI_s I) 49 rfl) (fk (MI_s I) 50 rfl) (by decide) ?_
  refine ex_iload_n ok_X12_toLeader (mi 2 rfl) rfl ?_
  refine sm_iald ok_X12_toLeader (mi 3 rfl) (fk (MI_s I) 50 rfl) (fn (MI_s I) 50 rfl) rfl (by omega) (by decide) ?_
  refine ex_top (w := nI 19) hmk.1 ?_
  refine ex_tblk (tgt := 218) ok_X12_toLeader (mi 4 rfl) (by decide) (by decide) (by decide) (by decide) ?_
  refine ex_aload_n ok_X12_toLeader (mi 71 rfl) rfl ?_
  refine ex_iload_n ok_X12_toLeader (mi 72 rfl) rfl ?_
  refine ex_iload_n ok_X12_toLeader (mi 73 rfl) rfl ?_
  refine sm_V (As := [_, _]) ok_X12_toLeader (mi 74 rfl) rfl (s_X12_seeded hst I (by omega) (by omega) hmk) rfl (fk (MI_s I) 0 rfl) rfl rfl (by decide) (by decide) (Nat.le_of_ble_eq_true rfl) (by decide) SM_no (fun z1 g3 p2 => ?_)
  obtain ⟨u5, eu5, u5p, J4⟩ := p2
  cases eu5
  obtain rfl : z1 = none := u5p
  refine ex_goto (tgt := 312) ok_X12_toLeader (mi 75 rfl) rfl ?_
  refine ex_vret ok_X12_toLeader (mi 131 rfl) rfl ?_
  exact ⟨_, rfl, rfl, J4⟩
theorem s_X12_toLeader_21 {G : GE} (hst : (ge_l G).stackTraces = false) {y c : Nat} {D : UT} {R : Nat → Prop} {g : GT} (I : MI y D c R g) {a0 : Nat} (ha0 : a0 < 3) {a1 : Nat} (ha1 : a1 < 402) {m : Nat} (hmk : MK y g a1 21 m) : ex_M G 6 0 0 my_X12_toLeader [.ref y, .int (nI (a0)), .int (nI (a1))] g (SM y D c R pN) := by
  refine ex_M_of ok_X12_toLeader cw_X12_toLeader rfl hst (Nat.le_of_ble_eq_true rfl) ?_
  have hm3 : m < 301 := hmk.2.2.2.2.2.2.2.1
  refine ex_aload_n ok_X12_toLeader (mi 0 rfl) rfl ?_
  refine ex_getRx ok_X12_toLeader (mi 1 rfl) rfl rfl (fk (MI_s I) 0 rfl) (fr (MI_s I) 49 rfl) (fk (MI_s I) 50 rfl) (by decide) ?_
  refine ex_iload_n ok_X12_toLeader (mi 2 rfl) rfl ?_
  refine sm_iald ok_X12_toLeader (mi 3 rfl) (fk (MI_s I) 50 rfl) (fn (MI_s I) 50 rfl) rfl (by omega) (by decide) ?_
  refine ex_top (w := nI 21) hmk.1 ?_
  refine ex_tblk (tgt := 227) ok_X12_toLeader (mi 4 rfl) (by decide) (by decide) (by decide) (by decide) ?_
  refine ex_aload_n ok_X12_toLeader (mi 76 rfl) rfl ?_
  refine ex_iload_n ok_X12_toLeader (mi 77 rfl) rfl ?_
  refine ex_iload_n ok_X12_toLeader (mi 78 rfl) rfl ?_
  refine sm_V (As := [_, _]) ok_X12_toLeader (mi 79 rfl) rfl (s_X12_picked hst I (by omega) (by omega) hmk) rfl (fk (MI_s I) 0 rfl) rfl rfl (by decide) (by decide) (Nat.le_of_ble_eq_true rfl) (by decide) SM_no (fun z1 g3 p2 => ?_)
  obtain ⟨u5, eu5, u5p, J4⟩ := p2
  cases eu5
  obtain rfl : z1 = none := u5p
  refine ex_goto (tgt := 312) ok_X12_toLeader (mi 80 rfl) rfl ?_
  refine ex_vret ok_X12_toLeader (mi 131 rfl) rfl ?_
  exact ⟨_, rfl, rfl, J4⟩
theorem s_X12_toLeader_23 {G : GE} (hst : (ge_l G).stackTraces = false) {y c : Nat} {D : UT} {R : Nat → Prop} {g : GT} (I : MI y D c R g) {a0 : Nat} (ha0 : a0 < 3) {a1 : Nat} (ha1 : a1 < 402) {m : Nat} (hmk : MK y g a1 23 m) : ex_M G 6 0 0 my_X12_toLeader [.ref y, .int (nI (a0)), .int (nI (a1))] g (SM y D c R pN) := by
  refine ex_M_of ok_X12_toLeader cw_X12_toLeader rfl hst (Nat.le_of_ble_eq_true rfl) ?_
  have hm3 : m < 301 := hmk.2.2.2.2.2.2.2.1
  refine ex_aload_n ok_X12_toLeader (mi 0 rfl) rfl ?_
  refine ex_getRx ok_X12_toLeader (mi 1 rfl) rfl rfl (fk (MI_s I) 0 rfl) (fr (MI_s I) 49 rfl) (fk (MI_s I) 50 rfl) (by decide) ?_
  refine ex_iload_n ok_X12_toLeader (mi 2 rfl) rfl ?_
  refine sm_iald ok_X12_toLeader (mi 3 rfl) (fk (MI_s I) 50 rfl) (fn (MI_s I) 50 rfl) rfl (by omega) (by decide) ?_
  refine ex_top (w := nI 23) hmk.1 ?_
  refine ex_tblk (tgt := 236) ok_X12_toLeader (mi 4 rfl) (by decide) (by decide) (by decide) (by decide) ?_
  refine ex_aload_n ok_X12_toLeader (mi 81 rfl) rfl ?_
  refine ex_getRx ok_X12_toLeader (mi 82 rfl) rfl rfl (fk (MI_s I) 0 rfl) (fr (MI_s I) 4 rfl) (fk (MI_s I) 5 rfl) (by decide) ?_
  refine ex_iload_n ok_X12_toLeader (mi 83 rfl) rfl ?_
  refine sm_iald ok_X12_toLeader (mi 84 rfl) (fk (MI_s I) 5 rfl) (fn (MI_s I) 5 rfl) rfl (by omega) (by decide) ?_
  refine ex_gen (fun w1 => ?_)
  refine ex_aload_n ok_X12_toLeader (mi 85 rfl) rfl ?_
  refine ex_getRx ok_X12_toLeader (mi 86 rfl) rfl rfl (fk (MI_s I) 0 rfl) (fr (MI_s I) 52 rfl) (fk (MI_s I) 53 rfl) (by decide) ?_
  refine ex_iconst ok_X12_toLeader (mi 87 rfl) ?_
  refine ex_iload_n ok_X12_toLeader (mi 88 rfl) rfl ?_
  refine ex_imul ok_X12_toLeader (mi 89 rfl) ?_
  refine ex_top (w := (nI (3 * a1))) (nI_mulc rfl) ?_
  refine sm_iald ok_X12_toLeader (mi 90 rfl) (fk (MI_s I) 53 rfl) (fn (MI_s I) 53 rfl) rfl (by omega) (by decide) ?_
  refine ex_gen (fun w2 => ?_)
  refine ex_icmp_ge (tgt := 312) ok_X12_toLeader (mi 91 rfl) rfl (fun h250 => ?_) (fun h250 => ?_)
  · skip
    refine ex_vret ok_X12_toLeader (mi 131 rfl) rfl ?_
    exact ⟨_, rfl, rfl, I⟩
  · skip
    refine ex_aload_n ok_X12_toLeader (mi 92 rfl) rfl ?_
    refine ex_iload_n ok_X12_toLeader (mi 93 rfl) rfl ?_
    refine ex_aload_n ok_X12_toLeader (mi 94 rfl) rfl ?_
    refine ex_getRx ok_X12_toLeader (mi 95 rfl) rfl rfl (fk (MI_s I) 0 rfl) (fr (MI_s I) 52 rfl) (fk (MI_s I) 53 rfl) (by decide) ?_
    refine ex_iconst ok_X12_toLeader (mi 96 rfl) ?_
    refine ex_iload_n ok_X12_toLeader (mi 97 rfl) rfl ?_
    refine ex_imul ok_X12_toLeader (mi 98 rfl) ?_
    refine ex_top (w := (nI (3 * a1))) (nI_mulc rfl) ?_
    refine sm_iald ok_X12_toLeader (mi 99 rfl) (fk (MI_s I) 53 rfl) (fn (MI_s I) 53 rfl) rfl (by omega) (by decide) ?_
    refine ex_gen (fun w3 => ?_)
    refine ex_aload_n ok_X12_toLeader (mi 100 rfl) rfl ?_
    refine ex_getRx ok_X12_toLeader (mi 101 rfl) rfl rfl (fk (MI_s I) 0 rfl) (fr (MI_s I) 52 rfl) (fk (MI_s I) 53 rfl) (by decide) ?_
    refine ex_iconst ok_X12_toLeader (mi 102 rfl) ?_
    refine ex_iload_n ok_X12_toLeader (mi 103 rfl) rfl ?_
    refine ex_imul ok_X12_toLeader (mi 104 rfl) ?_
    refine ex_top (w := (nI (3 * a1))) (nI_mulc rfl) ?_
    refine ex_iconst ok_X12_toLeader (mi 105 rfl) ?_
    refine ex_iadd ok_X12_toLeader (mi 106 rfl) ?_
    refine ex_top (w := (nI (3 * a1 + 1))) (nI_add _ 1) ?_
    refine sm_iald ok_X12_toLeader (mi 107 rfl) (fk (MI_s I) 53 rfl) (fn (MI_s I) 53 rfl) rfl (by omega) (by decide) ?_
    obtain ⟨v4, hv4, ev4⟩ := vp_in_of (n := 512) (vb_in hmk.2.2.2.2.1 (by decide)) (by decide)
    refine ex_top (w := nI v4) ev4 ?_
    refine sm_V (As := [_, _, _]) ok_X12_toLeader (mi 108 rfl) rfl (s_X12_goOn hst I (by omega) (by omega)) rfl (fk (MI_s I) 0 rfl) rfl rfl (by decide) (by decide) (Nat.le_of_ble_eq_true rfl) (by decide) SM_no (fun z5 g7 p6 => ?_)
    obtain ⟨u9, eu9, u9p, J8⟩ := p6
    cases eu9
    obtain rfl : z5 = none := u9p
    refine ex_goto (tgt := 312) ok_X12_toLeader (mi 109 rfl) rfl ?_
    refine ex_vret ok_X12_toLeader (mi 131 rfl) rfl ?_
    exact ⟨_, rfl, rfl, J8⟩
theorem s_X12_toLeader_24 {G : GE} (hst : (ge_l G).stackTraces = false) {y c : Nat} {D : UT} {R : Nat → Prop} {g : GT} (I : MI y D c R g) {a0 : Nat} (ha0 : a0 < 3) {a1 : Nat} (ha1 : a1 < 402) {m : Nat} (hmk : MK y g a1 24 m) : ex_M G 6 0 0 my_X12_toLeader [.ref y, .int (nI (a0)), .int (nI (a1))] g (SM y D c R pN) := by
  refine ex_M_of ok_X12_toLeader cw_X12_toLeader rfl hst (Nat.le_of_ble_eq_true rfl) ?_
  have hm3 : m < 301 := hmk.2.2.2.2.2.2.2.1
  refine ex_aload_n ok_X12_toLeader (mi 0 rfl) rfl ?_
  refine ex_getRx ok_X12_toLeader (mi 1 rfl) rfl rfl (fk (MI_s I) 0 rfl) (fr (MI_s I) 49 rfl) (fk (MI_s I) 50 rfl) (by decide) ?_
  refine ex_iload_n ok_X12_toLeader (mi 2 rfl) rfl ?_
  refine sm_iald ok_X12_toLeader (mi 3 rfl) (fk (MI_s I) 50 rfl) (fn (MI_s I) 50 rfl) rfl (by omega) (by decide) ?_
  refine ex_top (w := nI 24) hmk.1 ?_
  refine ex_tblk (tgt := 279) ok_X12_toLeader (mi 4 rfl) (by decide) (by decide) (by decide) (by decide) ?_
  refine ex_aload_n ok_X12_toLeader (mi 110 rfl) rfl ?_
  refine ex_getRx ok_X12_toLeader (mi 111 rfl) rfl rfl (fk (MI_s I) 0 rfl) (fr (MI_s I) 1 rfl) (fk (MI_s I) 2 rfl) (by decide) ?_
  refine ex_iload_n ok_X12_toLeader (mi 112 rfl) rfl ?_
  refine ex_aload_n ok_X12_toLeader (mi 113 rfl) rfl ?_
  refine ex_getRx ok_X12_toLeader (mi 114 rfl) rfl rfl (fk (MI_s I) 0 rfl) (fr (MI_s I) 2 rfl) (fk (MI_s I) 3 rfl) (by decide) ?_
  refine ex_iload_n ok_X12_toLeader (mi 115 rfl) rfl ?_
  refine sm_iald ok_X12_toLeader (mi 116 rfl) (fk (MI_s I) 3 rfl) (fn (MI_s I) 3 rfl) rfl (by omega) (by decide) ?_
  refine ex_gen (fun w1 => ?_)
  refine ex_aload_n ok_X12_toLeader (mi 117 rfl) rfl ?_
  refine ex_getRx ok_X12_toLeader (mi 118 rfl) rfl rfl (fk (MI_s I) 0 rfl) (fr (MI_s I) 52 rfl) (fk (MI_s I) 53 rfl) (by decide) ?_
  refine ex_iconst ok_X12_toLeader (mi 119 rfl) ?_
  refine ex_iload_n ok_X12_toLeader (mi 120 rfl) rfl ?_
  refine ex_imul ok_X12_toLeader (mi 121 rfl) ?_
  refine ex_top (w := (nI (3 * a1))) (nI_mulc rfl) ?_
  refine sm_iald ok_X12_toLeader (mi 122 rfl) (fk (MI_s I) 53 rfl) (fn (MI_s I) 53 rfl) rfl (by omega) (by decide) ?_
  refine ex_gen (fun w2 => ?_)
  refine ex_icmp_ne (tgt := 305) ok_X12_toLeader (mi 123 rfl) rfl (fun h298 => ?_) (fun h298 => ?_)
  · skip
    refine ex_aload_n ok_X12_toLeader (mi 126 rfl) rfl ?_
    refine ex_getRx ok_X12_toLeader (mi 127 rfl) rfl rfl (fk (MI_s I) 0 rfl) (fr (MI_s I) 1 rfl) (fk (MI_s I) 2 rfl) (by decide) ?_
    refine ex_iload_n ok_X12_toLeader (mi 128 rfl) rfl ?_
    refine sm_iald ok_X12_toLeader (mi 129 rfl) (fk (MI_s I) 2 rfl) (fn (MI_s I) 2 rfl) rfl (by omega) (by decide) ?_
    refine mf_ph2 I ok_X12_toLeader (mi 130 rfl) (fk (MI_s I) 2 rfl) (fn (MI_s I) 2 rfl) rfl (by omega) (fun g3 J4 K5 => ?_)
    have mk6 := KK_mk K5 hmk
    refine ex_vret ok_X12_toLeader (mi 131 rfl) rfl ?_
    exact ⟨_, rfl, rfl, J4⟩
  · skip
    refine ex_iconst ok_X12_toLeader (mi 124 rfl) ?_
    refine ex_goto (tgt := 311) ok_X12_toLeader (mi 125 rfl) rfl ?_
    refine mf_ph I ok_X12_toLeader (mi 130 rfl) (fk (MI_s I) 2 rfl) (fn (MI_s I) 2 rfl) rfl (by omega) (Or.inl (by decide)) (fun g7 J8 K9 => ?_)
    have mk10 := KK_mk K9 hmk
    refine ex_vret ok_X12_toLeader (mi 131 rfl) rfl ?_
    exact ⟨_, rfl, rfl, J8⟩
