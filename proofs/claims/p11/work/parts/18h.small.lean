theorem s_X12_goOn {G : GE} (hst : (ge_l G).stackTraces = false) {y c : Nat} {D : UT} {R : Nat → Prop} {g : GT} (I : MI y D c R g) {a0 : Nat} (ha0 : a0 < 3) {p1 : Int32} {a2 : Nat} (ha2 : a2 < 512) : ex_M G 2 0 0 my_X12_goOn [.ref y, .int (nI (a0)), .int p1, .int (nI (a2))] g (SM y D c R pN) := by
  refine ex_M_of ok_X12_goOn cw_X12_goOn rfl hst (Nat.le_of_ble_eq_true rfl) ?_
  refine ex_aload_n ok_X12_goOn (mi 0 rfl) rfl ?_
  refine ex_getRx ok_X12_goOn (mi 1 rfl) rfl rfl (fk (MI_s I) 0 rfl) (fr (MI_s I) 4 rfl) (fk (MI_s I) 5 rfl) (by decide) ?_
  refine ex_iload_n ok_X12_goOn (mi 2 rfl) rfl ?_
  refine ex_iload_n ok_X12_goOn (mi 3 rfl) rfl ?_
  refine mf_A I ok_X12_goOn (mi 4 rfl) (fk (MI_s I) 5 rfl) (fn (MI_s I) 5 rfl) rfl (by omega) (by decide) (by decide) (by decide) (by decide) (fun g1 J2 K3 => ?_)
  refine ex_aload_n ok_X12_goOn (mi 5 rfl) rfl ?_
  refine ex_getRx ok_X12_goOn (mi 6 rfl) rfl rfl (fk (MI_s J2) 0 rfl) (fr (MI_s J2) 5 rfl) (fk (MI_s J2) 6 rfl) (by decide) ?_
  refine ex_iload_n ok_X12_goOn (mi 7 rfl) rfl ?_
  refine ex_iload_n ok_X12_goOn (mi 8 rfl) rfl ?_
  refine mf_B J2 ok_X12_goOn (mi 9 rfl) (fk (MI_s J2) 6 rfl) (fn (MI_s J2) 6 rfl) rfl (by omega) (by decide) (B := 512) (by decide) (by decide) (by decide) (vp_in_nI (N := 512) (by omega) (by decide)) (fun g4 J5 K6 => ?_)
  refine ex_aload_n ok_X12_goOn (mi 10 rfl) rfl ?_
  refine ex_getRx ok_X12_goOn (mi 11 rfl) rfl rfl (fk (MI_s J5) 0 rfl) (fr (MI_s J5) 1 rfl) (fk (MI_s J5) 2 rfl) (by decide) ?_
  refine ex_iload_n ok_X12_goOn (mi 12 rfl) rfl ?_
  refine sm_iald ok_X12_goOn (mi 13 rfl) (fk (MI_s J5) 2 rfl) (fn (MI_s J5) 2 rfl) rfl (by omega) (by decide) ?_
  refine ex_iconst ok_X12_goOn (mi 14 rfl) ?_
  refine ex_icmp_ne (tgt := 29) ok_X12_goOn (mi 15 rfl) rfl (fun h21 => ?_) (fun h21 => ?_)
  · skip
    refine ex_aload_n ok_X12_goOn (mi 19 rfl) rfl ?_
    refine ex_getRx ok_X12_goOn (mi 20 rfl) rfl rfl (fk (MI_s J5) 0 rfl) (fr (MI_s J5) 22 rfl) (fk (MI_s J5) 23 rfl) (by decide) ?_
    refine ex_iload_n ok_X12_goOn (mi 21 rfl) rfl ?_
    refine ex_iconst ok_X12_goOn (mi 22 rfl) ?_
    refine mf_A J5 ok_X12_goOn (mi 23 rfl) (fk (MI_s J5) 23 rfl) (fn (MI_s J5) 23 rfl) rfl (by omega) (by decide) (by decide) (by decide) (by decide) (fun g7 J8 K9 => ?_)
    refine ex_aload_n ok_X12_goOn (mi 24 rfl) rfl ?_
    refine ex_getRx ok_X12_goOn (mi 25 rfl) rfl rfl (fk (MI_s J8) 0 rfl) (fr (MI_s J8) 25 rfl) (fk (MI_s J8) 26 rfl) (by decide) ?_
    refine ex_iload_n ok_X12_goOn (mi 26 rfl) rfl ?_
    refine ex_iconst ok_X12_goOn (mi 27 rfl) ?_
    refine mf_A J8 ok_X12_goOn (mi 28 rfl) (fk (MI_s J8) 26 rfl) (fn (MI_s J8) 26 rfl) rfl (by omega) (by decide) (by decide) (by decide) (by decide) (fun g10 J11 K12 => ?_)
    refine ex_vret ok_X12_goOn (mi 29 rfl) rfl ?_
    exact ⟨_, rfl, rfl, J11⟩
  · skip
    have J13 := MI_Ra (l := a0) J5 (by rw [h21]; decide)
    refine ex_aload_n ok_X12_goOn (mi 16 rfl) rfl ?_
    refine ex_iload_n ok_X12_goOn (mi 17 rfl) rfl ?_
    refine sm_V (As := [_]) ok_X12_goOn (mi 18 rfl) rfl (s_X12_forgetMatching hst J13 (by omega)) rfl (fk (MI_s J13) 0 rfl) rfl rfl (by decide) (by decide) (Nat.le_of_ble_eq_true rfl) (by decide) SM_no (fun z14 g16 p15 => ?_)
    obtain ⟨u18, eu18, u18p, J17⟩ := p15
    cases eu18
    obtain rfl : z14 = none := u18p
    refine ex_aload_n ok_X12_goOn (mi 19 rfl) rfl ?_
    refine ex_getRx ok_X12_goOn (mi 20 rfl) rfl rfl (fk (MI_s J17) 0 rfl) (fr (MI_s J17) 22 rfl) (fk (MI_s J17) 23 rfl) (by decide) ?_
    refine ex_iload_n ok_X12_goOn (mi 21 rfl) rfl ?_
    refine ex_iconst ok_X12_goOn (mi 22 rfl) ?_
    refine mf_A J17 ok_X12_goOn (mi 23 rfl) (fk (MI_s J17) 23 rfl) (fn (MI_s J17) 23 rfl) rfl (by omega) (by decide) (by decide) (by decide) (by decide) (fun g19 J20 K21 => ?_)
    refine ex_aload_n ok_X12_goOn (mi 24 rfl) rfl ?_
    refine ex_getRx ok_X12_goOn (mi 25 rfl) rfl rfl (fk (MI_s J20) 0 rfl) (fr (MI_s J20) 25 rfl) (fk (MI_s J20) 26 rfl) (by decide) ?_
    refine ex_iload_n ok_X12_goOn (mi 26 rfl) rfl ?_
    refine ex_iconst ok_X12_goOn (mi 27 rfl) ?_
    refine mf_A J20 ok_X12_goOn (mi 28 rfl) (fk (MI_s J20) 26 rfl) (fn (MI_s J20) 26 rfl) rfl (by omega) (by decide) (by decide) (by decide) (by decide) (fun g22 J23 K24 => ?_)
    refine ex_vret ok_X12_goOn (mi 29 rfl) rfl ?_
    exact ⟨_, rfl, rfl, (MI_Rw J23 (fun l k => (Or.inl k)))⟩
theorem s_X12_sayGone {G : GE} (hst : (ge_l G).stackTraces = false) {y c : Nat} {D : UT} {R : Nat → Prop} {g : GT} (I : MI y D c R g) {a0 : Nat} (ha0 : a0 < 9) {a1 : Nat} (ha1 : a1 < 3) : ex_M G 2 0 0 my_X12_sayGone [.ref y, .int (nI (a0)), .int (nI (a1))] g (SM y D c R pN) := by
  refine ex_M_of ok_X12_sayGone cw_X12_sayGone rfl hst (Nat.le_of_ble_eq_true rfl) ?_
  refine ex_aload_n ok_X12_sayGone (mi 0 rfl) rfl ?_
  refine ex_getRx ok_X12_sayGone (mi 1 rfl) rfl rfl (fk (MI_s I) 0 rfl) (fr (MI_s I) 41 rfl) (fk (MI_s I) 42 rfl) (by decide) ?_
  refine ex_iload_n ok_X12_sayGone (mi 2 rfl) rfl ?_
  refine sm_iald ok_X12_sayGone (mi 3 rfl) (fk (MI_s I) 42 rfl) (fn (MI_s I) 42 rfl) rfl (by omega) (by decide) ?_
  obtain ⟨v1, hv1, ev1⟩ := vp_in_of (n := 512) (MI_bd I 12 rfl (i := a0) (by omega)) (by decide)
  refine ex_top (w := nI v1) ev1 ?_
  refine ex_if_eq (tgt := 33) ok_X12_sayGone (mi 4 rfl) rfl (fun h6 => ?_) (fun h6 => ?_)
  · skip
    refine ex_vret ok_X12_sayGone (mi 22 rfl) rfl ?_
    exact ⟨_, rfl, rfl, I⟩
  · skip
    have n6 : v1 ≠ 0 := fun e => h6 (by rw [e]; rfl)
    refine ex_aload_n ok_X12_sayGone (mi 5 rfl) rfl ?_
    refine ex_bipush ok_X12_sayGone (mi 6 rfl) ?_
    refine ex_iload_n ok_X12_sayGone (mi 7 rfl) rfl ?_
    refine ex_iload_n ok_X12_sayGone (mi 8 rfl) rfl ?_
    refine ex_aload_n ok_X12_sayGone (mi 9 rfl) rfl ?_
    refine ex_getRx ok_X12_sayGone (mi 10 rfl) rfl rfl (fk (MI_s I) 0 rfl) (fr (MI_s I) 34 rfl) (fk (MI_s I) 35 rfl) (by decide) ?_
    refine ex_iload_n ok_X12_sayGone (mi 11 rfl) rfl ?_
    refine sm_iald ok_X12_sayGone (mi 12 rfl) (fk (MI_s I) 35 rfl) (fn (MI_s I) 35 rfl) rfl (by omega) (by decide) ?_
    refine ex_gen (fun w2 => ?_)
    refine ex_iconst ok_X12_sayGone (mi 13 rfl) ?_
    refine ex_iadd ok_X12_sayGone (mi 14 rfl) ?_
    refine ex_gen (fun w3 => ?_)
    refine ex_aload_n ok_X12_sayGone (mi 15 rfl) rfl ?_
    refine ex_getRx ok_X12_sayGone (mi 16 rfl) rfl rfl (fk (MI_s I) 0 rfl) (fr (MI_s I) 41 rfl) (fk (MI_s I) 42 rfl) (by decide) ?_
    refine ex_iload_n ok_X12_sayGone (mi 17 rfl) rfl ?_
    refine sm_iald ok_X12_sayGone (mi 18 rfl) (fk (MI_s I) 42 rfl) (fn (MI_s I) 42 rfl) rfl (by omega) (by decide) ?_
    refine ex_top (w := nI v1) ev1 ?_
    refine ex_iconst ok_X12_sayGone (mi 19 rfl) ?_
    refine sm_V (As := [_, _, _, _, _, _]) ok_X12_sayGone (mi 20 rfl) rfl (s_X12_lay hst I (κ := 23) (by decide) (Or.inl rfl) (Or.inr (vp_in_nI (N := 3) (by omega) (by decide))) (Or.inl rfl) (Or.inr (vp_in_nI (N := 512) (by omega) (by decide))) (Or.inl rfl)) rfl (fk (MI_s I) 0 rfl) rfl rfl (by decide) (by decide) (Nat.le_of_ble_eq_true rfl) (by decide) LV_no (fun z4 g6 p5 => ?_)
    obtain ⟨b8, eb8, hb8, J7, lb8⟩ := p5
    cases eb8
    refine ex_istore_n ok_X12_sayGone (mi 21 rfl) ?_
    refine ex_vret ok_X12_sayGone (mi 22 rfl) rfl ?_
    exact ⟨_, rfl, rfl, J7⟩
theorem s_X12_pickAt {G : GE} (hst : (ge_l G).stackTraces = false) {y c : Nat} {D : UT} {R : Nat → Prop} {g : GT} (I : MI y D c R g) {a0 : Nat} (ha0 : a0 < 9) {a1 : Nat} (ha1 : a1 < 3) {p2 : Int32} {p3 : Int32} {a4 : Nat} (ha4 : a4 < 512) : ex_M G 2 0 0 my_X12_pickAt [.ref y, .int (nI (a0)), .int (nI (a1)), .int p2, .int p3, .int (nI (a4))] g (SM y D c R pN) := by
  refine ex_M_of ok_X12_pickAt cw_X12_pickAt rfl hst (Nat.le_of_ble_eq_true rfl) ?_
  refine ex_aload_n ok_X12_pickAt (mi 0 rfl) rfl ?_
  refine ex_getRx ok_X12_pickAt (mi 1 rfl) rfl rfl (fk (MI_s I) 0 rfl) (fr (MI_s I) 33 rfl) (fk (MI_s I) 34 rfl) (by decide) ?_
  refine ex_iload_n ok_X12_pickAt (mi 2 rfl) rfl ?_
  refine sm_iald ok_X12_pickAt (mi 3 rfl) (fk (MI_s I) 34 rfl) (fn (MI_s I) 34 rfl) rfl (by omega) (by decide) ?_
  refine ex_gen (fun w1 => ?_)
  refine ex_iconst ok_X12_pickAt (mi 4 rfl) ?_
  refine ex_icmp_ne (tgt := 40) ok_X12_pickAt (mi 5 rfl) rfl (fun h7 => ?_) (fun h7 => ?_)
  · skip
    refine ex_vret ok_X12_pickAt (mi 23 rfl) rfl ?_
    exact ⟨_, rfl, rfl, I⟩
  · skip
    refine ex_aload_n ok_X12_pickAt (mi 6 rfl) rfl ?_
    refine ex_getRx ok_X12_pickAt (mi 7 rfl) rfl rfl (fk (MI_s I) 0 rfl) (fr (MI_s I) 34 rfl) (fk (MI_s I) 35 rfl) (by decide) ?_
    refine ex_iload_n ok_X12_pickAt (mi 8 rfl) rfl ?_
    refine sm_iald ok_X12_pickAt (mi 9 rfl) (fk (MI_s I) 35 rfl) (fn (MI_s I) 35 rfl) rfl (by omega) (by decide) ?_
    refine ex_gen (fun w2 => ?_)
    refine ex_iload_n ok_X12_pickAt (mi 10 rfl) rfl ?_
    refine ex_icmp_ne (tgt := 40) ok_X12_pickAt (mi 11 rfl) rfl (fun h17 => ?_) (fun h17 => ?_)
    · skip
      refine ex_vret ok_X12_pickAt (mi 23 rfl) rfl ?_
      exact ⟨_, rfl, rfl, I⟩
    · skip
      refine ex_aload_n ok_X12_pickAt (mi 12 rfl) rfl ?_
      refine ex_getRx ok_X12_pickAt (mi 13 rfl) rfl rfl (fk (MI_s I) 0 rfl) (fr (MI_s I) 41 rfl) (fk (MI_s I) 42 rfl) (by decide) ?_
      refine ex_iload_n ok_X12_pickAt (mi 14 rfl) rfl ?_
      refine sm_iald ok_X12_pickAt (mi 15 rfl) (fk (MI_s I) 42 rfl) (fn (MI_s I) 42 rfl) rfl (by omega) (by decide) ?_
      obtain ⟨v3, hv3, ev3⟩ := vp_in_of (n := 512) (MI_bd I 12 rfl (i := a0) (by omega)) (by decide)
      refine ex_top (w := nI v3) ev3 ?_
      refine ex_if_ne (tgt := 40) ok_X12_pickAt (mi 16 rfl) rfl (fun h26 => ?_) (fun h26 => ?_)
      · skip
        have n26 : v3 ≠ 0 := fun e => h26 (by rw [e]; rfl)
        refine ex_vret ok_X12_pickAt (mi 23 rfl) rfl ?_
        exact ⟨_, rfl, rfl, I⟩
      · skip
        refine ex_iload ok_X12_pickAt (mi 17 rfl) rfl ?_
        refine ex_aload_n ok_X12_pickAt (mi 18 rfl) rfl ?_
        refine ex_getRx ok_X12_pickAt (mi 19 rfl) rfl rfl (fk (MI_s I) 0 rfl) (fr (MI_s I) 38 rfl) (fk (MI_s I) 39 rfl) (by decide) ?_
        refine ex_iload_n ok_X12_pickAt (mi 20 rfl) rfl ?_
        refine sm_iald ok_X12_pickAt (mi 21 rfl) (fk (MI_s I) 39 rfl) (fn (MI_s I) 39 rfl) rfl (by omega) (by decide) ?_
        refine ex_gen (fun w4 => ?_)
        refine ex_icmp_ge (tgt := 41) ok_X12_pickAt (mi 22 rfl) rfl (fun h37 => ?_) (fun h37 => ?_)
        · skip
          refine ex_aload_n ok_X12_pickAt (mi 24 rfl) rfl ?_
          refine ex_getRx ok_X12_pickAt (mi 25 rfl) rfl rfl (fk (MI_s I) 0 rfl) (fr (MI_s I) 39 rfl) (fk (MI_s I) 40 rfl) (by decide) ?_
          refine ex_iload_n ok_X12_pickAt (mi 26 rfl) rfl ?_
          refine ex_iload ok_X12_pickAt (mi 27 rfl) rfl ?_
          refine mf_A I ok_X12_pickAt (mi 28 rfl) (fk (MI_s I) 40 rfl) (fn (MI_s I) 40 rfl) rfl (by omega) (by decide) (by decide) (by decide) (by decide) (fun g5 J6 K7 => ?_)
          refine ex_aload_n ok_X12_pickAt (mi 29 rfl) rfl ?_
          refine ex_getRx ok_X12_pickAt (mi 30 rfl) rfl rfl (fk (MI_s J6) 0 rfl) (fr (MI_s J6) 40 rfl) (fk (MI_s J6) 41 rfl) (by decide) ?_
          refine ex_iload_n ok_X12_pickAt (mi 31 rfl) rfl ?_
          refine ex_iload ok_X12_pickAt (mi 32 rfl) rfl ?_
          refine mf_B J6 ok_X12_pickAt (mi 33 rfl) (fk (MI_s J6) 41 rfl) (fn (MI_s J6) 41 rfl) rfl (by omega) (by decide) (B := 512) (by decide) (by decide) (by decide) (vp_in_nI (N := 512) (by omega) (by decide)) (fun g8 J9 K10 => ?_)
          refine ex_aload_n ok_X12_pickAt (mi 34 rfl) rfl ?_
          refine ex_getRx ok_X12_pickAt (mi 35 rfl) rfl rfl (fk (MI_s J9) 0 rfl) (fr (MI_s J9) 38 rfl) (fk (MI_s J9) 39 rfl) (by decide) ?_
          refine ex_iload_n ok_X12_pickAt (mi 36 rfl) rfl ?_
          refine ex_iload ok_X12_pickAt (mi 37 rfl) rfl ?_
          refine mf_A J9 ok_X12_pickAt (mi 38 rfl) (fk (MI_s J9) 39 rfl) (fn (MI_s J9) 39 rfl) rfl (by omega) (by decide) (by decide) (by decide) (by decide) (fun g11 J12 K13 => ?_)
          refine ex_aload_n ok_X12_pickAt (mi 39 rfl) rfl ?_
          refine ex_bipush ok_X12_pickAt (mi 40 rfl) ?_
          refine ex_iload_n ok_X12_pickAt (mi 41 rfl) rfl ?_
          refine ex_iload_n ok_X12_pickAt (mi 42 rfl) rfl ?_
          refine ex_iload_n ok_X12_pickAt (mi 43 rfl) rfl ?_
          refine ex_iload ok_X12_pickAt (mi 44 rfl) rfl ?_
          refine ex_iconst ok_X12_pickAt (mi 45 rfl) ?_
          refine sm_V (As := [_, _, _, _, _, _]) ok_X12_pickAt (mi 46 rfl) rfl (s_X12_lay hst J12 (κ := 21) (by decide) (Or.inl rfl) (Or.inr (vp_in_nI (N := 3) (by omega) (by decide))) (Or.inl rfl) (Or.inl rfl) (Or.inl rfl)) rfl (fk (MI_s J12) 0 rfl) rfl rfl (by decide) (by decide) (Nat.le_of_ble_eq_true rfl) (by decide) LV_no (fun z14 g16 p15 => ?_)
          obtain ⟨b18, eb18, hb18, J17, lb18⟩ := p15
          cases eb18
          refine ex_istore ok_X12_pickAt (mi 47 rfl) ?_
          refine ex_vret ok_X12_pickAt (mi 48 rfl) rfl ?_
          exact ⟨_, rfl, rfl, J17⟩
        · skip
          refine ex_vret ok_X12_pickAt (mi 23 rfl) rfl ?_
          exact ⟨_, rfl, rfl, I⟩
theorem s_X12_moved {G : GE} (hst : (ge_l G).stackTraces = false) {y c : Nat} {D : UT} {R : Nat → Prop} {g : GT} (I : MI y D c R g) {a0 : Nat} (ha0 : a0 < 9) {p1 : Int32} {a2 : Nat} (ha2 : a2 < 512) : ex_M G 1 0 0 my_X12_moved [.ref y, .int (nI (a0)), .int p1, .int (nI (a2))] g (SM y D c R pN) := by
  refine ex_M_of ok_X12_moved cw_X12_moved rfl hst (Nat.le_of_ble_eq_true rfl) ?_
  refine ex_aload_n ok_X12_moved (mi 0 rfl) rfl ?_
  refine ex_getRx ok_X12_moved (mi 1 rfl) rfl rfl (fk (MI_s I) 0 rfl) (fr (MI_s I) 33 rfl) (fk (MI_s I) 34 rfl) (by decide) ?_
  refine ex_iload_n ok_X12_moved (mi 2 rfl) rfl ?_
  refine sm_iald ok_X12_moved (mi 3 rfl) (fk (MI_s I) 34 rfl) (fn (MI_s I) 34 rfl) rfl (by omega) (by decide) ?_
  refine ex_gen (fun w1 => ?_)
  refine ex_iconst ok_X12_moved (mi 4 rfl) ?_
  refine ex_icmp_ne (tgt := 42) ok_X12_moved (mi 5 rfl) rfl (fun h7 => ?_) (fun h7 => ?_)
  · skip
    refine ex_aload_n ok_X12_moved (mi 26 rfl) rfl ?_
    refine ex_getRx ok_X12_moved (mi 27 rfl) rfl rfl (fk (MI_s I) 0 rfl) (fr (MI_s I) 33 rfl) (fk (MI_s I) 34 rfl) (by decide) ?_
    refine ex_iload_n ok_X12_moved (mi 28 rfl) rfl ?_
    refine sm_iald ok_X12_moved (mi 29 rfl) (fk (MI_s I) 34 rfl) (fn (MI_s I) 34 rfl) rfl (by omega) (by decide) ?_
    refine ex_gen (fun w2 => ?_)
    refine ex_iconst ok_X12_moved (mi 30 rfl) ?_
    refine ex_icmp_ne (tgt := 69) ok_X12_moved (mi 31 rfl) rfl (fun h49 => ?_) (fun h49 => ?_)
    · skip
      refine ex_vret ok_X12_moved (mi 43 rfl) rfl ?_
      exact ⟨_, rfl, rfl, I⟩
    · skip
      refine ex_aload_n ok_X12_moved (mi 32 rfl) rfl ?_
      refine ex_getRx ok_X12_moved (mi 33 rfl) rfl rfl (fk (MI_s I) 0 rfl) (fr (MI_s I) 34 rfl) (fk (MI_s I) 35 rfl) (by decide) ?_
      refine ex_iload_n ok_X12_moved (mi 34 rfl) rfl ?_
      refine sm_iald ok_X12_moved (mi 35 rfl) (fk (MI_s I) 35 rfl) (fn (MI_s I) 35 rfl) rfl (by omega) (by decide) ?_
      refine ex_gen (fun w3 => ?_)
      refine ex_iload_n ok_X12_moved (mi 36 rfl) rfl ?_
      refine ex_icmp_ne (tgt := 69) ok_X12_moved (mi 37 rfl) rfl (fun h59 => ?_) (fun h59 => ?_)
      · skip
        refine ex_vret ok_X12_moved (mi 43 rfl) rfl ?_
        exact ⟨_, rfl, rfl, I⟩
      · skip
        refine ex_aload_n ok_X12_moved (mi 38 rfl) rfl ?_
        refine ex_getRx ok_X12_moved (mi 39 rfl) rfl rfl (fk (MI_s I) 0 rfl) (fr (MI_s I) 41 rfl) (fk (MI_s I) 42 rfl) (by decide) ?_
        refine ex_iload_n ok_X12_moved (mi 40 rfl) rfl ?_
        refine ex_iload_n ok_X12_moved (mi 41 rfl) rfl ?_
        refine mf_B I ok_X12_moved (mi 42 rfl) (fk (MI_s I) 42 rfl) (fn (MI_s I) 42 rfl) rfl (by omega) (by decide) (B := 512) (by decide) (by decide) (by decide) (vp_in_nI (N := 512) (by omega) (by decide)) (fun g4 J5 K6 => ?_)
        refine ex_vret ok_X12_moved (mi 43 rfl) rfl ?_
        exact ⟨_, rfl, rfl, J5⟩
  · skip
    refine ex_aload_n ok_X12_moved (mi 6 rfl) rfl ?_
    refine ex_getRx ok_X12_moved (mi 7 rfl) rfl rfl (fk (MI_s I) 0 rfl) (fr (MI_s I) 34 rfl) (fk (MI_s I) 35 rfl) (by decide) ?_
    refine ex_iload_n ok_X12_moved (mi 8 rfl) rfl ?_
    refine sm_iald ok_X12_moved (mi 9 rfl) (fk (MI_s I) 35 rfl) (fn (MI_s I) 35 rfl) rfl (by omega) (by decide) ?_
    refine ex_gen (fun w7 => ?_)
    refine ex_iload_n ok_X12_moved (mi 10 rfl) rfl ?_
    refine ex_iconst ok_X12_moved (mi 11 rfl) ?_
    refine ex_iadd ok_X12_moved (mi 12 rfl) ?_
    refine ex_gen (fun w8 => ?_)
    refine ex_icmp_ne (tgt := 42) ok_X12_moved (mi 13 rfl) rfl (fun h19 => ?_) (fun h19 => ?_)
    · skip
      refine ex_aload_n ok_X12_moved (mi 26 rfl) rfl ?_
      refine ex_getRx ok_X12_moved (mi 27 rfl) rfl rfl (fk (MI_s I) 0 rfl) (fr (MI_s I) 33 rfl) (fk (MI_s I) 34 rfl) (by decide) ?_
      refine ex_iload_n ok_X12_moved (mi 28 rfl) rfl ?_
      refine sm_iald ok_X12_moved (mi 29 rfl) (fk (MI_s I) 34 rfl) (fn (MI_s I) 34 rfl) rfl (by omega) (by decide) ?_
      refine ex_gen (fun w9 => ?_)
      refine ex_iconst ok_X12_moved (mi 30 rfl) ?_
      refine ex_icmp_ne (tgt := 69) ok_X12_moved (mi 31 rfl) rfl (fun h49 => ?_) (fun h49 => ?_)
      · skip
        refine ex_vret ok_X12_moved (mi 43 rfl) rfl ?_
        exact ⟨_, rfl, rfl, I⟩
      · skip
        refine ex_aload_n ok_X12_moved (mi 32 rfl) rfl ?_
        refine ex_getRx ok_X12_moved (mi 33 rfl) rfl rfl (fk (MI_s I) 0 rfl) (fr (MI_s I) 34 rfl) (fk (MI_s I) 35 rfl) (by decide) ?_
        refine ex_iload_n ok_X12_moved (mi 34 rfl) rfl ?_
        refine sm_iald ok_X12_moved (mi 35 rfl) (fk (MI_s I) 35 rfl) (fn (MI_s I) 35 rfl) rfl (by omega) (by decide) ?_
        refine ex_gen (fun w10 => ?_)
        refine ex_iload_n ok_X12_moved (mi 36 rfl) rfl ?_
        refine ex_icmp_ne (tgt := 69) ok_X12_moved (mi 37 rfl) rfl (fun h59 => ?_) (fun h59 => ?_)
        · skip
          refine ex_vret ok_X12_moved (mi 43 rfl) rfl ?_
          exact ⟨_, rfl, rfl, I⟩
        · skip
          refine ex_aload_n ok_X12_moved (mi 38 rfl) rfl ?_
          refine ex_getRx ok_X12_moved (mi 39 rfl) rfl rfl (fk (MI_s I) 0 rfl) (fr (MI_s I) 41 rfl) (fk (MI_s I) 42 rfl) (by decide) ?_
          refine ex_iload_n ok_X12_moved (mi 40 rfl) rfl ?_
          refine ex_iload_n ok_X12_moved (mi 41 rfl) rfl ?_
          refine mf_B I ok_X12_moved (mi 42 rfl) (fk (MI_s I) 42 rfl) (fn (MI_s I) 42 rfl) rfl (by omega) (by decide) (B := 512) (by decide) (by decide) (by decide) (vp_in_nI (N := 512) (by omega) (by decide)) (fun g11 J12 K13 => ?_)
          refine ex_vret ok_X12_moved (mi 43 rfl) rfl ?_
          exact ⟨_, rfl, rfl, J12⟩
    · skip
      refine ex_aload_n ok_X12_moved (mi 14 rfl) rfl ?_
      refine ex_getRx ok_X12_moved (mi 15 rfl) rfl rfl (fk (MI_s I) 0 rfl) (fr (MI_s I) 35 rfl) (fk (MI_s I) 36 rfl) (by decide) ?_
      refine ex_iload_n ok_X12_moved (mi 16 rfl) rfl ?_
      refine sm_iald ok_X12_moved (mi 17 rfl) (fk (MI_s I) 36 rfl) (fn (MI_s I) 36 rfl) rfl (by omega) (by decide) ?_
      obtain ⟨v14, hv14, ev14⟩ := vp_in_of (n := 512) (MI_bd I 9 rfl (i := a0) (by omega)) (by decide)
      refine ex_top (w := nI v14) ev14 ?_
      refine ex_iload_n ok_X12_moved (mi 18 rfl) rfl ?_
      refine ex_icmp_ne (tgt := 42) ok_X12_moved (mi 19 rfl) rfl (fun h29 => ?_) (fun h29 => ?_)
      · skip
        refine ex_aload_n ok_X12_moved (mi 26 rfl) rfl ?_
        refine ex_getRx ok_X12_moved (mi 27 rfl) rfl rfl (fk (MI_s I) 0 rfl) (fr (MI_s I) 33 rfl) (fk (MI_s I) 34 rfl) (by decide) ?_
        refine ex_iload_n ok_X12_moved (mi 28 rfl) rfl ?_
        refine sm_iald ok_X12_moved (mi 29 rfl) (fk (MI_s I) 34 rfl) (fn (MI_s I) 34 rfl) rfl (by omega) (by decide) ?_
        refine ex_gen (fun w15 => ?_)
        refine ex_iconst ok_X12_moved (mi 30 rfl) ?_
        refine ex_icmp_ne (tgt := 69) ok_X12_moved (mi 31 rfl) rfl (fun h49 => ?_) (fun h49 => ?_)
        · skip
          refine ex_vret ok_X12_moved (mi 43 rfl) rfl ?_
          exact ⟨_, rfl, rfl, I⟩
        · skip
          refine ex_aload_n ok_X12_moved (mi 32 rfl) rfl ?_
          refine ex_getRx ok_X12_moved (mi 33 rfl) rfl rfl (fk (MI_s I) 0 rfl) (fr (MI_s I) 34 rfl) (fk (MI_s I) 35 rfl) (by decide) ?_
          refine ex_iload_n ok_X12_moved (mi 34 rfl) rfl ?_
          refine sm_iald ok_X12_moved (mi 35 rfl) (fk (MI_s I) 35 rfl) (fn (MI_s I) 35 rfl) rfl (by omega) (by decide) ?_
          refine ex_gen (fun w16 => ?_)
          refine ex_iload_n ok_X12_moved (mi 36 rfl) rfl ?_
          refine ex_icmp_ne (tgt := 69) ok_X12_moved (mi 37 rfl) rfl (fun h59 => ?_) (fun h59 => ?_)
          · skip
            refine ex_vret ok_X12_moved (mi 43 rfl) rfl ?_
            exact ⟨_, rfl, rfl, I⟩
          · skip
            refine ex_aload_n ok_X12_moved (mi 38 rfl) rfl ?_
            refine ex_getRx ok_X12_moved (mi 39 rfl) rfl rfl (fk (MI_s I) 0 rfl) (fr (MI_s I) 41 rfl) (fk (MI_s I) 42 rfl) (by decide) ?_
            refine ex_iload_n ok_X12_moved (mi 40 rfl) rfl ?_
            refine ex_iload_n ok_X12_moved (mi 41 rfl) rfl ?_
            refine mf_B I ok_X12_moved (mi 42 rfl) (fk (MI_s I) 42 rfl) (fn (MI_s I) 42 rfl) rfl (by omega) (by decide) (B := 512) (by decide) (by decide) (by decide) (vp_in_nI (N := 512) (by omega) (by decide)) (fun g17 J18 K19 => ?_)
            refine ex_vret ok_X12_moved (mi 43 rfl) rfl ?_
            exact ⟨_, rfl, rfl, J18⟩
      · skip
        refine ex_aload_n ok_X12_moved (mi 20 rfl) rfl ?_
        refine ex_getRx ok_X12_moved (mi 21 rfl) rfl rfl (fk (MI_s I) 0 rfl) (fr (MI_s I) 33 rfl) (fk (MI_s I) 34 rfl) (by decide) ?_
        refine ex_iload_n ok_X12_moved (mi 22 rfl) rfl ?_
        refine ex_iconst ok_X12_moved (mi 23 rfl) ?_
        refine mf_A I ok_X12_moved (mi 24 rfl) (fk (MI_s I) 34 rfl) (fn (MI_s I) 34 rfl) rfl (by omega) (by decide) (by decide) (by decide) (by decide) (fun g20 J21 K22 => ?_)
        refine ex_goto (tgt := 69) ok_X12_moved (mi 25 rfl) rfl ?_
        refine ex_vret ok_X12_moved (mi 43 rfl) rfl ?_
        exact ⟨_, rfl, rfl, J21⟩
theorem s_X12_collectAt {G : GE} (hst : (ge_l G).stackTraces = false) {y c : Nat} {D : UT} {R : Nat → Prop} {g : GT} (I : MI y D c R g) {a0 : Nat} (ha0 : a0 < 9) {a1 : Nat} (ha1 : a1 < 3) {p2 : Int32} {a3 : Nat} (ha3 : a3 < 300) : ex_M G 3 0 0 my_X12_collectAt [.ref y, .int (nI (a0)), .int (nI (a1)), .int p2, .int (nI (a3))] g (SM y D c R pN) := by
  refine ex_M_of ok_X12_collectAt cw_X12_collectAt rfl hst (Nat.le_of_ble_eq_true rfl) ?_
  refine ex_aload_n ok_X12_collectAt (mi 0 rfl) rfl ?_
  refine ex_iload_n ok_X12_collectAt (mi 1 rfl) rfl ?_
  refine ex_iload_n ok_X12_collectAt (mi 2 rfl) rfl ?_
  refine sf_Vp (As := [_, _]) ok_X12_collectAt (mi 3 rfl) rfl (s_X12_isOn hst (MI_s I) (vp_in_nI (N := 9) (by omega) (by decide))) rfl (fk (MI_s I) 0 rfl) rfl rfl (by decide) (by decide) (Nat.le_of_ble_eq_true rfl) (by decide) (fun z1 p2 => ?_)
  obtain ⟨v5, rfl, hbv5⟩ := p2
  refine ex_if_ne (tgt := 16) ok_X12_collectAt (mi 4 rfl) rfl (fun h6 => ?_) (fun h6 => ?_)
  · skip
    refine ex_iconst ok_X12_collectAt (mi 10 rfl) ?_
    refine ex_istore ok_X12_collectAt (mi 11 rfl) ?_
    have lp19 : ∀ n19 k19 : Nat, k19 + n19 = 300 → ∀ (g6 : GT), MI y D c R g6 → ex_W G 3 0 0 M_X12_collectAt 19 [(0, .ref y), (1, .int (nI (a0))), (2, .int (nI (a1))), (3, .int p2), (4, .int (nI (a3))), (5, .int (nI (k19)))] [] g6 (SM y D c R pN) := by
      intro n19
      induction n19 with
      | zero =>
        intro k19 he19  g6 J7 
        obtain rfl : k19 = 300 := by omega
        refine ex_iload ok_X12_collectAt (mi 12 rfl) rfl ?_
        refine ex_iload ok_X12_collectAt (mi 13 rfl) rfl ?_
        refine ex_icmp_ge (tgt := 46) ok_X12_collectAt (mi 14 rfl) rfl (fun _ => ?_) (fun hn => absurd (nI_le (b := 300) (a := a3) (by omega) (by omega)) hn)
        refine ex_aload_n ok_X12_collectAt (mi 26 rfl) rfl ?_
        refine ex_getRx ok_X12_collectAt (mi 27 rfl) rfl rfl (fk (MI_s J7) 0 rfl) (fr (MI_s J7) 36 rfl) (fk (MI_s J7) 37 rfl) (by decide) ?_
        refine ex_iload_n ok_X12_collectAt (mi 28 rfl) rfl ?_
        refine ex_iload ok_X12_collectAt (mi 29 rfl) rfl ?_
        refine ex_aload_n ok_X12_collectAt (mi 30 rfl) rfl ?_
        refine ex_getRx ok_X12_collectAt (mi 31 rfl) rfl rfl (fk (MI_s J7) 0 rfl) (fr (MI_s J7) 36 rfl) (fk (MI_s J7) 37 rfl) (by decide) ?_
        refine ex_iload_n ok_X12_collectAt (mi 32 rfl) rfl ?_
        refine sm_iald ok_X12_collectAt (mi 33 rfl) (fk (MI_s J7) 37 rfl) (fn (MI_s J7) 37 rfl) rfl (by omega) (by decide) ?_
        obtain ⟨v8, hv8, ev8⟩ := vp_in_of (n := 300) (MI_bd J7 10 rfl (i := a0) (by omega)) (by decide)
        refine ex_top (w := nI v8) ev8 ?_
        refine ex_icmp_le (tgt := 67) ok_X12_collectAt (mi 34 rfl) rfl (fun h59 => ?_) (fun h59 => ?_)
        · skip
          refine ex_aload_n ok_X12_collectAt (mi 37 rfl) rfl ?_
          refine ex_getRx ok_X12_collectAt (mi 38 rfl) rfl rfl (fk (MI_s J7) 0 rfl) (fr (MI_s J7) 36 rfl) (fk (MI_s J7) 37 rfl) (by decide) ?_
          refine ex_iload_n ok_X12_collectAt (mi 39 rfl) rfl ?_
          refine sm_iald ok_X12_collectAt (mi 40 rfl) (fk (MI_s J7) 37 rfl) (fn (MI_s J7) 37 rfl) rfl (by omega) (by decide) ?_
          refine ex_top (w := nI v8) ev8 ?_
          refine mf_B J7 ok_X12_collectAt (mi 41 rfl) (fk (MI_s J7) 37 rfl) (fn (MI_s J7) 37 rfl) rfl (by omega) (by decide) (B := 300) (by decide) (by decide) (by decide) (vp_in_nI (N := 300) (by omega) (by decide)) (fun g9 J10 K11 => ?_)
          refine ex_aload_n ok_X12_collectAt (mi 42 rfl) rfl ?_
          refine ex_bipush ok_X12_collectAt (mi 43 rfl) ?_
          refine ex_iload_n ok_X12_collectAt (mi 44 rfl) rfl ?_
          refine ex_iload_n ok_X12_collectAt (mi 45 rfl) rfl ?_
          refine ex_iload_n ok_X12_collectAt (mi 46 rfl) rfl ?_
          refine ex_iload ok_X12_collectAt (mi 47 rfl) rfl ?_
          refine ex_iconst ok_X12_collectAt (mi 48 rfl) ?_
          refine sm_V (As := [_, _, _, _, _, _]) ok_X12_collectAt (mi 49 rfl) rfl (s_X12_lay hst J10 (κ := 12) (by decide) (Or.inl rfl) (Or.inr (vp_in_nI (N := 3) (by omega) (by decide))) (Or.inl rfl) (Or.inl rfl) (Or.inl rfl)) rfl (fk (MI_s J10) 0 rfl) rfl rfl (by decide) (by decide) (Nat.le_of_ble_eq_true rfl) (by decide) LV_no (fun z12 g14 p13 => ?_)
          obtain ⟨b16, eb16, hb16, J15, lb16⟩ := p13
          cases eb16
          refine ex_istore ok_X12_collectAt (mi 50 rfl) ?_
          refine ex_vret ok_X12_collectAt (mi 51 rfl) rfl ?_
          exact ⟨_, rfl, rfl, J15⟩
        · skip
          refine ex_iload ok_X12_collectAt (mi 35 rfl) rfl ?_
          refine ex_goto (tgt := 73) ok_X12_collectAt (mi 36 rfl) rfl ?_
          refine mf_B J7 ok_X12_collectAt (mi 41 rfl) (fk (MI_s J7) 37 rfl) (fn (MI_s J7) 37 rfl) rfl (by omega) (by decide) (B := 300) (by decide) (by decide) (by decide) (vp_in_nI (N := 300) (by omega) (by decide)) (fun g17 J18 K19 => ?_)
          refine ex_aload_n ok_X12_collectAt (mi 42 rfl) rfl ?_
          refine ex_bipush ok_X12_collectAt (mi 43 rfl) ?_
          refine ex_iload_n ok_X12_collectAt (mi 44 rfl) rfl ?_
          refine ex_iload_n ok_X12_collectAt (mi 45 rfl) rfl ?_
          refine ex_iload_n ok_X12_collectAt (mi 46 rfl) rfl ?_
          refine ex_iload ok_X12_collectAt (mi 47 rfl) rfl ?_
          refine ex_iconst ok_X12_collectAt (mi 48 rfl) ?_
          refine sm_V (As := [_, _, _, _, _, _]) ok_X12_collectAt (mi 49 rfl) rfl (s_X12_lay hst J18 (κ := 12) (by decide) (Or.inl rfl) (Or.inr (vp_in_nI (N := 3) (by omega) (by decide))) (Or.inl rfl) (Or.inl rfl) (Or.inl rfl)) rfl (fk (MI_s J18) 0 rfl) rfl rfl (by decide) (by decide) (Nat.le_of_ble_eq_true rfl) (by decide) LV_no (fun z20 g22 p21 => ?_)
          obtain ⟨b24, eb24, hb24, J23, lb24⟩ := p21
          cases eb24
          refine ex_istore ok_X12_collectAt (mi 50 rfl) ?_
          refine ex_vret ok_X12_collectAt (mi 51 rfl) rfl ?_
          exact ⟨_, rfl, rfl, J23⟩
      | succ n19 ih19 =>
        intro k19 he19  g6 J7 
        have hr19 : k19 < 300 := by omega
        refine ex_iload ok_X12_collectAt (mi 12 rfl) rfl ?_
        refine ex_iload ok_X12_collectAt (mi 13 rfl) rfl ?_
        refine ex_icmp_ge (tgt := 46) ok_X12_collectAt (mi 14 rfl) rfl (fun h23 => ?_) (fun h23 => ?_)
        · skip
          refine ex_aload_n ok_X12_collectAt (mi 26 rfl) rfl ?_
          refine ex_getRx ok_X12_collectAt (mi 27 rfl) rfl rfl (fk (MI_s J7) 0 rfl) (fr (MI_s J7) 36 rfl) (fk (MI_s J7) 37 rfl) (by decide) ?_
          refine ex_iload_n ok_X12_collectAt (mi 28 rfl) rfl ?_
          refine ex_iload ok_X12_collectAt (mi 29 rfl) rfl ?_
          refine ex_aload_n ok_X12_collectAt (mi 30 rfl) rfl ?_
          refine ex_getRx ok_X12_collectAt (mi 31 rfl) rfl rfl (fk (MI_s J7) 0 rfl) (fr (MI_s J7) 36 rfl) (fk (MI_s J7) 37 rfl) (by decide) ?_
          refine ex_iload_n ok_X12_collectAt (mi 32 rfl) rfl ?_
          refine sm_iald ok_X12_collectAt (mi 33 rfl) (fk (MI_s J7) 37 rfl) (fn (MI_s J7) 37 rfl) rfl (by omega) (by decide) ?_
          obtain ⟨v25, hv25, ev25⟩ := vp_in_of (n := 300) (MI_bd J7 10 rfl (i := a0) (by omega)) (by decide)
          refine ex_top (w := nI v25) ev25 ?_
          refine ex_icmp_le (tgt := 67) ok_X12_collectAt (mi 34 rfl) rfl (fun h59 => ?_) (fun h59 => ?_)
          · skip
            refine ex_aload_n ok_X12_collectAt (mi 37 rfl) rfl ?_
            refine ex_getRx ok_X12_collectAt (mi 38 rfl) rfl rfl (fk (MI_s J7) 0 rfl) (fr (MI_s J7) 36 rfl) (fk (MI_s J7) 37 rfl) (by decide) ?_
            refine ex_iload_n ok_X12_collectAt (mi 39 rfl) rfl ?_
            refine sm_iald ok_X12_collectAt (mi 40 rfl) (fk (MI_s J7) 37 rfl) (fn (MI_s J7) 37 rfl) rfl (by omega) (by decide) ?_
            refine ex_top (w := nI v25) ev25 ?_
            refine mf_B J7 ok_X12_collectAt (mi 41 rfl) (fk (MI_s J7) 37 rfl) (fn (MI_s J7) 37 rfl) rfl (by omega) (by decide) (B := 300) (by decide) (by decide) (by decide) (vp_in_nI (N := 300) (by omega) (by decide)) (fun g26 J27 K28 => ?_)
            refine ex_aload_n ok_X12_collectAt (mi 42 rfl) rfl ?_
            refine ex_bipush ok_X12_collectAt (mi 43 rfl) ?_
            refine ex_iload_n ok_X12_collectAt (mi 44 rfl) rfl ?_
            refine ex_iload_n ok_X12_collectAt (mi 45 rfl) rfl ?_
            refine ex_iload_n ok_X12_collectAt (mi 46 rfl) rfl ?_
            refine ex_iload ok_X12_collectAt (mi 47 rfl) rfl ?_
            refine ex_iconst ok_X12_collectAt (mi 48 rfl) ?_
            refine sm_V (As := [_, _, _, _, _, _]) ok_X12_collectAt (mi 49 rfl) rfl (s_X12_lay hst J27 (κ := 12) (by decide) (Or.inl rfl) (Or.inr (vp_in_nI (N := 3) (by omega) (by decide))) (Or.inl rfl) (Or.inl rfl) (Or.inl rfl)) rfl (fk (MI_s J27) 0 rfl) rfl rfl (by decide) (by decide) (Nat.le_of_ble_eq_true rfl) (by decide) LV_no (fun z29 g31 p30 => ?_)
            obtain ⟨b33, eb33, hb33, J32, lb33⟩ := p30
            cases eb33
            refine ex_istore ok_X12_collectAt (mi 50 rfl) ?_
            refine ex_vret ok_X12_collectAt (mi 51 rfl) rfl ?_
            exact ⟨_, rfl, rfl, J32⟩
          · skip
            refine ex_iload ok_X12_collectAt (mi 35 rfl) rfl ?_
            refine ex_goto (tgt := 73) ok_X12_collectAt (mi 36 rfl) rfl ?_
            refine mf_B J7 ok_X12_collectAt (mi 41 rfl) (fk (MI_s J7) 37 rfl) (fn (MI_s J7) 37 rfl) rfl (by omega) (by decide) (B := 300) (by decide) (by decide) (by decide) (vp_in_nI (N := 300) (by omega) (by decide)) (fun g34 J35 K36 => ?_)
            refine ex_aload_n ok_X12_collectAt (mi 42 rfl) rfl ?_
            refine ex_bipush ok_X12_collectAt (mi 43 rfl) ?_
            refine ex_iload_n ok_X12_collectAt (mi 44 rfl) rfl ?_
            refine ex_iload_n ok_X12_collectAt (mi 45 rfl) rfl ?_
            refine ex_iload_n ok_X12_collectAt (mi 46 rfl) rfl ?_
            refine ex_iload ok_X12_collectAt (mi 47 rfl) rfl ?_
            refine ex_iconst ok_X12_collectAt (mi 48 rfl) ?_
            refine sm_V (As := [_, _, _, _, _, _]) ok_X12_collectAt (mi 49 rfl) rfl (s_X12_lay hst J35 (κ := 12) (by decide) (Or.inl rfl) (Or.inr (vp_in_nI (N := 3) (by omega) (by decide))) (Or.inl rfl) (Or.inl rfl) (Or.inl rfl)) rfl (fk (MI_s J35) 0 rfl) rfl rfl (by decide) (by decide) (Nat.le_of_ble_eq_true rfl) (by decide) LV_no (fun z37 g39 p38 => ?_)
            obtain ⟨b41, eb41, hb41, J40, lb41⟩ := p38
            cases eb41
            refine ex_istore ok_X12_collectAt (mi 50 rfl) ?_
            refine ex_vret ok_X12_collectAt (mi 51 rfl) rfl ?_
            exact ⟨_, rfl, rfl, J40⟩
        · skip
          have l23 : k19 < a3 := Nat.lt_of_not_le (fun q => h23 (nI_le q (by omega)))
          refine ex_aload_n ok_X12_collectAt (mi 15 rfl) rfl ?_
          refine ex_getRx ok_X12_collectAt (mi 16 rfl) rfl rfl (fk (MI_s J7) 0 rfl) (fr (MI_s J7) 37 rfl) (fk (MI_s J7) 38 rfl) (by decide) ?_
          refine ex_sipush ok_X12_collectAt (mi 17 rfl) ?_
          refine ex_iload_n ok_X12_collectAt (mi 18 rfl) rfl ?_
          refine ex_imul ok_X12_collectAt (mi 19 rfl) ?_
          refine ex_top (w := (nI (300 * a0))) (nI_mulc rfl) ?_
          refine ex_iload ok_X12_collectAt (mi 20 rfl) rfl ?_
          refine ex_iadd ok_X12_collectAt (mi 21 rfl) ?_
          refine ex_top (w := (nI (300 * a0 + k19))) (nI_add _ _) ?_
          refine ex_iconst ok_X12_collectAt (mi 22 rfl) ?_
          refine mf_A J7 ok_X12_collectAt (mi 23 rfl) (fk (MI_s J7) 38 rfl) (fn (MI_s J7) 38 rfl) rfl (by omega) (by decide) (by decide) (by decide) (by decide) (fun g42 J43 K44 => ?_)
          refine ex_iincx (w := (nI (k19 + 1))) ok_X12_collectAt (mi 24 rfl) rfl (nI_1 _) ?_
          refine ex_goto (tgt := 19) ok_X12_collectAt (mi 25 rfl) rfl ?_
          exact ex_ls (ls' := [(0, .ref y), (1, .int (nI (a0))), (2, .int (nI (a1))), (3, .int p2), (4, .int (nI (a3))), (5, .int (nI (k19 + 1)))]) ⟨rfl, rfl, rfl, rfl, rfl, rfl, trivial⟩ (ih19 (k19 + 1) (by omega) g42 J43 )
    exact ex_ls (ls' := [(0, .ref y), (1, .int (nI (a0))), (2, .int (nI (a1))), (3, .int p2), (4, .int (nI (a3))), (5, .int (nI 0))]) ⟨rfl, rfl, rfl, rfl, rfl, rfl, trivial⟩ (lp19 (300 - 0) (0) (by omega) g I )
  · skip
    refine ex_aload_n ok_X12_collectAt (mi 5 rfl) rfl ?_
    refine ex_iload_n ok_X12_collectAt (mi 6 rfl) rfl ?_
    refine ex_iload_n ok_X12_collectAt (mi 7 rfl) rfl ?_
    refine sm_V (As := [_, _]) ok_X12_collectAt (mi 8 rfl) rfl (s_X12_sayGone hst I (by omega) (by omega)) rfl (fk (MI_s I) 0 rfl) rfl rfl (by decide) (by decide) (Nat.le_of_ble_eq_true rfl) (by decide) SM_no (fun z45 g47 p46 => ?_)
    obtain ⟨u49, eu49, u49p, J48⟩ := p46
    cases eu49
    obtain rfl : z45 = none := u49p
    refine ex_vret ok_X12_collectAt (mi 9 rfl) rfl ?_
    exact ⟨_, rfl, rfl, J48⟩
