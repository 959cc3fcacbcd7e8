theorem s_X12_begin {G : GE} (hst : (ge_l G).stackTraces = false) {y c : Nat} {D : UT} {R : Nat → Prop} {g : GT} (I : MI y D c R g) {p0 : Int32} {p1 : Int32} {p2 : Int32} : ex_M G 3 0 0 my_X12_begin [.ref y, .int p0, .int p1, .int p2] g (SM y D c R pI) := by
  refine ex_M_of ok_X12_begin cw_X12_begin rfl hst (Nat.le_of_ble_eq_true rfl) ?_
  refine ex_iload_n ok_X12_begin (mi 0 rfl) rfl ?_
  refine ex_iconst ok_X12_begin (mi 1 rfl) ?_
  refine ex_iconst ok_X12_begin (mi 2 rfl) ?_
  refine sf_Sp (As := [_, _, _]) ok_X12_begin (mi 3 rfl) rfl (s_in hst) rfl rfl rfl (by decide) (Nat.le_of_ble_eq_true rfl) (by decide) (fun z1 p2 => ?_)
  obtain ⟨b3, rfl, hb3⟩ := p2
  refine ex_istore ok_X12_begin (mi 4 rfl) ?_
  refine ex_iload ok_X12_begin (mi 5 rfl) rfl ?_
  refine ex_if_eq (tgt := 64) ok_X12_begin (mi 6 rfl) rfl (fun h10 => ?_) (fun h10 => ?_)
  · skip
    obtain rfl : b3 = nI 0 := h10.trans (by decide)
    refine ex_iconst ok_X12_begin (mi 34 rfl) ?_
    refine ex_istore ok_X12_begin (mi 35 rfl) ?_
    refine ex_aload_n ok_X12_begin (mi 36 rfl) rfl ?_
    refine ex_iload ok_X12_begin (mi 37 rfl) rfl ?_
    refine ex_iload ok_X12_begin (mi 38 rfl) rfl ?_
    refine ex_iload ok_X12_begin (mi 39 rfl) rfl ?_
    refine ex_if_eq (tgt := 90) ok_X12_begin (mi 40 rfl) rfl (fun _ => ?_) (fun hn => absurd (by decide) hn)
    refine ex_iconst ok_X12_begin (mi 48 rfl) ?_
    refine sm_V (As := [_, _, _]) ok_X12_begin (mi 49 rfl) rfl (s_ref hst (MI_s I)) rfl (fk (MI_s I) 0 rfl) rfl rfl (by decide) (by decide) (Nat.le_of_ble_eq_true rfl) (by decide) RF_no (fun z4 g8 p5 => ?_)
    obtain ⟨b6, v7, eb6, egb6, hrb6⟩ := p5
    cases eb6
    subst egb6
    have J9 := MI_I (f := 1200) (v := v7) I (by decide)
    obtain rfl : b6 = nI 1 := hrb6.elim (fun q => absurd (show (nI 0 : Int32) = 0 by decide) q.2.1) (fun q => q.1.trans (by decide))
    refine ex_if_eq (tgt := 99) ok_X12_begin (mi 50 rfl) rfl (fun hn => absurd hn (by decide)) (fun _ => ?_)
    refine ex_iconst ok_X12_begin (mi 51 rfl) ?_
    refine ex_iret ok_X12_begin (mi 52 rfl) rfl ?_
    exact ⟨_, rfl, ⟨_, rfl⟩, J9⟩
  · skip
    obtain ⟨eb3, lb3, ub3⟩ := hb3.resolve_left (fun q => h10 q.1)
    obtain rfl : b3 = nI 1 := eb3.trans (by decide)
    obtain ⟨a10, ha10, rfl⟩ := in_n (n := 2) lb3 ub3 (by decide) rfl (by decide)
    refine ex_iload_n ok_X12_begin (mi 7 rfl) rfl ?_
    refine ex_iconst ok_X12_begin (mi 8 rfl) ?_
    refine ex_sipush ok_X12_begin (mi 9 rfl) ?_
    refine sf_Sp (As := [_, _, _]) ok_X12_begin (mi 10 rfl) rfl (s_in hst) rfl rfl rfl (by decide) (Nat.le_of_ble_eq_true rfl) (by decide) (fun z11 p12 => ?_)
    obtain ⟨b13, rfl, hb13⟩ := p12
    refine ex_if_eq (tgt := 64) ok_X12_begin (mi 11 rfl) rfl (fun h21 => ?_) (fun h21 => ?_)
    · skip
      obtain rfl : b13 = nI 0 := h21.trans (by decide)
      refine ex_iconst ok_X12_begin (mi 34 rfl) ?_
      refine ex_istore ok_X12_begin (mi 35 rfl) ?_
      refine ex_aload_n ok_X12_begin (mi 36 rfl) rfl ?_
      refine ex_iload ok_X12_begin (mi 37 rfl) rfl ?_
      refine ex_iload ok_X12_begin (mi 38 rfl) rfl ?_
      refine ex_iload ok_X12_begin (mi 39 rfl) rfl ?_
      refine ex_if_eq (tgt := 90) ok_X12_begin (mi 40 rfl) rfl (fun hn => absurd hn (by decide)) (fun _ => ?_)
      refine ex_aload_n ok_X12_begin (mi 41 rfl) rfl ?_
      refine ex_getRx ok_X12_begin (mi 42 rfl) rfl rfl (fk (MI_s I) 0 rfl) (fr (MI_s I) 0 rfl) (fk (MI_s I) 1 rfl) (by decide) ?_
      refine ex_iload_n ok_X12_begin (mi 43 rfl) rfl ?_
      refine sm_bal ok_X12_begin (mi 44 rfl) (fk (MI_s I) 1 rfl) (fn (MI_s I) 1 rfl) rfl (by omega) (by decide) ?_
      refine ex_gen (fun w14 => ?_)
      refine ex_if_ne (tgt := 90) ok_X12_begin (mi 45 rfl) rfl (fun h83 => ?_) (fun h83 => ?_)
      · skip
        refine ex_iconst ok_X12_begin (mi 48 rfl) ?_
        refine sm_V (As := [_, _, _]) ok_X12_begin (mi 49 rfl) rfl (s_ref hst (MI_s I)) rfl (fk (MI_s I) 0 rfl) rfl rfl (by decide) (by decide) (Nat.le_of_ble_eq_true rfl) (by decide) RF_no (fun z15 g19 p16 => ?_)
        obtain ⟨b17, v18, eb17, egb17, hrb17⟩ := p16
        cases eb17
        subst egb17
        have J20 := MI_I (f := 1200) (v := v18) I (by decide)
        obtain rfl : b17 = nI 1 := hrb17.elim (fun q => absurd (show (nI 0 : Int32) = 0 by decide) q.2.2.1) (fun q => q.1.trans (by decide))
        refine ex_if_eq (tgt := 99) ok_X12_begin (mi 50 rfl) rfl (fun hn => absurd hn (by decide)) (fun _ => ?_)
        refine ex_iconst ok_X12_begin (mi 51 rfl) ?_
        refine ex_iret ok_X12_begin (mi 52 rfl) rfl ?_
        exact ⟨_, rfl, ⟨_, rfl⟩, J20⟩
      · skip
        refine ex_iconst ok_X12_begin (mi 46 rfl) ?_
        refine ex_goto (tgt := 91) ok_X12_begin (mi 47 rfl) rfl ?_
        refine sm_V (As := [_, _, _]) ok_X12_begin (mi 49 rfl) rfl (s_ref hst (MI_s I)) rfl (fk (MI_s I) 0 rfl) rfl rfl (by decide) (by decide) (Nat.le_of_ble_eq_true rfl) (by decide) RF_no (fun z21 g25 p22 => ?_)
        obtain ⟨b23, v24, eb23, egb23, hrb23⟩ := p22
        cases eb23
        subst egb23
        have J26 := MI_I (f := 1200) (v := v24) I (by decide)
        obtain rfl : b23 = nI 1 := hrb23.elim (fun q => absurd (show (nI 0 : Int32) = 0 by decide) q.2.2.1) (fun q => q.1.trans (by decide))
        refine ex_if_eq (tgt := 99) ok_X12_begin (mi 50 rfl) rfl (fun hn => absurd hn (by decide)) (fun _ => ?_)
        refine ex_iconst ok_X12_begin (mi 51 rfl) ?_
        refine ex_iret ok_X12_begin (mi 52 rfl) rfl ?_
        exact ⟨_, rfl, ⟨_, rfl⟩, J26⟩
    · skip
      obtain ⟨eb13, lb13, ub13⟩ := hb13.resolve_left (fun q => h21 q.1)
      obtain rfl : b13 = nI 1 := eb13.trans (by decide)
      obtain ⟨a27, ha27, rfl⟩ := in_n (n := 299) lb13 ub13 (by decide) rfl (by decide)
      refine ex_iload_n ok_X12_begin (mi 12 rfl) rfl ?_
      refine ex_iconst ok_X12_begin (mi 13 rfl) ?_
      refine ex_irem ok_X12_begin (mi 14 rfl) (by decide) ?_
      refine ex_gen (fun w28 => ?_)
      refine ex_iload_n ok_X12_begin (mi 15 rfl) rfl ?_
      refine ex_icmp_ne (tgt := 64) ok_X12_begin (mi 16 rfl) rfl (fun h28 => ?_) (fun h28 => ?_)
      · skip
        refine ex_iconst ok_X12_begin (mi 34 rfl) ?_
        refine ex_istore ok_X12_begin (mi 35 rfl) ?_
        refine ex_aload_n ok_X12_begin (mi 36 rfl) rfl ?_
        refine ex_iload ok_X12_begin (mi 37 rfl) rfl ?_
        refine ex_iload ok_X12_begin (mi 38 rfl) rfl ?_
        refine ex_iload ok_X12_begin (mi 39 rfl) rfl ?_
        refine ex_if_eq (tgt := 90) ok_X12_begin (mi 40 rfl) rfl (fun hn => absurd hn (by decide)) (fun _ => ?_)
        refine ex_aload_n ok_X12_begin (mi 41 rfl) rfl ?_
        refine ex_getRx ok_X12_begin (mi 42 rfl) rfl rfl (fk (MI_s I) 0 rfl) (fr (MI_s I) 0 rfl) (fk (MI_s I) 1 rfl) (by decide) ?_
        refine ex_iload_n ok_X12_begin (mi 43 rfl) rfl ?_
        refine sm_bal ok_X12_begin (mi 44 rfl) (fk (MI_s I) 1 rfl) (fn (MI_s I) 1 rfl) rfl (by omega) (by decide) ?_
        refine ex_gen (fun w29 => ?_)
        refine ex_if_ne (tgt := 90) ok_X12_begin (mi 45 rfl) rfl (fun h83 => ?_) (fun h83 => ?_)
        · skip
          refine ex_iconst ok_X12_begin (mi 48 rfl) ?_
          refine sm_V (As := [_, _, _]) ok_X12_begin (mi 49 rfl) rfl (s_ref hst (MI_s I)) rfl (fk (MI_s I) 0 rfl) rfl rfl (by decide) (by decide) (Nat.le_of_ble_eq_true rfl) (by decide) RF_no (fun z30 g34 p31 => ?_)
          obtain ⟨b32, v33, eb32, egb32, hrb32⟩ := p31
          cases eb32
          subst egb32
          have J35 := MI_I (f := 1200) (v := v33) I (by decide)
          obtain rfl : b32 = nI 1 := hrb32.elim (fun q => absurd (show (nI 0 : Int32) = 0 by decide) q.2.2.1) (fun q => q.1.trans (by decide))
          refine ex_if_eq (tgt := 99) ok_X12_begin (mi 50 rfl) rfl (fun hn => absurd hn (by decide)) (fun _ => ?_)
          refine ex_iconst ok_X12_begin (mi 51 rfl) ?_
          refine ex_iret ok_X12_begin (mi 52 rfl) rfl ?_
          exact ⟨_, rfl, ⟨_, rfl⟩, J35⟩
        · skip
          refine ex_iconst ok_X12_begin (mi 46 rfl) ?_
          refine ex_goto (tgt := 91) ok_X12_begin (mi 47 rfl) rfl ?_
          refine sm_V (As := [_, _, _]) ok_X12_begin (mi 49 rfl) rfl (s_ref hst (MI_s I)) rfl (fk (MI_s I) 0 rfl) rfl rfl (by decide) (by decide) (Nat.le_of_ble_eq_true rfl) (by decide) RF_no (fun z36 g40 p37 => ?_)
          obtain ⟨b38, v39, eb38, egb38, hrb38⟩ := p37
          cases eb38
          subst egb38
          have J41 := MI_I (f := 1200) (v := v39) I (by decide)
          obtain rfl : b38 = nI 1 := hrb38.elim (fun q => absurd (show (nI 0 : Int32) = 0 by decide) q.2.2.1) (fun q => q.1.trans (by decide))
          refine ex_if_eq (tgt := 99) ok_X12_begin (mi 50 rfl) rfl (fun hn => absurd hn (by decide)) (fun _ => ?_)
          refine ex_iconst ok_X12_begin (mi 51 rfl) ?_
          refine ex_iret ok_X12_begin (mi 52 rfl) rfl ?_
          exact ⟨_, rfl, ⟨_, rfl⟩, J41⟩
      · skip
        refine ex_iload_n ok_X12_begin (mi 17 rfl) rfl ?_
        refine ex_aload_n ok_X12_begin (mi 18 rfl) rfl ?_
        refine ex_getRx ok_X12_begin (mi 19 rfl) rfl rfl (fk (MI_s I) 0 rfl) (fr (MI_s I) 2 rfl) (fk (MI_s I) 3 rfl) (by decide) ?_
        refine ex_iload_n ok_X12_begin (mi 20 rfl) rfl ?_
        refine sm_iald ok_X12_begin (mi 21 rfl) (fk (MI_s I) 3 rfl) (fn (MI_s I) 3 rfl) rfl (by omega) (by decide) ?_
        refine ex_gen (fun w42 => ?_)
        refine ex_icmp_le (tgt := 64) ok_X12_begin (mi 22 rfl) rfl (fun h38 => ?_) (fun h38 => ?_)
        · skip
          refine ex_iconst ok_X12_begin (mi 34 rfl) ?_
          refine ex_istore ok_X12_begin (mi 35 rfl) ?_
          refine ex_aload_n ok_X12_begin (mi 36 rfl) rfl ?_
          refine ex_iload ok_X12_begin (mi 37 rfl) rfl ?_
          refine ex_iload ok_X12_begin (mi 38 rfl) rfl ?_
          refine ex_iload ok_X12_begin (mi 39 rfl) rfl ?_
          refine ex_if_eq (tgt := 90) ok_X12_begin (mi 40 rfl) rfl (fun hn => absurd hn (by decide)) (fun _ => ?_)
          refine ex_aload_n ok_X12_begin (mi 41 rfl) rfl ?_
          refine ex_getRx ok_X12_begin (mi 42 rfl) rfl rfl (fk (MI_s I) 0 rfl) (fr (MI_s I) 0 rfl) (fk (MI_s I) 1 rfl) (by decide) ?_
          refine ex_iload_n ok_X12_begin (mi 43 rfl) rfl ?_
          refine sm_bal ok_X12_begin (mi 44 rfl) (fk (MI_s I) 1 rfl) (fn (MI_s I) 1 rfl) rfl (by omega) (by decide) ?_
          refine ex_gen (fun w43 => ?_)
          refine ex_if_ne (tgt := 90) ok_X12_begin (mi 45 rfl) rfl (fun h83 => ?_) (fun h83 => ?_)
          · skip
            refine ex_iconst ok_X12_begin (mi 48 rfl) ?_
            refine sm_V (As := [_, _, _]) ok_X12_begin (mi 49 rfl) rfl (s_ref hst (MI_s I)) rfl (fk (MI_s I) 0 rfl) rfl rfl (by decide) (by decide) (Nat.le_of_ble_eq_true rfl) (by decide) RF_no (fun z44 g48 p45 => ?_)
            obtain ⟨b46, v47, eb46, egb46, hrb46⟩ := p45
            cases eb46
            subst egb46
            have J49 := MI_I (f := 1200) (v := v47) I (by decide)
            obtain rfl : b46 = nI 1 := hrb46.elim (fun q => absurd (show (nI 0 : Int32) = 0 by decide) q.2.2.1) (fun q => q.1.trans (by decide))
            refine ex_if_eq (tgt := 99) ok_X12_begin (mi 50 rfl) rfl (fun hn => absurd hn (by decide)) (fun _ => ?_)
            refine ex_iconst ok_X12_begin (mi 51 rfl) ?_
            refine ex_iret ok_X12_begin (mi 52 rfl) rfl ?_
            exact ⟨_, rfl, ⟨_, rfl⟩, J49⟩
          · skip
            refine ex_iconst ok_X12_begin (mi 46 rfl) ?_
            refine ex_goto (tgt := 91) ok_X12_begin (mi 47 rfl) rfl ?_
            refine sm_V (As := [_, _, _]) ok_X12_begin (mi 49 rfl) rfl (s_ref hst (MI_s I)) rfl (fk (MI_s I) 0 rfl) rfl rfl (by decide) (by decide) (Nat.le_of_ble_eq_true rfl) (by decide) RF_no (fun z50 g54 p51 => ?_)
            obtain ⟨b52, v53, eb52, egb52, hrb52⟩ := p51
            cases eb52
            subst egb52
            have J55 := MI_I (f := 1200) (v := v53) I (by decide)
            obtain rfl : b52 = nI 1 := hrb52.elim (fun q => absurd (show (nI 0 : Int32) = 0 by decide) q.2.2.1) (fun q => q.1.trans (by decide))
            refine ex_if_eq (tgt := 99) ok_X12_begin (mi 50 rfl) rfl (fun hn => absurd hn (by decide)) (fun _ => ?_)
            refine ex_iconst ok_X12_begin (mi 51 rfl) ?_
            refine ex_iret ok_X12_begin (mi 52 rfl) rfl ?_
            exact ⟨_, rfl, ⟨_, rfl⟩, J55⟩
        · skip
          refine ex_iload_n ok_X12_begin (mi 23 rfl) rfl ?_
          refine ex_iconst ok_X12_begin (mi 24 rfl) ?_
          refine ex_sipush ok_X12_begin (mi 25 rfl) ?_
          refine sf_Sp (As := [_, _, _]) ok_X12_begin (mi 26 rfl) rfl (s_in hst) rfl rfl rfl (by decide) (Nat.le_of_ble_eq_true rfl) (by decide) (fun z56 p57 => ?_)
          obtain ⟨b58, rfl, hb58⟩ := p57
          refine ex_if_eq (tgt := 64) ok_X12_begin (mi 27 rfl) rfl (fun h49 => ?_) (fun h49 => ?_)
          · skip
            obtain rfl : b58 = nI 0 := h49.trans (by decide)
            refine ex_iconst ok_X12_begin (mi 34 rfl) ?_
            refine ex_istore ok_X12_begin (mi 35 rfl) ?_
            refine ex_aload_n ok_X12_begin (mi 36 rfl) rfl ?_
            refine ex_iload ok_X12_begin (mi 37 rfl) rfl ?_
            refine ex_iload ok_X12_begin (mi 38 rfl) rfl ?_
            refine ex_iload ok_X12_begin (mi 39 rfl) rfl ?_
            refine ex_if_eq (tgt := 90) ok_X12_begin (mi 40 rfl) rfl (fun hn => absurd hn (by decide)) (fun _ => ?_)
            refine ex_aload_n ok_X12_begin (mi 41 rfl) rfl ?_
            refine ex_getRx ok_X12_begin (mi 42 rfl) rfl rfl (fk (MI_s I) 0 rfl) (fr (MI_s I) 0 rfl) (fk (MI_s I) 1 rfl) (by decide) ?_
            refine ex_iload_n ok_X12_begin (mi 43 rfl) rfl ?_
            refine sm_bal ok_X12_begin (mi 44 rfl) (fk (MI_s I) 1 rfl) (fn (MI_s I) 1 rfl) rfl (by omega) (by decide) ?_
            refine ex_gen (fun w59 => ?_)
            refine ex_if_ne (tgt := 90) ok_X12_begin (mi 45 rfl) rfl (fun h83 => ?_) (fun h83 => ?_)
            · skip
              refine ex_iconst ok_X12_begin (mi 48 rfl) ?_
              refine sm_V (As := [_, _, _]) ok_X12_begin (mi 49 rfl) rfl (s_ref hst (MI_s I)) rfl (fk (MI_s I) 0 rfl) rfl rfl (by decide) (by decide) (Nat.le_of_ble_eq_true rfl) (by decide) RF_no (fun z60 g64 p61 => ?_)
              obtain ⟨b62, v63, eb62, egb62, hrb62⟩ := p61
              cases eb62
              subst egb62
              have J65 := MI_I (f := 1200) (v := v63) I (by decide)
              obtain rfl : b62 = nI 1 := hrb62.elim (fun q => absurd (show (nI 0 : Int32) = 0 by decide) q.2.2.1) (fun q => q.1.trans (by decide))
              refine ex_if_eq (tgt := 99) ok_X12_begin (mi 50 rfl) rfl (fun hn => absurd hn (by decide)) (fun _ => ?_)
              refine ex_iconst ok_X12_begin (mi 51 rfl) ?_
              refine ex_iret ok_X12_begin (mi 52 rfl) rfl ?_
              exact ⟨_, rfl, ⟨_, rfl⟩, J65⟩
            · skip
              refine ex_iconst ok_X12_begin (mi 46 rfl) ?_
              refine ex_goto (tgt := 91) ok_X12_begin (mi 47 rfl) rfl ?_
              refine sm_V (As := [_, _, _]) ok_X12_begin (mi 49 rfl) rfl (s_ref hst (MI_s I)) rfl (fk (MI_s I) 0 rfl) rfl rfl (by decide) (by decide) (Nat.le_of_ble_eq_true rfl) (by decide) RF_no (fun z66 g70 p67 => ?_)
              obtain ⟨b68, v69, eb68, egb68, hrb68⟩ := p67
              cases eb68
              subst egb68
              have J71 := MI_I (f := 1200) (v := v69) I (by decide)
              obtain rfl : b68 = nI 1 := hrb68.elim (fun q => absurd (show (nI 0 : Int32) = 0 by decide) q.2.2.1) (fun q => q.1.trans (by decide))
              refine ex_if_eq (tgt := 99) ok_X12_begin (mi 50 rfl) rfl (fun hn => absurd hn (by decide)) (fun _ => ?_)
              refine ex_iconst ok_X12_begin (mi 51 rfl) ?_
              refine ex_iret ok_X12_begin (mi 52 rfl) rfl ?_
              exact ⟨_, rfl, ⟨_, rfl⟩, J71⟩
          · skip
            obtain ⟨eb58, lb58, ub58⟩ := hb58.resolve_left (fun q => h49 q.1)
            obtain rfl : b58 = nI 1 := eb58.trans (by decide)
            obtain ⟨a72, ha72, rfl⟩ := in_n (n := 4095) lb58 ub58 (by decide) rfl (by decide)
            refine ex_iload_n ok_X12_begin (mi 28 rfl) rfl ?_
            refine sf_Sp (As := [_]) ok_X12_begin (mi 29 rfl) rfl (s_X12_bits hst (MI_s I)) rfl rfl rfl (by decide) (Nat.le_of_ble_eq_true rfl) (by decide) (fun z73 p74 => ?_)
            obtain ⟨v77, rfl⟩ := p74
            refine ex_iconst ok_X12_begin (mi 30 rfl) ?_
            refine ex_icmp_gt (tgt := 64) ok_X12_begin (mi 31 rfl) rfl (fun h57 => ?_) (fun h57 => ?_)
            · skip
              refine ex_iconst ok_X12_begin (mi 34 rfl) ?_
              refine ex_istore ok_X12_begin (mi 35 rfl) ?_
              refine ex_aload_n ok_X12_begin (mi 36 rfl) rfl ?_
              refine ex_iload ok_X12_begin (mi 37 rfl) rfl ?_
              refine ex_iload ok_X12_begin (mi 38 rfl) rfl ?_
              refine ex_iload ok_X12_begin (mi 39 rfl) rfl ?_
              refine ex_if_eq (tgt := 90) ok_X12_begin (mi 40 rfl) rfl (fun hn => absurd hn (by decide)) (fun _ => ?_)
              refine ex_aload_n ok_X12_begin (mi 41 rfl) rfl ?_
              refine ex_getRx ok_X12_begin (mi 42 rfl) rfl rfl (fk (MI_s I) 0 rfl) (fr (MI_s I) 0 rfl) (fk (MI_s I) 1 rfl) (by decide) ?_
              refine ex_iload_n ok_X12_begin (mi 43 rfl) rfl ?_
              refine sm_bal ok_X12_begin (mi 44 rfl) (fk (MI_s I) 1 rfl) (fn (MI_s I) 1 rfl) rfl (by omega) (by decide) ?_
              refine ex_gen (fun w78 => ?_)
              refine ex_if_ne (tgt := 90) ok_X12_begin (mi 45 rfl) rfl (fun h83 => ?_) (fun h83 => ?_)
              · skip
                refine ex_iconst ok_X12_begin (mi 48 rfl) ?_
                refine sm_V (As := [_, _, _]) ok_X12_begin (mi 49 rfl) rfl (s_ref hst (MI_s I)) rfl (fk (MI_s I) 0 rfl) rfl rfl (by decide) (by decide) (Nat.le_of_ble_eq_true rfl) (by decide) RF_no (fun z79 g83 p80 => ?_)
                obtain ⟨b81, v82, eb81, egb81, hrb81⟩ := p80
                cases eb81
                subst egb81
                have J84 := MI_I (f := 1200) (v := v82) I (by decide)
                obtain rfl : b81 = nI 1 := hrb81.elim (fun q => absurd (show (nI 0 : Int32) = 0 by decide) q.2.2.1) (fun q => q.1.trans (by decide))
                refine ex_if_eq (tgt := 99) ok_X12_begin (mi 50 rfl) rfl (fun hn => absurd hn (by decide)) (fun _ => ?_)
                refine ex_iconst ok_X12_begin (mi 51 rfl) ?_
                refine ex_iret ok_X12_begin (mi 52 rfl) rfl ?_
                exact ⟨_, rfl, ⟨_, rfl⟩, J84⟩
              · skip
                refine ex_iconst ok_X12_begin (mi 46 rfl) ?_
                refine ex_goto (tgt := 91) ok_X12_begin (mi 47 rfl) rfl ?_
                refine sm_V (As := [_, _, _]) ok_X12_begin (mi 49 rfl) rfl (s_ref hst (MI_s I)) rfl (fk (MI_s I) 0 rfl) rfl rfl (by decide) (by decide) (Nat.le_of_ble_eq_true rfl) (by decide) RF_no (fun z85 g89 p86 => ?_)
                obtain ⟨b87, v88, eb87, egb87, hrb87⟩ := p86
                cases eb87
                subst egb87
                have J90 := MI_I (f := 1200) (v := v88) I (by decide)
                obtain rfl : b87 = nI 1 := hrb87.elim (fun q => absurd (show (nI 0 : Int32) = 0 by decide) q.2.2.1) (fun q => q.1.trans (by decide))
                refine ex_if_eq (tgt := 99) ok_X12_begin (mi 50 rfl) rfl (fun hn => absurd hn (by decide)) (fun _ => ?_)
                refine ex_iconst ok_X12_begin (mi 51 rfl) ?_
                refine ex_iret ok_X12_begin (mi 52 rfl) rfl ?_
                exact ⟨_, rfl, ⟨_, rfl⟩, J90⟩
            · skip
              refine ex_iconst ok_X12_begin (mi 32 rfl) ?_
              refine ex_goto (tgt := 65) ok_X12_begin (mi 33 rfl) rfl ?_
              refine ex_istore ok_X12_begin (mi 35 rfl) ?_
              refine ex_aload_n ok_X12_begin (mi 36 rfl) rfl ?_
              refine ex_iload ok_X12_begin (mi 37 rfl) rfl ?_
              refine ex_iload ok_X12_begin (mi 38 rfl) rfl ?_
              refine ex_iload ok_X12_begin (mi 39 rfl) rfl ?_
              refine ex_if_eq (tgt := 90) ok_X12_begin (mi 40 rfl) rfl (fun hn => absurd hn (by decide)) (fun _ => ?_)
              refine ex_aload_n ok_X12_begin (mi 41 rfl) rfl ?_
              refine ex_getRx ok_X12_begin (mi 42 rfl) rfl rfl (fk (MI_s I) 0 rfl) (fr (MI_s I) 0 rfl) (fk (MI_s I) 1 rfl) (by decide) ?_
              refine ex_iload_n ok_X12_begin (mi 43 rfl) rfl ?_
              refine sm_bal ok_X12_begin (mi 44 rfl) (fk (MI_s I) 1 rfl) (fn (MI_s I) 1 rfl) rfl (by omega) (by decide) ?_
              refine ex_gen (fun w91 => ?_)
              refine ex_if_ne (tgt := 90) ok_X12_begin (mi 45 rfl) rfl (fun h83 => ?_) (fun h83 => ?_)
              · skip
                refine ex_iconst ok_X12_begin (mi 48 rfl) ?_
                refine sm_V (As := [_, _, _]) ok_X12_begin (mi 49 rfl) rfl (s_ref hst (MI_s I)) rfl (fk (MI_s I) 0 rfl) rfl rfl (by decide) (by decide) (Nat.le_of_ble_eq_true rfl) (by decide) RF_no (fun z92 g96 p93 => ?_)
                obtain ⟨b94, v95, eb94, egb94, hrb94⟩ := p93
                cases eb94
                subst egb94
                have J97 := MI_I (f := 1200) (v := v95) I (by decide)
                obtain rfl : b94 = nI 1 := hrb94.elim (fun q => absurd (show (nI 0 : Int32) = 0 by decide) q.2.2.2.1) (fun q => q.1.trans (by decide))
                refine ex_if_eq (tgt := 99) ok_X12_begin (mi 50 rfl) rfl (fun hn => absurd hn (by decide)) (fun _ => ?_)
                refine ex_iconst ok_X12_begin (mi 51 rfl) ?_
                refine ex_iret ok_X12_begin (mi 52 rfl) rfl ?_
                exact ⟨_, rfl, ⟨_, rfl⟩, J97⟩
              · skip
                refine ex_iconst ok_X12_begin (mi 46 rfl) ?_
                refine ex_goto (tgt := 91) ok_X12_begin (mi 47 rfl) rfl ?_
                refine sm_V (As := [_, _, _]) ok_X12_begin (mi 49 rfl) rfl (s_ref hst (MI_s I)) rfl (fk (MI_s I) 0 rfl) rfl rfl (by decide) (by decide) (Nat.le_of_ble_eq_true rfl) (by decide) RF_no (fun z98 g102 p99 => ?_)
                obtain ⟨b100, v101, eb100, egb100, hrb100⟩ := p99
                cases eb100
                subst egb100
                have J103 := MI_I (f := 1200) (v := v101) I (by decide)
                refine ex_if_eq (tgt := 99) ok_X12_begin (mi 50 rfl) rfl (fun h94 => ?_) (fun h94 => ?_)
                · skip
                  obtain rfl : b100 = nI 0 := h94.trans (by decide)
                  have q104 := hrb100.resolve_right (fun q => absurd q.1 (by decide))
                  refine ex_aload_n ok_X12_begin (mi 53 rfl) rfl ?_
                  refine ex_iload_n ok_X12_begin (mi 54 rfl) rfl ?_
                  refine sm_V (As := [_]) ok_X12_begin (mi 55 rfl) rfl (s_X12_forgetRounds hst J103 (by omega)) rfl (fk (MI_s J103) 0 rfl) rfl rfl (by decide) (by decide) (Nat.le_of_ble_eq_true rfl) (by decide) SM_no (fun z105 g107 p106 => ?_)
                  obtain ⟨u109, eu109, u109p, J108⟩ := p106
                  cases eu109
                  obtain rfl : z105 = none := u109p
                  refine ex_aload_n ok_X12_begin (mi 56 rfl) rfl ?_
                  refine ex_getRx ok_X12_begin (mi 57 rfl) rfl rfl (fk (MI_s J108) 0 rfl) (fr (MI_s J108) 1 rfl) (fk (MI_s J108) 2 rfl) (by decide) ?_
                  refine ex_iload_n ok_X12_begin (mi 58 rfl) rfl ?_
                  refine ex_iconst ok_X12_begin (mi 59 rfl) ?_
                  refine sm_iast ok_X12_begin (mi 60 rfl) (fk (MI_s J108) 2 rfl) (fn (MI_s J108) 2 rfl) rfl (by omega) (by decide) ?_
                  have S110 : sh T12 (px_A g107 (y + 2) (a10) (Int32.ofInt (1))) y := shq (sqA sq0) (MI_s J108)
                  refine ex_aload_n ok_X12_begin (mi 61 rfl) rfl ?_
                  refine ex_getRx ok_X12_begin (mi 62 rfl) rfl rfl (fk S110 0 rfl) (fr S110 2 rfl) (fk S110 3 rfl) (by decide) ?_
                  refine ex_iload_n ok_X12_begin (mi 63 rfl) rfl ?_
                  refine ex_iload_n ok_X12_begin (mi 64 rfl) rfl ?_
                  refine sm_iast ok_X12_begin (mi 65 rfl) (fk S110 3 rfl) (fn S110 3 rfl) rfl (by omega) (by decide) ?_
                  have J111 := MI_two (l := a10) (v := Int32.ofInt (1)) (w := (nI (a27))) J108 (Or.inl (vp_in_nI (by omega) (by decide)))
                  revert J111
                  generalize px_A (px_A g107 (y + 2) (a10) (Int32.ofInt (1))) (y + 3) (a10) (nI (a27)) = g112
                  intro J111
                  refine ex_aload_n ok_X12_begin (mi 66 rfl) rfl ?_
                  refine ex_getRx ok_X12_begin (mi 67 rfl) rfl rfl (fk (MI_s J111) 0 rfl) (fr (MI_s J111) 3 rfl) (fk (MI_s J111) 4 rfl) (by decide) ?_
                  refine ex_iload_n ok_X12_begin (mi 68 rfl) rfl ?_
                  refine ex_iload_n ok_X12_begin (mi 69 rfl) rfl ?_
                  refine mf_A J111 ok_X12_begin (mi 70 rfl) (fk (MI_s J111) 4 rfl) (fn (MI_s J111) 4 rfl) rfl (by omega) (by decide) (by decide) (by decide) (by decide) (fun g113 J114 K115 => ?_)
                  refine ex_aload_n ok_X12_begin (mi 71 rfl) rfl ?_
                  refine ex_getRx ok_X12_begin (mi 72 rfl) rfl rfl (fk (MI_s J114) 0 rfl) (fr (MI_s J114) 56 rfl) (fk (MI_s J114) 57 rfl) (by decide) ?_
                  refine ex_iload_n ok_X12_begin (mi 73 rfl) rfl ?_
                  refine ex_iload_n ok_X12_begin (mi 74 rfl) rfl ?_
                  refine mf_A J114 ok_X12_begin (mi 75 rfl) (fk (MI_s J114) 57 rfl) (fn (MI_s J114) 57 rfl) rfl (by omega) (by decide) (by decide) (by decide) (by decide) (fun g116 J117 K118 => ?_)
                  refine ex_aload_n ok_X12_begin (mi 76 rfl) rfl ?_
                  refine ex_dup ok_X12_begin (mi 77 rfl) rfl ?_
                  refine ex_getI ok_X12_begin (mi 78 rfl) rfl rfl (fk (MI_s J117) 0 rfl) ?_
                  refine ex_gen (fun w119 => ?_)
                  refine ex_iconst ok_X12_begin (mi 79 rfl) ?_
                  refine ex_iadd ok_X12_begin (mi 80 rfl) ?_
                  refine ex_gen (fun w120 => ?_)
                  refine mf_putI J117 ok_X12_begin (mi 81 rfl) rfl rfl (fk (MI_s J117) 0 rfl) (by decide) (by decide) (fun g121 J122 K123 => ?_)
                  refine ex_aload_n ok_X12_begin (mi 82 rfl) rfl ?_
                  refine ex_iconst ok_X12_begin (mi 83 rfl) ?_
                  refine ex_iload_n ok_X12_begin (mi 84 rfl) rfl ?_
                  refine ex_aload_n ok_X12_begin (mi 85 rfl) rfl ?_
                  refine ex_getRx ok_X12_begin (mi 86 rfl) rfl rfl (fk (MI_s J122) 0 rfl) (fr (MI_s J122) 5 rfl) (fk (MI_s J122) 6 rfl) (by decide) ?_
                  refine ex_iload_n ok_X12_begin (mi 87 rfl) rfl ?_
                  refine sm_iald ok_X12_begin (mi 88 rfl) (fk (MI_s J122) 6 rfl) (fn (MI_s J122) 6 rfl) rfl (by omega) (by decide) ?_
                  obtain ⟨v124, hv124, ev124⟩ := vp_in_of (n := 512) (MI_bd J122 0 rfl (i := a10) (by omega)) (by decide)
                  refine ex_top (w := nI v124) ev124 ?_
                  refine ex_aload_n ok_X12_begin (mi 89 rfl) rfl ?_
                  refine ex_getRx ok_X12_begin (mi 90 rfl) rfl rfl (fk (MI_s J122) 0 rfl) (fr (MI_s J122) 4 rfl) (fk (MI_s J122) 5 rfl) (by decide) ?_
                  refine ex_iload_n ok_X12_begin (mi 91 rfl) rfl ?_
                  refine sm_iald ok_X12_begin (mi 92 rfl) (fk (MI_s J122) 5 rfl) (fn (MI_s J122) 5 rfl) rfl (by omega) (by decide) ?_
                  refine ex_gen (fun w125 => ?_)
                  refine ex_iload_n ok_X12_begin (mi 93 rfl) rfl ?_
                  refine ex_iload_n ok_X12_begin (mi 94 rfl) rfl ?_
                  refine sm_V (As := [_, _, _, _, _, _]) ok_X12_begin (mi 95 rfl) rfl (s_X12_layAll hst J122 (κ := 1) (by decide) (Or.inr (vp_in_nI (N := 3) (by omega) (by decide))) (TO9 rfl (vp_in_nI (N := 512) (by omega) (by decide))) (Or.inl rfl) (Or.inr (vp_in_nI (N := 300) (by omega) (by decide))) (Or.inl rfl)) rfl (fk (MI_s J122) 0 rfl) rfl rfl (by decide) (by decide) (Nat.le_of_ble_eq_true rfl) (by decide) SM_no (fun z126 g128 p127 => ?_)
                  obtain ⟨u130, eu130, u130p, J129⟩ := p127
                  cases eu130
                  obtain ⟨v131, rfl⟩ := u130p
                  refine ex_istore ok_X12_begin (mi 96 rfl) ?_
                  refine ex_aload_n ok_X12_begin (mi 97 rfl) rfl ?_
                  refine ex_getI ok_X12_begin (mi 98 rfl) rfl rfl (fk (MI_s J129) 0 rfl) ?_
                  refine ex_gen (fun w132 => ?_)
                  refine ex_iret ok_X12_begin (mi 99 rfl) rfl ?_
                  exact ⟨_, rfl, ⟨_, rfl⟩, J129⟩
                · skip
                  refine ex_iconst ok_X12_begin (mi 51 rfl) ?_
                  refine ex_iret ok_X12_begin (mi 52 rfl) rfl ?_
                  exact ⟨_, rfl, ⟨_, rfl⟩, J103⟩
theorem s_X12_propose {G : GE} (hst : (ge_l G).stackTraces = false) {y c : Nat} {D : UT} {R : Nat → Prop} {g : GT} (I : MI y D c R g) {p0 : Int32} {p1 : Int32} : ex_M G 4 0 0 my_X12_propose [.ref y, .int p0, .int p1] g (SM y D c R pI) := by
  refine ex_M_of ok_X12_propose cw_X12_propose rfl hst (Nat.le_of_ble_eq_true rfl) ?_
  refine ex_iload_n ok_X12_propose (mi 0 rfl) rfl ?_
  refine ex_iconst ok_X12_propose (mi 1 rfl) ?_
  refine ex_iconst ok_X12_propose (mi 2 rfl) ?_
  refine sf_Sp (As := [_, _, _]) ok_X12_propose (mi 3 rfl) rfl (s_in hst) rfl rfl rfl (by decide) (Nat.le_of_ble_eq_true rfl) (by decide) (fun z1 p2 => ?_)
  obtain ⟨b3, rfl, hb3⟩ := p2
  refine ex_istore_n ok_X12_propose (mi 4 rfl) ?_
  refine ex_aload_n ok_X12_propose (mi 5 rfl) rfl ?_
  refine ex_iload_n ok_X12_propose (mi 6 rfl) rfl ?_
  refine ex_iload_n ok_X12_propose (mi 7 rfl) rfl ?_
  refine ex_iconst ok_X12_propose (mi 8 rfl) ?_
  refine ex_ldc ok_X12_propose (mi 9 rfl) rfl ?_
  refine sf_Sp (As := [_, _, _]) ok_X12_propose (mi 10 rfl) rfl (s_in hst) rfl rfl rfl (by decide) (Nat.le_of_ble_eq_true rfl) (by decide) (fun z4 p5 => ?_)
  obtain ⟨b6, rfl, hb6⟩ := p5
  refine ex_iload_n ok_X12_propose (mi 11 rfl) rfl ?_
  refine ex_if_eq (tgt := 33) ok_X12_propose (mi 12 rfl) rfl (fun h17 => ?_) (fun h17 => ?_)
  · skip
    obtain rfl : b3 = nI 0 := h17.trans (by decide)
    refine ex_iconst ok_X12_propose (mi 20 rfl) ?_
    refine sm_V (As := [_, _, _]) ok_X12_propose (mi 21 rfl) rfl (s_ref hst (MI_s I)) rfl (fk (MI_s I) 0 rfl) rfl rfl (by decide) (by decide) (Nat.le_of_ble_eq_true rfl) (by decide) RF_no (fun z7 g11 p8 => ?_)
    obtain ⟨b9, v10, eb9, egb9, hrb9⟩ := p8
    cases eb9
    subst egb9
    have J12 := MI_I (f := 1200) (v := v10) I (by decide)
    obtain rfl : b9 = nI 1 := hrb9.elim (fun q => absurd (show (nI 0 : Int32) = 0 by decide) q.2.1) (fun q => q.1.trans (by decide))
    refine ex_if_eq (tgt := 42) ok_X12_propose (mi 22 rfl) rfl (fun hn => absurd hn (by decide)) (fun _ => ?_)
    refine ex_iconst ok_X12_propose (mi 23 rfl) ?_
    refine ex_iret ok_X12_propose (mi 24 rfl) rfl ?_
    exact ⟨_, rfl, ⟨_, rfl⟩, J12⟩
  · skip
    obtain ⟨eb3, lb3, ub3⟩ := hb3.resolve_left (fun q => h17 q.1)
    obtain rfl : b3 = nI 1 := eb3.trans (by decide)
    obtain ⟨a13, ha13, rfl⟩ := in_n (n := 2) lb3 ub3 (by decide) rfl (by decide)
    refine ex_aload_n ok_X12_propose (mi 13 rfl) rfl ?_
    refine ex_getRx ok_X12_propose (mi 14 rfl) rfl rfl (fk (MI_s I) 0 rfl) (fr (MI_s I) 0 rfl) (fk (MI_s I) 1 rfl) (by decide) ?_
    refine ex_iload_n ok_X12_propose (mi 15 rfl) rfl ?_
    refine sm_bal ok_X12_propose (mi 16 rfl) (fk (MI_s I) 1 rfl) (fn (MI_s I) 1 rfl) rfl (by omega) (by decide) ?_
    refine ex_gen (fun w14 => ?_)
    refine ex_if_ne (tgt := 33) ok_X12_propose (mi 17 rfl) rfl (fun h26 => ?_) (fun h26 => ?_)
    · skip
      refine ex_iconst ok_X12_propose (mi 20 rfl) ?_
      refine sm_V (As := [_, _, _]) ok_X12_propose (mi 21 rfl) rfl (s_ref hst (MI_s I)) rfl (fk (MI_s I) 0 rfl) rfl rfl (by decide) (by decide) (Nat.le_of_ble_eq_true rfl) (by decide) RF_no (fun z15 g19 p16 => ?_)
      obtain ⟨b17, v18, eb17, egb17, hrb17⟩ := p16
      cases eb17
      subst egb17
      have J20 := MI_I (f := 1200) (v := v18) I (by decide)
      obtain rfl : b17 = nI 1 := hrb17.elim (fun q => absurd (show (nI 0 : Int32) = 0 by decide) q.2.2.2.1) (fun q => q.1.trans (by decide))
      refine ex_if_eq (tgt := 42) ok_X12_propose (mi 22 rfl) rfl (fun hn => absurd hn (by decide)) (fun _ => ?_)
      refine ex_iconst ok_X12_propose (mi 23 rfl) ?_
      refine ex_iret ok_X12_propose (mi 24 rfl) rfl ?_
      exact ⟨_, rfl, ⟨_, rfl⟩, J20⟩
    · skip
      refine ex_iconst ok_X12_propose (mi 18 rfl) ?_
      refine ex_goto (tgt := 34) ok_X12_propose (mi 19 rfl) rfl ?_
      refine sm_V (As := [_, _, _]) ok_X12_propose (mi 21 rfl) rfl (s_ref hst (MI_s I)) rfl (fk (MI_s I) 0 rfl) rfl rfl (by decide) (by decide) (Nat.le_of_ble_eq_true rfl) (by decide) RF_no (fun z21 g25 p22 => ?_)
      obtain ⟨b23, v24, eb23, egb23, hrb23⟩ := p22
      cases eb23
      subst egb23
      have J26 := MI_I (f := 1200) (v := v24) I (by decide)
      refine ex_if_eq (tgt := 42) ok_X12_propose (mi 22 rfl) rfl (fun h37 => ?_) (fun h37 => ?_)
      · skip
        obtain rfl : b23 = nI 0 := h37.trans (by decide)
        have q27 := hrb23.resolve_right (fun q => absurd q.1 (by decide))
        obtain ⟨eb6, lb6, ub6⟩ := hb6.resolve_left (fun q => q27.2.2.1 q.1)
        obtain rfl : b6 = nI 1 := eb6.trans (by decide)
        obtain ⟨a28, ha28, rfl⟩ := in_n (n := 1000000) lb6 ub6 (by decide) rfl (by decide)
        refine ex_aload_n ok_X12_propose (mi 25 rfl) rfl ?_
        refine ex_getRx ok_X12_propose (mi 26 rfl) rfl rfl (fk (MI_s J26) 0 rfl) (fr (MI_s J26) 1 rfl) (fk (MI_s J26) 2 rfl) (by decide) ?_
        refine ex_iload_n ok_X12_propose (mi 27 rfl) rfl ?_
        refine sm_iald ok_X12_propose (mi 28 rfl) (fk (MI_s J26) 2 rfl) (fn (MI_s J26) 2 rfl) rfl (by omega) (by decide) ?_
        refine ex_iconst ok_X12_propose (mi 29 rfl) ?_
        refine ex_icmp_ne (tgt := 63) ok_X12_propose (mi 30 rfl) rfl (fun h49 => ?_) (fun h49 => ?_)
        · skip
          refine ex_iconst ok_X12_propose (mi 37 rfl) ?_
          refine ex_iret ok_X12_propose (mi 38 rfl) rfl ?_
          exact ⟨_, rfl, ⟨_, rfl⟩, J26⟩
        · skip
          have J29 := MI_Ra (l := a13) J26 (by rw [h49]; decide)
          refine ex_aload_n ok_X12_propose (mi 31 rfl) rfl ?_
          refine ex_getRx ok_X12_propose (mi 32 rfl) rfl rfl (fk (MI_s J29) 0 rfl) (fr (MI_s J29) 14 rfl) (fk (MI_s J29) 15 rfl) (by decide) ?_
          refine ex_iload_n ok_X12_propose (mi 33 rfl) rfl ?_
          refine sm_iald ok_X12_propose (mi 34 rfl) (fk (MI_s J29) 15 rfl) (fn (MI_s J29) 15 rfl) rfl (by omega) (by decide) ?_
          obtain ⟨v30, hv30, ev30⟩ := vp_in_of (n := 17) (MI_bd J29 4 rfl (i := a13) (by omega)) (by decide)
          refine ex_top (w := nI v30) ev30 ?_
          refine ex_bipush ok_X12_propose (mi 35 rfl) ?_
          refine ex_icmp_ne (tgt := 65) ok_X12_propose (mi 36 rfl) rfl (fun h60 => ?_) (fun h60 => ?_)
          · skip
            have n60 : v30 ≠ 16 := fun e => h60 (by rw [e]; rfl)
            refine ex_aload_n ok_X12_propose (mi 39 rfl) rfl ?_
            refine ex_getRx ok_X12_propose (mi 40 rfl) rfl rfl (fk (MI_s J29) 0 rfl) (fr (MI_s J29) 14 rfl) (fk (MI_s J29) 15 rfl) (by decide) ?_
            refine ex_iload_n ok_X12_propose (mi 41 rfl) rfl ?_
            refine sm_iald ok_X12_propose (mi 42 rfl) (fk (MI_s J29) 15 rfl) (fn (MI_s J29) 15 rfl) rfl (by omega) (by decide) ?_
            refine ex_top (w := nI v30) ev30 ?_
            refine ex_istore ok_X12_propose (mi 43 rfl) ?_
            refine ex_aload_n ok_X12_propose (mi 44 rfl) rfl ?_
            refine ex_getRx ok_X12_propose (mi 45 rfl) rfl rfl (fk (MI_s J29) 0 rfl) (fr (MI_s J29) 14 rfl) (fk (MI_s J29) 15 rfl) (by decide) ?_
            refine ex_iload_n ok_X12_propose (mi 46 rfl) rfl ?_
            refine ex_dup2 ok_X12_propose (mi 47 rfl) rfl rfl ?_
            refine sm_iald ok_X12_propose (mi 48 rfl) (fk (MI_s J29) 15 rfl) (fn (MI_s J29) 15 rfl) rfl (by omega) (by decide) ?_
            refine ex_top (w := nI v30) ev30 ?_
            refine ex_iconst ok_X12_propose (mi 49 rfl) ?_
            refine ex_iadd ok_X12_propose (mi 50 rfl) ?_
            refine ex_top (w := (nI (v30 + 1))) (nI_add _ 1) ?_
            refine mf_B J29 ok_X12_propose (mi 51 rfl) (fk (MI_s J29) 15 rfl) (fn (MI_s J29) 15 rfl) rfl (by omega) (by decide) (B := 17) (by decide) (by decide) (by decide) (vp_in_nI (N := 17) (by omega) (by decide)) (fun g31 J32 K33 => ?_)
            refine ex_aload_n ok_X12_propose (mi 52 rfl) rfl ?_
            refine ex_iload_n ok_X12_propose (mi 53 rfl) rfl ?_
            refine ex_iload ok_X12_propose (mi 54 rfl) rfl ?_
            refine ex_iload_n ok_X12_propose (mi 55 rfl) rfl ?_
            refine sm_V (As := [_, _, _]) ok_X12_propose (mi 56 rfl) rfl (s_X12_offer hst J32 (by omega) (by omega) (Or.inr rfl)) rfl (fk (MI_s J32) 0 rfl) rfl rfl (by decide) (by decide) (Nat.le_of_ble_eq_true rfl) (by decide) SM_no (fun z34 g36 p35 => ?_)
            obtain ⟨u38, eu38, u38p, J37⟩ := p35
            cases eu38
            obtain rfl : z34 = none := u38p
            refine ex_iload ok_X12_propose (mi 57 rfl) rfl ?_
            refine ex_iret ok_X12_propose (mi 58 rfl) rfl ?_
            exact ⟨_, rfl, ⟨_, rfl⟩, (MI_Rw J37 (fun l k => (Or.inl k)))⟩
          · skip
            refine ex_iconst ok_X12_propose (mi 37 rfl) ?_
            refine ex_iret ok_X12_propose (mi 38 rfl) rfl ?_
            exact ⟨_, rfl, ⟨_, rfl⟩, (MI_Rw J29 (fun l k => (Or.inl k)))⟩
      · skip
        refine ex_iconst ok_X12_propose (mi 23 rfl) ?_
        refine ex_iret ok_X12_propose (mi 24 rfl) rfl ?_
        exact ⟨_, rfl, ⟨_, rfl⟩, J26⟩
theorem s_X12_collect {G : GE} (hst : (ge_l G).stackTraces = false) {y c : Nat} {D : UT} {R : Nat → Prop} {g : GT} (I : MI y D c R g) {p0 : Int32} : ex_M G 3 0 0 my_X12_collect [.ref y, .int p0] g (SM y D c R pZ) := by
  refine ex_M_of ok_X12_collect cw_X12_collect rfl hst (Nat.le_of_ble_eq_true rfl) ?_
  refine ex_iload_n ok_X12_collect (mi 0 rfl) rfl ?_
  refine ex_iconst ok_X12_collect (mi 1 rfl) ?_
  refine ex_iconst ok_X12_collect (mi 2 rfl) ?_
  refine sf_Sp (As := [_, _, _]) ok_X12_collect (mi 3 rfl) rfl (s_in hst) rfl rfl rfl (by decide) (Nat.le_of_ble_eq_true rfl) (by decide) (fun z1 p2 => ?_)
  obtain ⟨b3, rfl, hb3⟩ := p2
  refine ex_istore_n ok_X12_collect (mi 4 rfl) ?_
  refine ex_aload_n ok_X12_collect (mi 5 rfl) rfl ?_
  refine ex_iload_n ok_X12_collect (mi 6 rfl) rfl ?_
  refine ex_iconst ok_X12_collect (mi 7 rfl) ?_
  refine ex_iload_n ok_X12_collect (mi 8 rfl) rfl ?_
  refine ex_if_eq (tgt := 27) ok_X12_collect (mi 9 rfl) rfl (fun h11 => ?_) (fun h11 => ?_)
  · skip
    obtain rfl : b3 = nI 0 := h11.trans (by decide)
    refine ex_iconst ok_X12_collect (mi 17 rfl) ?_
    refine sm_V (As := [_, _, _]) ok_X12_collect (mi 18 rfl) rfl (s_ref hst (MI_s I)) rfl (fk (MI_s I) 0 rfl) rfl rfl (by decide) (by decide) (Nat.le_of_ble_eq_true rfl) (by decide) RF_no (fun z4 g8 p5 => ?_)
    obtain ⟨b6, v7, eb6, egb6, hrb6⟩ := p5
    cases eb6
    subst egb6
    have J9 := MI_I (f := 1200) (v := v7) I (by decide)
    obtain rfl : b6 = nI 1 := hrb6.elim (fun q => absurd (show (nI 0 : Int32) = 0 by decide) q.2.1) (fun q => q.1.trans (by decide))
    refine ex_if_eq (tgt := 56) ok_X12_collect (mi 19 rfl) rfl (fun hn => absurd hn (by decide)) (fun _ => ?_)
    refine ex_aload_n ok_X12_collect (mi 20 rfl) rfl ?_
    refine ex_aload_n ok_X12_collect (mi 21 rfl) rfl ?_
    refine ex_getI ok_X12_collect (mi 22 rfl) rfl rfl (fk (MI_s J9) 0 rfl) ?_
    refine ex_gen (fun w10 => ?_)
    refine ex_iconst ok_X12_collect (mi 23 rfl) ?_
    refine ex_icmp_ne (tgt := 47) ok_X12_collect (mi 24 rfl) rfl (fun h40 => ?_) (fun h40 => ?_)
    · skip
      refine ex_aload_n ok_X12_collect (mi 27 rfl) rfl ?_
      refine ex_getI ok_X12_collect (mi 28 rfl) rfl rfl (fk (MI_s J9) 0 rfl) ?_
      refine ex_gen (fun w11 => ?_)
      refine mf_putI J9 ok_X12_collect (mi 29 rfl) rfl rfl (fk (MI_s J9) 0 rfl) (by decide) (by decide) (fun g12 J13 K14 => ?_)
      refine ex_iconst ok_X12_collect (mi 30 rfl) ?_
      refine ex_zret ok_X12_collect (mi 31 rfl) rfl (by decide) ?_
      exact ⟨_, rfl, ⟨_, rfl, (by decide)⟩, J13⟩
    · skip
      refine ex_iconst ok_X12_collect (mi 25 rfl) ?_
      refine ex_goto (tgt := 51) ok_X12_collect (mi 26 rfl) rfl ?_
      refine mf_putI J9 ok_X12_collect (mi 29 rfl) rfl rfl (fk (MI_s J9) 0 rfl) (by decide) (by decide) (fun g15 J16 K17 => ?_)
      refine ex_iconst ok_X12_collect (mi 30 rfl) ?_
      refine ex_zret ok_X12_collect (mi 31 rfl) rfl (by decide) ?_
      exact ⟨_, rfl, ⟨_, rfl, (by decide)⟩, J16⟩
  · skip
    obtain ⟨eb3, lb3, ub3⟩ := hb3.resolve_left (fun q => h11 q.1)
    obtain rfl : b3 = nI 1 := eb3.trans (by decide)
    obtain ⟨a18, ha18, rfl⟩ := in_n (n := 2) lb3 ub3 (by decide) rfl (by decide)
    refine ex_aload_n ok_X12_collect (mi 10 rfl) rfl ?_
    refine ex_getRx ok_X12_collect (mi 11 rfl) rfl rfl (fk (MI_s I) 0 rfl) (fr (MI_s I) 0 rfl) (fk (MI_s I) 1 rfl) (by decide) ?_
    refine ex_iload_n ok_X12_collect (mi 12 rfl) rfl ?_
    refine sm_bal ok_X12_collect (mi 13 rfl) (fk (MI_s I) 1 rfl) (fn (MI_s I) 1 rfl) rfl (by omega) (by decide) ?_
    refine ex_gen (fun w19 => ?_)
    refine ex_if_ne (tgt := 27) ok_X12_collect (mi 14 rfl) rfl (fun h20 => ?_) (fun h20 => ?_)
    · skip
      refine ex_iconst ok_X12_collect (mi 17 rfl) ?_
      refine sm_V (As := [_, _, _]) ok_X12_collect (mi 18 rfl) rfl (s_ref hst (MI_s I)) rfl (fk (MI_s I) 0 rfl) rfl rfl (by decide) (by decide) (Nat.le_of_ble_eq_true rfl) (by decide) RF_no (fun z20 g24 p21 => ?_)
      obtain ⟨b22, v23, eb22, egb22, hrb22⟩ := p21
      cases eb22
      subst egb22
      have J25 := MI_I (f := 1200) (v := v23) I (by decide)
      obtain rfl : b22 = nI 1 := hrb22.elim (fun q => absurd (show (nI 0 : Int32) = 0 by decide) q.2.2.2.1) (fun q => q.1.trans (by decide))
      refine ex_if_eq (tgt := 56) ok_X12_collect (mi 19 rfl) rfl (fun hn => absurd hn (by decide)) (fun _ => ?_)
      refine ex_aload_n ok_X12_collect (mi 20 rfl) rfl ?_
      refine ex_aload_n ok_X12_collect (mi 21 rfl) rfl ?_
      refine ex_getI ok_X12_collect (mi 22 rfl) rfl rfl (fk (MI_s J25) 0 rfl) ?_
      refine ex_gen (fun w26 => ?_)
      refine ex_iconst ok_X12_collect (mi 23 rfl) ?_
      refine ex_icmp_ne (tgt := 47) ok_X12_collect (mi 24 rfl) rfl (fun h40 => ?_) (fun h40 => ?_)
      · skip
        refine ex_aload_n ok_X12_collect (mi 27 rfl) rfl ?_
        refine ex_getI ok_X12_collect (mi 28 rfl) rfl rfl (fk (MI_s J25) 0 rfl) ?_
        refine ex_gen (fun w27 => ?_)
        refine mf_putI J25 ok_X12_collect (mi 29 rfl) rfl rfl (fk (MI_s J25) 0 rfl) (by decide) (by decide) (fun g28 J29 K30 => ?_)
        refine ex_iconst ok_X12_collect (mi 30 rfl) ?_
        refine ex_zret ok_X12_collect (mi 31 rfl) rfl (by decide) ?_
        exact ⟨_, rfl, ⟨_, rfl, (by decide)⟩, J29⟩
      · skip
        refine ex_iconst ok_X12_collect (mi 25 rfl) ?_
        refine ex_goto (tgt := 51) ok_X12_collect (mi 26 rfl) rfl ?_
        refine mf_putI J25 ok_X12_collect (mi 29 rfl) rfl rfl (fk (MI_s J25) 0 rfl) (by decide) (by decide) (fun g31 J32 K33 => ?_)
        refine ex_iconst ok_X12_collect (mi 30 rfl) ?_
        refine ex_zret ok_X12_collect (mi 31 rfl) rfl (by decide) ?_
        exact ⟨_, rfl, ⟨_, rfl, (by decide)⟩, J32⟩
    · skip
      refine ex_iconst ok_X12_collect (mi 15 rfl) ?_
      refine ex_goto (tgt := 28) ok_X12_collect (mi 16 rfl) rfl ?_
      refine sm_V (As := [_, _, _]) ok_X12_collect (mi 18 rfl) rfl (s_ref hst (MI_s I)) rfl (fk (MI_s I) 0 rfl) rfl rfl (by decide) (by decide) (Nat.le_of_ble_eq_true rfl) (by decide) RF_no (fun z34 g38 p35 => ?_)
      obtain ⟨b36, v37, eb36, egb36, hrb36⟩ := p35
      cases eb36
      subst egb36
      have J39 := MI_I (f := 1200) (v := v37) I (by decide)
      refine ex_if_eq (tgt := 56) ok_X12_collect (mi 19 rfl) rfl (fun h31 => ?_) (fun h31 => ?_)
      · skip
        obtain rfl : b36 = nI 0 := h31.trans (by decide)
        have q40 := hrb36.resolve_right (fun q => absurd q.1 (by decide))
        refine ex_aload_n ok_X12_collect (mi 32 rfl) rfl ?_
        refine ex_getRx ok_X12_collect (mi 33 rfl) rfl rfl (fk (MI_s J39) 0 rfl) (fr (MI_s J39) 1 rfl) (fk (MI_s J39) 2 rfl) (by decide) ?_
        refine ex_iload_n ok_X12_collect (mi 34 rfl) rfl ?_
        refine sm_iald ok_X12_collect (mi 35 rfl) (fk (MI_s J39) 2 rfl) (fn (MI_s J39) 2 rfl) rfl (by omega) (by decide) ?_
        refine ex_iconst ok_X12_collect (mi 36 rfl) ?_
        refine ex_icmp_ne (tgt := 70) ok_X12_collect (mi 37 rfl) rfl (fun h63 => ?_) (fun h63 => ?_)
        · skip
          refine ex_iconst ok_X12_collect (mi 40 rfl) ?_
          refine ex_istore_n ok_X12_collect (mi 41 rfl) ?_
          refine ex_iload_n ok_X12_collect (mi 42 rfl) rfl ?_
          refine ex_if_eq (tgt := 84) ok_X12_collect (mi 43 rfl) rfl (fun _ => ?_) (fun hn => absurd (by decide) hn)
          refine ex_iconst ok_X12_collect (mi 48 rfl) ?_
          refine ex_istore ok_X12_collect (mi 49 rfl) ?_
          have lp87 : ∀ n87 k87 : Nat, k87 + n87 = 16 → ∀ (q41 : Int32) (g42 : GT), MI y D c R g42 → ex_W G 3 0 0 M_X12_collect 87 [(0, .ref y), (1, .int (nI (a18))), (2, .int (nI 1)), (3, .int q41), (4, .int (nI (k87)))] [] g42 (SM y D c R pZ) := by
            intro n87
            induction n87 with
            | zero =>
              intro k87 he87 q41 g42 J43 
              obtain rfl : k87 = 16 := by omega
              refine ex_iload_n ok_X12_collect (mi 50 rfl) rfl ?_
              refine ex_if_eq (tgt := 162) ok_X12_collect (mi 51 rfl) rfl (fun h88 => ?_) (fun h88 => ?_)
              · skip
                refine ex_iload_n ok_X12_collect (mi 94 rfl) rfl ?_
                refine ex_if_ne (tgt := 168) ok_X12_collect (mi 95 rfl) rfl (fun h163 => ?_) (fun h163 => ?_)
                · skip
                  refine ex_aload_n ok_X12_collect (mi 98 rfl) rfl ?_
                  refine ex_iload_n ok_X12_collect (mi 99 rfl) rfl ?_
                  refine sm_V (As := [_]) ok_X12_collect (mi 100 rfl) rfl (s_X12_forgetCollecting hst J43 (by omega)) rfl (fk (MI_s J43) 0 rfl) rfl rfl (by decide) (by decide) (Nat.le_of_ble_eq_true rfl) (by decide) SM_no (fun z44 g46 p45 => ?_)
                  obtain ⟨u48, eu48, u48p, J47⟩ := p45
                  cases eu48
                  obtain rfl : z44 = none := u48p
                  refine ex_aload_n ok_X12_collect (mi 101 rfl) rfl ?_
                  refine ex_getRx ok_X12_collect (mi 102 rfl) rfl rfl (fk (MI_s J47) 0 rfl) (fr (MI_s J47) 19 rfl) (fk (MI_s J47) 20 rfl) (by decide) ?_
                  refine ex_iload_n ok_X12_collect (mi 103 rfl) rfl ?_
                  refine ex_iconst ok_X12_collect (mi 104 rfl) ?_
                  refine mf_A J47 ok_X12_collect (mi 105 rfl) (fk (MI_s J47) 20 rfl) (fn (MI_s J47) 20 rfl) rfl (by omega) (by decide) (by decide) (by decide) (by decide) (fun g49 J50 K51 => ?_)
                  refine ex_aload_n ok_X12_collect (mi 106 rfl) rfl ?_
                  refine ex_getRx ok_X12_collect (mi 107 rfl) rfl rfl (fk (MI_s J50) 0 rfl) (fr (MI_s J50) 20 rfl) (fk (MI_s J50) 21 rfl) (by decide) ?_
                  refine ex_iload_n ok_X12_collect (mi 108 rfl) rfl ?_
                  refine ex_aload_n ok_X12_collect (mi 109 rfl) rfl ?_
                  refine ex_iload_n ok_X12_collect (mi 110 rfl) rfl ?_
                  refine sm_V (As := [_]) ok_X12_collect (mi 111 rfl) rfl (s_firm hst J50 (by omega)) rfl (fk (MI_s J50) 0 rfl) rfl rfl (by decide) (by decide) (Nat.le_of_ble_eq_true rfl) (by decide) SM_no (fun z52 g54 p53 => ?_)
                  obtain ⟨u56, eu56, u56p, J55⟩ := p53
                  cases eu56
                  obtain ⟨v57, hv57, rfl⟩ := u56p
                  refine mf_B J55 ok_X12_collect (mi 112 rfl) (fk (MI_s J55) 21 rfl) (fn (MI_s J55) 21 rfl) rfl (by omega) (by decide) (B := 17) (by decide) (by decide) (by decide) (vp_in_nI (N := 17) (by omega) (by decide)) (fun g58 J59 K60 => ?_)
                  refine ex_aload_n ok_X12_collect (mi 113 rfl) rfl ?_
                  refine ex_bipush ok_X12_collect (mi 114 rfl) ?_
                  refine ex_iload_n ok_X12_collect (mi 115 rfl) rfl ?_
                  refine ex_aload_n ok_X12_collect (mi 116 rfl) rfl ?_
                  refine ex_getRx ok_X12_collect (mi 117 rfl) rfl rfl (fk (MI_s J59) 0 rfl) (fr (MI_s J59) 3 rfl) (fk (MI_s J59) 4 rfl) (by decide) ?_
                  refine ex_iload_n ok_X12_collect (mi 118 rfl) rfl ?_
                  refine sm_iald ok_X12_collect (mi 119 rfl) (fk (MI_s J59) 4 rfl) (fn (MI_s J59) 4 rfl) rfl (by omega) (by decide) ?_
                  refine ex_gen (fun w61 => ?_)
                  refine ex_aload_n ok_X12_collect (mi 120 rfl) rfl ?_
                  refine ex_getRx ok_X12_collect (mi 121 rfl) rfl rfl (fk (MI_s J59) 0 rfl) (fr (MI_s J59) 2 rfl) (fk (MI_s J59) 3 rfl) (by decide) ?_
                  refine ex_iload_n ok_X12_collect (mi 122 rfl) rfl ?_
                  refine sm_iald ok_X12_collect (mi 123 rfl) (fk (MI_s J59) 3 rfl) (fn (MI_s J59) 3 rfl) rfl (by omega) (by decide) ?_
                  refine ex_gen (fun w62 => ?_)
                  refine ex_aload_n ok_X12_collect (mi 124 rfl) rfl ?_
                  refine ex_getRx ok_X12_collect (mi 125 rfl) rfl rfl (fk (MI_s J59) 0 rfl) (fr (MI_s J59) 20 rfl) (fk (MI_s J59) 21 rfl) (by decide) ?_
                  refine ex_iload_n ok_X12_collect (mi 126 rfl) rfl ?_
                  refine sm_iald ok_X12_collect (mi 127 rfl) (fk (MI_s J59) 21 rfl) (fn (MI_s J59) 21 rfl) rfl (by omega) (by decide) ?_
                  obtain ⟨v63, hv63, ev63⟩ := vp_in_of (n := 17) (MI_bd J59 5 rfl (i := a18) (by omega)) (by decide)
                  refine ex_top (w := nI v63) ev63 ?_
                  refine ex_iconst ok_X12_collect (mi 128 rfl) ?_
                  refine sm_V (As := [_, _, _, _, _, _]) ok_X12_collect (mi 129 rfl) rfl (s_X12_layAll hst J59 (κ := 9) (by decide) (Or.inr (vp_in_nI (N := 3) (by omega) (by decide))) (TO12 rfl) (Or.inl rfl) (Or.inr (vp_in_nI (N := 17) (by omega) (by decide))) (Or.inl rfl)) rfl (fk (MI_s J59) 0 rfl) rfl rfl (by decide) (by decide) (Nat.le_of_ble_eq_true rfl) (by decide) SM_no (fun z64 g66 p65 => ?_)
                  obtain ⟨u68, eu68, u68p, J67⟩ := p65
                  cases eu68
                  obtain ⟨v69, rfl⟩ := u68p
                  refine ex_istore ok_X12_collect (mi 130 rfl) ?_
                  refine ex_iconst ok_X12_collect (mi 131 rfl) ?_
                  refine ex_zret ok_X12_collect (mi 132 rfl) rfl (by decide) ?_
                  exact ⟨_, rfl, ⟨_, rfl, (by decide)⟩, J67⟩
                · skip
                  refine ex_iconst ok_X12_collect (mi 96 rfl) ?_
                  refine ex_zret ok_X12_collect (mi 97 rfl) rfl (by decide) ?_
                  exact ⟨_, rfl, ⟨_, rfl, (by decide)⟩, J43⟩
              · skip
                refine ex_iload ok_X12_collect (mi 52 rfl) rfl ?_
                refine ex_aload_n ok_X12_collect (mi 53 rfl) rfl ?_
                refine ex_getRx ok_X12_collect (mi 54 rfl) rfl rfl (fk (MI_s J43) 0 rfl) (fr (MI_s J43) 13 rfl) (fk (MI_s J43) 14 rfl) (by decide) ?_
                refine ex_iload_n ok_X12_collect (mi 55 rfl) rfl ?_
                refine sm_iald ok_X12_collect (mi 56 rfl) (fk (MI_s J43) 14 rfl) (fn (MI_s J43) 14 rfl) rfl (by omega) (by decide) ?_
                obtain ⟨v70, hv70, ev70⟩ := vp_in_of (n := 17) (MI_bd J43 3 rfl (i := a18) (by omega)) (by decide)
                refine ex_top (w := nI v70) ev70 ?_
                refine ex_icmp_ge (tgt := 162) ok_X12_collect (mi 57 rfl) rfl (fun _ => ?_) (fun hn => absurd (nI_le (b := 16) (a := v70) (by omega) (by omega)) hn)
                refine ex_iload_n ok_X12_collect (mi 94 rfl) rfl ?_
                refine ex_if_ne (tgt := 168) ok_X12_collect (mi 95 rfl) rfl (fun h163 => ?_) (fun h163 => ?_)
                · skip
                  refine ex_aload_n ok_X12_collect (mi 98 rfl) rfl ?_
                  refine ex_iload_n ok_X12_collect (mi 99 rfl) rfl ?_
                  refine sm_V (As := [_]) ok_X12_collect (mi 100 rfl) rfl (s_X12_forgetCollecting hst J43 (by omega)) rfl (fk (MI_s J43) 0 rfl) rfl rfl (by decide) (by decide) (Nat.le_of_ble_eq_true rfl) (by decide) SM_no (fun z71 g73 p72 => ?_)
                  obtain ⟨u75, eu75, u75p, J74⟩ := p72
                  cases eu75
                  obtain rfl : z71 = none := u75p
                  refine ex_aload_n ok_X12_collect (mi 101 rfl) rfl ?_
                  refine ex_getRx ok_X12_collect (mi 102 rfl) rfl rfl (fk (MI_s J74) 0 rfl) (fr (MI_s J74) 19 rfl) (fk (MI_s J74) 20 rfl) (by decide) ?_
                  refine ex_iload_n ok_X12_collect (mi 103 rfl) rfl ?_
                  refine ex_iconst ok_X12_collect (mi 104 rfl) ?_
                  refine mf_A J74 ok_X12_collect (mi 105 rfl) (fk (MI_s J74) 20 rfl) (fn (MI_s J74) 20 rfl) rfl (by omega) (by decide) (by decide) (by decide) (by decide) (fun g76 J77 K78 => ?_)
                  refine ex_aload_n ok_X12_collect (mi 106 rfl) rfl ?_
                  refine ex_getRx ok_X12_collect (mi 107 rfl) rfl rfl (fk (MI_s J77) 0 rfl) (fr (MI_s J77) 20 rfl) (fk (MI_s J77) 21 rfl) (by decide) ?_
                  refine ex_iload_n ok_X12_collect (mi 108 rfl) rfl ?_
                  refine ex_aload_n ok_X12_collect (mi 109 rfl) rfl ?_
                  refine ex_iload_n ok_X12_collect (mi 110 rfl) rfl ?_
                  refine sm_V (As := [_]) ok_X12_collect (mi 111 rfl) rfl (s_firm hst J77 (by omega)) rfl (fk (MI_s J77) 0 rfl) rfl rfl (by decide) (by decide) (Nat.le_of_ble_eq_true rfl) (by decide) SM_no (fun z79 g81 p80 => ?_)
                  obtain ⟨u83, eu83, u83p, J82⟩ := p80
                  cases eu83
                  obtain ⟨v84, hv84, rfl⟩ := u83p
                  refine mf_B J82 ok_X12_collect (mi 112 rfl) (fk (MI_s J82) 21 rfl) (fn (MI_s J82) 21 rfl) rfl (by omega) (by decide) (B := 17) (by decide) (by decide) (by decide) (vp_in_nI (N := 17) (by omega) (by decide)) (fun g85 J86 K87 => ?_)
                  refine ex_aload_n ok_X12_collect (mi 113 rfl) rfl ?_
                  refine ex_bipush ok_X12_collect (mi 114 rfl) ?_
                  refine ex_iload_n ok_X12_collect (mi 115 rfl) rfl ?_
                  refine ex_aload_n ok_X12_collect (mi 116 rfl) rfl ?_
                  refine ex_getRx ok_X12_collect (mi 117 rfl) rfl rfl (fk (MI_s J86) 0 rfl) (fr (MI_s J86) 3 rfl) (fk (MI_s J86) 4 rfl) (by decide) ?_
                  refine ex_iload_n ok_X12_collect (mi 118 rfl) rfl ?_
                  refine sm_iald ok_X12_collect (mi 119 rfl) (fk (MI_s J86) 4 rfl) (fn (MI_s J86) 4 rfl) rfl (by omega) (by decide) ?_
                  refine ex_gen (fun w88 => ?_)
                  refine ex_aload_n ok_X12_collect (mi 120 rfl) rfl ?_
                  refine ex_getRx ok_X12_collect (mi 121 rfl) rfl rfl (fk (MI_s J86) 0 rfl) (fr (MI_s J86) 2 rfl) (fk (MI_s J86) 3 rfl) (by decide) ?_
                  refine ex_iload_n ok_X12_collect (mi 122 rfl) rfl ?_
                  refine sm_iald ok_X12_collect (mi 123 rfl) (fk (MI_s J86) 3 rfl) (fn (MI_s J86) 3 rfl) rfl (by omega) (by decide) ?_
                  refine ex_gen (fun w89 => ?_)
                  refine ex_aload_n ok_X12_collect (mi 124 rfl) rfl ?_
                  refine ex_getRx ok_X12_collect (mi 125 rfl) rfl rfl (fk (MI_s J86) 0 rfl) (fr (MI_s J86) 20 rfl) (fk (MI_s J86) 21 rfl) (by decide) ?_
                  refine ex_iload_n ok_X12_collect (mi 126 rfl) rfl ?_
                  refine sm_iald ok_X12_collect (mi 127 rfl) (fk (MI_s J86) 21 rfl) (fn (MI_s J86) 21 rfl) rfl (by omega) (by decide) ?_
                  obtain ⟨v90, hv90, ev90⟩ := vp_in_of (n := 17) (MI_bd J86 5 rfl (i := a18) (by omega)) (by decide)
                  refine ex_top (w := nI v90) ev90 ?_
                  refine ex_iconst ok_X12_collect (mi 128 rfl) ?_
                  refine sm_V (As := [_, _, _, _, _, _]) ok_X12_collect (mi 129 rfl) rfl (s_X12_layAll hst J86 (κ := 9) (by decide) (Or.inr (vp_in_nI (N := 3) (by omega) (by decide))) (TO12 rfl) (Or.inl rfl) (Or.inr (vp_in_nI (N := 17) (by omega) (by decide))) (Or.inl rfl)) rfl (fk (MI_s J86) 0 rfl) rfl rfl (by decide) (by decide) (Nat.le_of_ble_eq_true rfl) (by decide) SM_no (fun z91 g93 p92 => ?_)
                  obtain ⟨u95, eu95, u95p, J94⟩ := p92
                  cases eu95
                  obtain ⟨v96, rfl⟩ := u95p
                  refine ex_istore ok_X12_collect (mi 130 rfl) ?_
                  refine ex_iconst ok_X12_collect (mi 131 rfl) ?_
                  refine ex_zret ok_X12_collect (mi 132 rfl) rfl (by decide) ?_
                  exact ⟨_, rfl, ⟨_, rfl, (by decide)⟩, J94⟩
                · skip
                  refine ex_iconst ok_X12_collect (mi 96 rfl) ?_
                  refine ex_zret ok_X12_collect (mi 97 rfl) rfl (by decide) ?_
                  exact ⟨_, rfl, ⟨_, rfl, (by decide)⟩, J43⟩
            | succ n87 ih87 =>
              intro k87 he87 q41 g42 J43 
              have hr87 : k87 < 16 := by omega
              refine ex_iload_n ok_X12_collect (mi 50 rfl) rfl ?_
              refine ex_if_eq (tgt := 162) ok_X12_collect (mi 51 rfl) rfl (fun h88 => ?_) (fun h88 => ?_)
              · skip
                refine ex_iload_n ok_X12_collect (mi 94 rfl) rfl ?_
                refine ex_if_ne (tgt := 168) ok_X12_collect (mi 95 rfl) rfl (fun h163 => ?_) (fun h163 => ?_)
                · skip
                  refine ex_aload_n ok_X12_collect (mi 98 rfl) rfl ?_
                  refine ex_iload_n ok_X12_collect (mi 99 rfl) rfl ?_
                  refine sm_V (As := [_]) ok_X12_collect (mi 100 rfl) rfl (s_X12_forgetCollecting hst J43 (by omega)) rfl (fk (MI_s J43) 0 rfl) rfl rfl (by decide) (by decide) (Nat.le_of_ble_eq_true rfl) (by decide) SM_no (fun z97 g99 p98 => ?_)
                  obtain ⟨u101, eu101, u101p, J100⟩ := p98
                  cases eu101
                  obtain rfl : z97 = none := u101p
                  refine ex_aload_n ok_X12_collect (mi 101 rfl) rfl ?_
                  refine ex_getRx ok_X12_collect (mi 102 rfl) rfl rfl (fk (MI_s J100) 0 rfl) (fr (MI_s J100) 19 rfl) (fk (MI_s J100) 20 rfl) (by decide) ?_
                  refine ex_iload_n ok_X12_collect (mi 103 rfl) rfl ?_
                  refine ex_iconst ok_X12_collect (mi 104 rfl) ?_
                  refine mf_A J100 ok_X12_collect (mi 105 rfl) (fk (MI_s J100) 20 rfl) (fn (MI_s J100) 20 rfl) rfl (by omega) (by decide) (by decide) (by decide) (by decide) (fun g102 J103 K104 => ?_)
                  refine ex_aload_n ok_X12_collect (mi 106 rfl) rfl ?_
                  refine ex_getRx ok_X12_collect (mi 107 rfl) rfl rfl (fk (MI_s J103) 0 rfl) (fr (MI_s J103) 20 rfl) (fk (MI_s J103) 21 rfl) (by decide) ?_
                  refine ex_iload_n ok_X12_collect (mi 108 rfl) rfl ?_
                  refine ex_aload_n ok_X12_collect (mi 109 rfl) rfl ?_
                  refine ex_iload_n ok_X12_collect (mi 110 rfl) rfl ?_
                  refine sm_V (As := [_]) ok_X12_collect (mi 111 rfl) rfl (s_firm hst J103 (by omega)) rfl (fk (MI_s J103) 0 rfl) rfl rfl (by decide) (by decide) (Nat.le_of_ble_eq_true rfl) (by decide) SM_no (fun z105 g107 p106 => ?_)
                  obtain ⟨u109, eu109, u109p, J108⟩ := p106
                  cases eu109
                  obtain ⟨v110, hv110, rfl⟩ := u109p
                  refine mf_B J108 ok_X12_collect (mi 112 rfl) (fk (MI_s J108) 21 rfl) (fn (MI_s J108) 21 rfl) rfl (by omega) (by decide) (B := 17) (by decide) (by decide) (by decide) (vp_in_nI (N := 17) (by omega) (by decide)) (fun g111 J112 K113 => ?_)
                  refine ex_aload_n ok_X12_collect (mi 113 rfl) rfl ?_
                  refine ex_bipush ok_X12_collect (mi 114 rfl) ?_
                  refine ex_iload_n ok_X12_collect (mi 115 rfl) rfl ?_
                  refine ex_aload_n ok_X12_collect (mi 116 rfl) rfl ?_
                  refine ex_getRx ok_X12_collect (mi 117 rfl) rfl rfl (fk (MI_s J112) 0 rfl) (fr (MI_s J112) 3 rfl) (fk (MI_s J112) 4 rfl) (by decide) ?_
                  refine ex_iload_n ok_X12_collect (mi 118 rfl) rfl ?_
                  refine sm_iald ok_X12_collect (mi 119 rfl) (fk (MI_s J112) 4 rfl) (fn (MI_s J112) 4 rfl) rfl (by omega) (by decide) ?_
                  refine ex_gen (fun w114 => ?_)
                  refine ex_aload_n ok_X12_collect (mi 120 rfl) rfl ?_
                  refine ex_getRx ok_X12_collect (mi 121 rfl) rfl rfl (fk (MI_s J112) 0 rfl) (fr (MI_s J112) 2 rfl) (fk (MI_s J112) 3 rfl) (by decide) ?_
                  refine ex_iload_n ok_X12_collect (mi 122 rfl) rfl ?_
                  refine sm_iald ok_X12_collect (mi 123 rfl) (fk (MI_s J112) 3 rfl) (fn (MI_s J112) 3 rfl) rfl (by omega) (by decide) ?_
                  refine ex_gen (fun w115 => ?_)
                  refine ex_aload_n ok_X12_collect (mi 124 rfl) rfl ?_
                  refine ex_getRx ok_X12_collect (mi 125 rfl) rfl rfl (fk (MI_s J112) 0 rfl) (fr (MI_s J112) 20 rfl) (fk (MI_s J112) 21 rfl) (by decide) ?_
                  refine ex_iload_n ok_X12_collect (mi 126 rfl) rfl ?_
                  refine sm_iald ok_X12_collect (mi 127 rfl) (fk (MI_s J112) 21 rfl) (fn (MI_s J112) 21 rfl) rfl (by omega) (by decide) ?_
                  obtain ⟨v116, hv116, ev116⟩ := vp_in_of (n := 17) (MI_bd J112 5 rfl (i := a18) (by omega)) (by decide)
                  refine ex_top (w := nI v116) ev116 ?_
                  refine ex_iconst ok_X12_collect (mi 128 rfl) ?_
                  refine sm_V (As := [_, _, _, _, _, _]) ok_X12_collect (mi 129 rfl) rfl (s_X12_layAll hst J112 (κ := 9) (by decide) (Or.inr (vp_in_nI (N := 3) (by omega) (by decide))) (TO12 rfl) (Or.inl rfl) (Or.inr (vp_in_nI (N := 17) (by omega) (by decide))) (Or.inl rfl)) rfl (fk (MI_s J112) 0 rfl) rfl rfl (by decide) (by decide) (Nat.le_of_ble_eq_true rfl) (by decide) SM_no (fun z117 g119 p118 => ?_)
                  obtain ⟨u121, eu121, u121p, J120⟩ := p118
                  cases eu121
                  obtain ⟨v122, rfl⟩ := u121p
                  refine ex_istore ok_X12_collect (mi 130 rfl) ?_
                  refine ex_iconst ok_X12_collect (mi 131 rfl) ?_
                  refine ex_zret ok_X12_collect (mi 132 rfl) rfl (by decide) ?_
                  exact ⟨_, rfl, ⟨_, rfl, (by decide)⟩, J120⟩
                · skip
                  refine ex_iconst ok_X12_collect (mi 96 rfl) ?_
                  refine ex_zret ok_X12_collect (mi 97 rfl) rfl (by decide) ?_
                  exact ⟨_, rfl, ⟨_, rfl, (by decide)⟩, J43⟩
              · skip
                refine ex_iload ok_X12_collect (mi 52 rfl) rfl ?_
                refine ex_aload_n ok_X12_collect (mi 53 rfl) rfl ?_
                refine ex_getRx ok_X12_collect (mi 54 rfl) rfl rfl (fk (MI_s J43) 0 rfl) (fr (MI_s J43) 13 rfl) (fk (MI_s J43) 14 rfl) (by decide) ?_
                refine ex_iload_n ok_X12_collect (mi 55 rfl) rfl ?_
                refine sm_iald ok_X12_collect (mi 56 rfl) (fk (MI_s J43) 14 rfl) (fn (MI_s J43) 14 rfl) rfl (by omega) (by decide) ?_
                obtain ⟨v123, hv123, ev123⟩ := vp_in_of (n := 17) (MI_bd J43 3 rfl (i := a18) (by omega)) (by decide)
                refine ex_top (w := nI v123) ev123 ?_
                refine ex_icmp_ge (tgt := 162) ok_X12_collect (mi 57 rfl) rfl (fun h99 => ?_) (fun h99 => ?_)
                · skip
                  refine ex_iload_n ok_X12_collect (mi 94 rfl) rfl ?_
                  refine ex_if_ne (tgt := 168) ok_X12_collect (mi 95 rfl) rfl (fun h163 => ?_) (fun h163 => ?_)
                  · skip
                    refine ex_aload_n ok_X12_collect (mi 98 rfl) rfl ?_
                    refine ex_iload_n ok_X12_collect (mi 99 rfl) rfl ?_
                    refine sm_V (As := [_]) ok_X12_collect (mi 100 rfl) rfl (s_X12_forgetCollecting hst J43 (by omega)) rfl (fk (MI_s J43) 0 rfl) rfl rfl (by decide) (by decide) (Nat.le_of_ble_eq_true rfl) (by decide) SM_no (fun z124 g126 p125 => ?_)
                    obtain ⟨u128, eu128, u128p, J127⟩ := p125
                    cases eu128
                    obtain rfl : z124 = none := u128p
                    refine ex_aload_n ok_X12_collect (mi 101 rfl) rfl ?_
                    refine ex_getRx ok_X12_collect (mi 102 rfl) rfl rfl (fk (MI_s J127) 0 rfl) (fr (MI_s J127) 19 rfl) (fk (MI_s J127) 20 rfl) (by decide) ?_
                    refine ex_iload_n ok_X12_collect (mi 103 rfl) rfl ?_
                    refine ex_iconst ok_X12_collect (mi 104 rfl) ?_
                    refine mf_A J127 ok_X12_collect (mi 105 rfl) (fk (MI_s J127) 20 rfl) (fn (MI_s J127) 20 rfl) rfl (by omega) (by decide) (by decide) (by decide) (by decide) (fun g129 J130 K131 => ?_)
                    refine ex_aload_n ok_X12_collect (mi 106 rfl) rfl ?_
                    refine ex_getRx ok_X12_collect (mi 107 rfl) rfl rfl (fk (MI_s J130) 0 rfl) (fr (MI_s J130) 20 rfl) (fk (MI_s J130) 21 rfl) (by decide) ?_
                    refine ex_iload_n ok_X12_collect (mi 108 rfl) rfl ?_
                    refine ex_aload_n ok_X12_collect (mi 109 rfl) rfl ?_
                    refine ex_iload_n ok_X12_collect (mi 110 rfl) rfl ?_
                    refine sm_V (As := [_]) ok_X12_collect (mi 111 rfl) rfl (s_firm hst J130 (by omega)) rfl (fk (MI_s J130) 0 rfl) rfl rfl (by decide) (by decide) (Nat.le_of_ble_eq_true rfl) (by decide) SM_no (fun z132 g134 p133 => ?_)
                    obtain ⟨u136, eu136, u136p, J135⟩ := p133
                    cases eu136
                    obtain ⟨v137, hv137, rfl⟩ := u136p
                    refine mf_B J135 ok_X12_collect (mi 112 rfl) (fk (MI_s J135) 21 rfl) (fn (MI_s J135) 21 rfl) rfl (by omega) (by decide) (B := 17) (by decide) (by decide) (by decide) (vp_in_nI (N := 17) (by omega) (by decide)) (fun g138 J139 K140 => ?_)
                    refine ex_aload_n ok_X12_collect (mi 113 rfl) rfl ?_
                    refine ex_bipush ok_X12_collect (mi 114 rfl) ?_
                    refine ex_iload_n ok_X12_collect (mi 115 rfl) rfl ?_
                    refine ex_aload_n ok_X12_collect (mi 116 rfl) rfl ?_
                    refine ex_getRx ok_X12_collect (mi 117 rfl) rfl rfl (fk (MI_s J139) 0 rfl) (fr (MI_s J139) 3 rfl) (fk (MI_s J139) 4 rfl) (by decide) ?_
                    refine ex_iload_n ok_X12_collect (mi 118 rfl) rfl ?_
                    refine sm_iald ok_X12_collect (mi 119 rfl) (fk (MI_s J139) 4 rfl) (fn (MI_s J139) 4 rfl) rfl (by omega) (by decide) ?_
                    refine ex_gen (fun w141 => ?_)
                    refine ex_aload_n ok_X12_collect (mi 120 rfl) rfl ?_
                    refine ex_getRx ok_X12_collect (mi 121 rfl) rfl rfl (fk (MI_s J139) 0 rfl) (fr (MI_s J139) 2 rfl) (fk (MI_s J139) 3 rfl) (by decide) ?_
                    refine ex_iload_n ok_X12_collect (mi 122 rfl) rfl ?_
                    refine sm_iald ok_X12_collect (mi 123 rfl) (fk (MI_s J139) 3 rfl) (fn (MI_s J139) 3 rfl) rfl (by omega) (by decide) ?_
                    refine ex_gen (fun w142 => ?_)
                    refine ex_aload_n ok_X12_collect (mi 124 rfl) rfl ?_
                    refine ex_getRx ok_X12_collect (mi 125 rfl) rfl rfl (fk (MI_s J139) 0 rfl) (fr (MI_s J139) 20 rfl) (fk (MI_s J139) 21 rfl) (by decide) ?_
                    refine ex_iload_n ok_X12_collect (mi 126 rfl) rfl ?_
                    refine sm_iald ok_X12_collect (mi 127 rfl) (fk (MI_s J139) 21 rfl) (fn (MI_s J139) 21 rfl) rfl (by omega) (by decide) ?_
                    obtain ⟨v143, hv143, ev143⟩ := vp_in_of (n := 17) (MI_bd J139 5 rfl (i := a18) (by omega)) (by decide)
                    refine ex_top (w := nI v143) ev143 ?_
                    refine ex_iconst ok_X12_collect (mi 128 rfl) ?_
                    refine sm_V (As := [_, _, _, _, _, _]) ok_X12_collect (mi 129 rfl) rfl (s_X12_layAll hst J139 (κ := 9) (by decide) (Or.inr (vp_in_nI (N := 3) (by omega) (by decide))) (TO12 rfl) (Or.inl rfl) (Or.inr (vp_in_nI (N := 17) (by omega) (by decide))) (Or.inl rfl)) rfl (fk (MI_s J139) 0 rfl) rfl rfl (by decide) (by decide) (Nat.le_of_ble_eq_true rfl) (by decide) SM_no (fun z144 g146 p145 => ?_)
                    obtain ⟨u148, eu148, u148p, J147⟩ := p145
                    cases eu148
                    obtain ⟨v149, rfl⟩ := u148p
                    refine ex_istore ok_X12_collect (mi 130 rfl) ?_
                    refine ex_iconst ok_X12_collect (mi 131 rfl) ?_
                    refine ex_zret ok_X12_collect (mi 132 rfl) rfl (by decide) ?_
                    exact ⟨_, rfl, ⟨_, rfl, (by decide)⟩, J147⟩
                  · skip
                    refine ex_iconst ok_X12_collect (mi 96 rfl) ?_
                    refine ex_zret ok_X12_collect (mi 97 rfl) rfl (by decide) ?_
                    exact ⟨_, rfl, ⟨_, rfl, (by decide)⟩, J43⟩
                · skip
                  have l99 : k87 < v123 := Nat.lt_of_not_le (fun q => h99 (nI_le q (by omega)))
                  refine ex_aload_n ok_X12_collect (mi 58 rfl) rfl ?_
                  refine ex_getRx ok_X12_collect (mi 59 rfl) rfl rfl (fk (MI_s J43) 0 rfl) (fr (MI_s J43) 15 rfl) (fk (MI_s J43) 16 rfl) (by decide) ?_
                  refine ex_bipush ok_X12_collect (mi 60 rfl) ?_
                  refine ex_iload_n ok_X12_collect (mi 61 rfl) rfl ?_
                  refine ex_imul ok_X12_collect (mi 62 rfl) ?_
                  refine ex_top (w := (nI (16 * a18))) (nI_mulc rfl) ?_
                  refine ex_iload ok_X12_collect (mi 63 rfl) rfl ?_
                  refine ex_iadd ok_X12_collect (mi 64 rfl) ?_
                  refine ex_top (w := (nI (16 * a18 + k87))) (nI_add _ _) ?_
                  refine sm_iald ok_X12_collect (mi 65 rfl) (fk (MI_s J43) 16 rfl) (fn (MI_s J43) 16 rfl) rfl (by omega) (by decide) ?_
                  refine ex_gen (fun w150 => ?_)
                  refine ex_iconst ok_X12_collect (mi 66 rfl) ?_
                  refine ex_icmp_eq (tgt := 150) ok_X12_collect (mi 67 rfl) rfl (fun h115 => ?_) (fun h115 => ?_)
                  · skip
                    refine ex_iconst ok_X12_collect (mi 88 rfl) ?_
                    refine ex_goto (tgt := 155) ok_X12_collect (mi 89 rfl) rfl ?_
                    refine ex_istore_n ok_X12_collect (mi 91 rfl) ?_
                    refine ex_iincx (w := (nI (k87 + 1))) ok_X12_collect (mi 92 rfl) rfl (nI_1 _) ?_
                    refine ex_goto (tgt := 87) ok_X12_collect (mi 93 rfl) rfl ?_
                    exact ex_ls (ls' := [(0, .ref y), (1, .int (nI (a18))), (2, .int (nI 1)), (3, .int (nI 1)), (4, .int (nI (k87 + 1)))]) ⟨rfl, rfl, rfl, rfl, rfl, trivial⟩ (ih87 (k87 + 1) (by omega) _ g42 J43 )
                  · skip
                    refine ex_aload_n ok_X12_collect (mi 68 rfl) rfl ?_
                    refine ex_getRx ok_X12_collect (mi 69 rfl) rfl rfl (fk (MI_s J43) 0 rfl) (fr (MI_s J43) 15 rfl) (fk (MI_s J43) 16 rfl) (by decide) ?_
                    refine ex_bipush ok_X12_collect (mi 70 rfl) ?_
                    refine ex_iload_n ok_X12_collect (mi 71 rfl) rfl ?_
                    refine ex_imul ok_X12_collect (mi 72 rfl) ?_
                    refine ex_top (w := (nI (16 * a18))) (nI_mulc rfl) ?_
                    refine ex_iload ok_X12_collect (mi 73 rfl) rfl ?_
                    refine ex_iadd ok_X12_collect (mi 74 rfl) ?_
                    refine ex_top (w := (nI (16 * a18 + k87))) (nI_add _ _) ?_
                    refine sm_iald ok_X12_collect (mi 75 rfl) (fk (MI_s J43) 16 rfl) (fn (MI_s J43) 16 rfl) rfl (by omega) (by decide) ?_
                    refine ex_gen (fun w151 => ?_)
                    refine ex_iconst ok_X12_collect (mi 76 rfl) ?_
                    refine ex_icmp_eq (tgt := 150) ok_X12_collect (mi 77 rfl) rfl (fun h131 => ?_) (fun h131 => ?_)
                    · skip
                      refine ex_iconst ok_X12_collect (mi 88 rfl) ?_
                      refine ex_goto (tgt := 155) ok_X12_collect (mi 89 rfl) rfl ?_
                      refine ex_istore_n ok_X12_collect (mi 91 rfl) ?_
                      refine ex_iincx (w := (nI (k87 + 1))) ok_X12_collect (mi 92 rfl) rfl (nI_1 _) ?_
                      refine ex_goto (tgt := 87) ok_X12_collect (mi 93 rfl) rfl ?_
                      exact ex_ls (ls' := [(0, .ref y), (1, .int (nI (a18))), (2, .int (nI 1)), (3, .int (nI 1)), (4, .int (nI (k87 + 1)))]) ⟨rfl, rfl, rfl, rfl, rfl, trivial⟩ (ih87 (k87 + 1) (by omega) _ g42 J43 )
                    · skip
                      refine ex_aload_n ok_X12_collect (mi 78 rfl) rfl ?_
                      refine ex_getRx ok_X12_collect (mi 79 rfl) rfl rfl (fk (MI_s J43) 0 rfl) (fr (MI_s J43) 15 rfl) (fk (MI_s J43) 16 rfl) (by decide) ?_
                      refine ex_bipush ok_X12_collect (mi 80 rfl) ?_
                      refine ex_iload_n ok_X12_collect (mi 81 rfl) rfl ?_
                      refine ex_imul ok_X12_collect (mi 82 rfl) ?_
                      refine ex_top (w := (nI (16 * a18))) (nI_mulc rfl) ?_
                      refine ex_iload ok_X12_collect (mi 83 rfl) rfl ?_
                      refine ex_iadd ok_X12_collect (mi 84 rfl) ?_
                      refine ex_top (w := (nI (16 * a18 + k87))) (nI_add _ _) ?_
                      refine sm_iald ok_X12_collect (mi 85 rfl) (fk (MI_s J43) 16 rfl) (fn (MI_s J43) 16 rfl) rfl (by omega) (by decide) ?_
                      refine ex_gen (fun w152 => ?_)
                      refine ex_iconst ok_X12_collect (mi 86 rfl) ?_
                      refine ex_icmp_ne (tgt := 154) ok_X12_collect (mi 87 rfl) rfl (fun h147 => ?_) (fun h147 => ?_)
                      · skip
                        refine ex_iconst ok_X12_collect (mi 90 rfl) ?_
                        refine ex_istore_n ok_X12_collect (mi 91 rfl) ?_
                        refine ex_iincx (w := (nI (k87 + 1))) ok_X12_collect (mi 92 rfl) rfl (nI_1 _) ?_
                        refine ex_goto (tgt := 87) ok_X12_collect (mi 93 rfl) rfl ?_
                        exact ex_ls (ls' := [(0, .ref y), (1, .int (nI (a18))), (2, .int (nI 1)), (3, .int (nI 0)), (4, .int (nI (k87 + 1)))]) ⟨rfl, rfl, rfl, rfl, rfl, trivial⟩ (ih87 (k87 + 1) (by omega) _ g42 J43 )
                      · skip
                        refine ex_iconst ok_X12_collect (mi 88 rfl) ?_
                        refine ex_goto (tgt := 155) ok_X12_collect (mi 89 rfl) rfl ?_
                        refine ex_istore_n ok_X12_collect (mi 91 rfl) ?_
                        refine ex_iincx (w := (nI (k87 + 1))) ok_X12_collect (mi 92 rfl) rfl (nI_1 _) ?_
                        refine ex_goto (tgt := 87) ok_X12_collect (mi 93 rfl) rfl ?_
                        exact ex_ls (ls' := [(0, .ref y), (1, .int (nI (a18))), (2, .int (nI 1)), (3, .int (nI 1)), (4, .int (nI (k87 + 1)))]) ⟨rfl, rfl, rfl, rfl, rfl, trivial⟩ (ih87 (k87 + 1) (by omega) _ g42 J43 )
          exact ex_ls (ls' := [(0, .ref y), (1, .int (nI (a18))), (2, .int (nI 1)), (3, .int (nI 0)), (4, .int (nI 0))]) ⟨rfl, rfl, rfl, rfl, rfl, trivial⟩ (lp87 (16 - 0) (0) (by omega) _ (px_I g 1200 y v37) J39 )
        · skip
          have J153 := MI_Ra (l := a18) J39 (by rw [h63]; decide)
          refine ex_iconst ok_X12_collect (mi 38 rfl) ?_
          refine ex_goto (tgt := 71) ok_X12_collect (mi 39 rfl) rfl ?_
          refine ex_istore_n ok_X12_collect (mi 41 rfl) ?_
          refine ex_iload_n ok_X12_collect (mi 42 rfl) rfl ?_
          refine ex_if_eq (tgt := 84) ok_X12_collect (mi 43 rfl) rfl (fun hn => absurd hn (by decide)) (fun _ => ?_)
          refine ex_aload_n ok_X12_collect (mi 44 rfl) rfl ?_
          refine ex_iload_n ok_X12_collect (mi 45 rfl) rfl ?_
          refine sm_V (As := [_]) ok_X12_collect (mi 46 rfl) rfl (s_firm hst J153 (by omega)) rfl (fk (MI_s J153) 0 rfl) rfl rfl (by decide) (by decide) (Nat.le_of_ble_eq_true rfl) (by decide) SM_no (fun z154 g156 p155 => ?_)
          obtain ⟨u158, eu158, u158p, J157⟩ := p155
          cases eu158
          obtain ⟨v159, hv159, rfl⟩ := u158p
          refine ex_goto (tgt := 85) ok_X12_collect (mi 47 rfl) rfl ?_
          refine ex_istore ok_X12_collect (mi 49 rfl) ?_
          have lp87 : ∀ n87 k87 : Nat, k87 + n87 = 16 → ∀ (q160 : Int32) (g161 : GT), MI y D c (fun j => R j ∨ j = a18) g161 → ex_W G 3 0 0 M_X12_collect 87 [(0, .ref y), (1, .int (nI (a18))), (2, .int (nI 1)), (3, .int q160), (4, .int (nI (k87)))] [] g161 (SM y D c R pZ) := by
            intro n87
            induction n87 with
            | zero =>
              intro k87 he87 q160 g161 J162 
              obtain rfl : k87 = 16 := by omega
              refine ex_iload_n ok_X12_collect (mi 50 rfl) rfl ?_
              refine ex_if_eq (tgt := 162) ok_X12_collect (mi 51 rfl) rfl (fun h88 => ?_) (fun h88 => ?_)
              · skip
                refine ex_iload_n ok_X12_collect (mi 94 rfl) rfl ?_
                refine ex_if_ne (tgt := 168) ok_X12_collect (mi 95 rfl) rfl (fun h163 => ?_) (fun h163 => ?_)
                · skip
                  refine ex_aload_n ok_X12_collect (mi 98 rfl) rfl ?_
                  refine ex_iload_n ok_X12_collect (mi 99 rfl) rfl ?_
                  refine sm_V (As := [_]) ok_X12_collect (mi 100 rfl) rfl (s_X12_forgetCollecting hst J162 (by omega)) rfl (fk (MI_s J162) 0 rfl) rfl rfl (by decide) (by decide) (Nat.le_of_ble_eq_true rfl) (by decide) SM_no (fun z163 g165 p164 => ?_)
                  obtain ⟨u167, eu167, u167p, J166⟩ := p164
                  cases eu167
                  obtain rfl : z163 = none := u167p
                  refine ex_aload_n ok_X12_collect (mi 101 rfl) rfl ?_
                  refine ex_getRx ok_X12_collect (mi 102 rfl) rfl rfl (fk (MI_s J166) 0 rfl) (fr (MI_s J166) 19 rfl) (fk (MI_s J166) 20 rfl) (by decide) ?_
                  refine ex_iload_n ok_X12_collect (mi 103 rfl) rfl ?_
                  refine ex_iconst ok_X12_collect (mi 104 rfl) ?_
                  refine mf_A J166 ok_X12_collect (mi 105 rfl) (fk (MI_s J166) 20 rfl) (fn (MI_s J166) 20 rfl) rfl (by omega) (by decide) (by decide) (by decide) (by decide) (fun g168 J169 K170 => ?_)
                  refine ex_aload_n ok_X12_collect (mi 106 rfl) rfl ?_
                  refine ex_getRx ok_X12_collect (mi 107 rfl) rfl rfl (fk (MI_s J169) 0 rfl) (fr (MI_s J169) 20 rfl) (fk (MI_s J169) 21 rfl) (by decide) ?_
                  refine ex_iload_n ok_X12_collect (mi 108 rfl) rfl ?_
                  refine ex_aload_n ok_X12_collect (mi 109 rfl) rfl ?_
                  refine ex_iload_n ok_X12_collect (mi 110 rfl) rfl ?_
                  refine sm_V (As := [_]) ok_X12_collect (mi 111 rfl) rfl (s_firm hst J169 (by omega)) rfl (fk (MI_s J169) 0 rfl) rfl rfl (by decide) (by decide) (Nat.le_of_ble_eq_true rfl) (by decide) SM_no (fun z171 g173 p172 => ?_)
                  obtain ⟨u175, eu175, u175p, J174⟩ := p172
                  cases eu175
                  obtain ⟨v176, hv176, rfl⟩ := u175p
                  refine mf_B J174 ok_X12_collect (mi 112 rfl) (fk (MI_s J174) 21 rfl) (fn (MI_s J174) 21 rfl) rfl (by omega) (by decide) (B := 17) (by decide) (by decide) (by decide) (vp_in_nI (N := 17) (by omega) (by decide)) (fun g177 J178 K179 => ?_)
                  refine ex_aload_n ok_X12_collect (mi 113 rfl) rfl ?_
                  refine ex_bipush ok_X12_collect (mi 114 rfl) ?_
                  refine ex_iload_n ok_X12_collect (mi 115 rfl) rfl ?_
                  refine ex_aload_n ok_X12_collect (mi 116 rfl) rfl ?_
                  refine ex_getRx ok_X12_collect (mi 117 rfl) rfl rfl (fk (MI_s J178) 0 rfl) (fr (MI_s J178) 3 rfl) (fk (MI_s J178) 4 rfl) (by decide) ?_
                  refine ex_iload_n ok_X12_collect (mi 118 rfl) rfl ?_
                  refine sm_iald ok_X12_collect (mi 119 rfl) (fk (MI_s J178) 4 rfl) (fn (MI_s J178) 4 rfl) rfl (by omega) (by decide) ?_
                  refine ex_gen (fun w180 => ?_)
                  refine ex_aload_n ok_X12_collect (mi 120 rfl) rfl ?_
                  refine ex_getRx ok_X12_collect (mi 121 rfl) rfl rfl (fk (MI_s J178) 0 rfl) (fr (MI_s J178) 2 rfl) (fk (MI_s J178) 3 rfl) (by decide) ?_
                  refine ex_iload_n ok_X12_collect (mi 122 rfl) rfl ?_
                  refine sm_iald ok_X12_collect (mi 123 rfl) (fk (MI_s J178) 3 rfl) (fn (MI_s J178) 3 rfl) rfl (by omega) (by decide) ?_
                  obtain ⟨v181, hv181, ev181⟩ := vp_in_of (n := 300) (MI_rd J178 (i := a18) (by omega) (Or.inr rfl)) (by decide)
                  refine ex_top (w := nI v181) ev181 ?_
                  refine ex_aload_n ok_X12_collect (mi 124 rfl) rfl ?_
                  refine ex_getRx ok_X12_collect (mi 125 rfl) rfl rfl (fk (MI_s J178) 0 rfl) (fr (MI_s J178) 20 rfl) (fk (MI_s J178) 21 rfl) (by decide) ?_
                  refine ex_iload_n ok_X12_collect (mi 126 rfl) rfl ?_
                  refine sm_iald ok_X12_collect (mi 127 rfl) (fk (MI_s J178) 21 rfl) (fn (MI_s J178) 21 rfl) rfl (by omega) (by decide) ?_
                  obtain ⟨v182, hv182, ev182⟩ := vp_in_of (n := 17) (MI_bd J178 5 rfl (i := a18) (by omega)) (by decide)
                  refine ex_top (w := nI v182) ev182 ?_
                  refine ex_iconst ok_X12_collect (mi 128 rfl) ?_
                  refine sm_V (As := [_, _, _, _, _, _]) ok_X12_collect (mi 129 rfl) rfl (s_X12_layAll hst J178 (κ := 9) (by decide) (Or.inr (vp_in_nI (N := 3) (by omega) (by decide))) (TO12 rfl) (Or.inl rfl) (Or.inr (vp_in_nI (N := 17) (by omega) (by decide))) (Or.inl rfl)) rfl (fk (MI_s J178) 0 rfl) rfl rfl (by decide) (by decide) (Nat.le_of_ble_eq_true rfl) (by decide) SM_no (fun z183 g185 p184 => ?_)
                  obtain ⟨u187, eu187, u187p, J186⟩ := p184
                  cases eu187
                  obtain ⟨v188, rfl⟩ := u187p
                  refine ex_istore ok_X12_collect (mi 130 rfl) ?_
                  refine ex_iconst ok_X12_collect (mi 131 rfl) ?_
                  refine ex_zret ok_X12_collect (mi 132 rfl) rfl (by decide) ?_
                  exact ⟨_, rfl, ⟨_, rfl, (by decide)⟩, (MI_Rw J186 (fun l k => (Or.inl k)))⟩
                · skip
                  refine ex_iconst ok_X12_collect (mi 96 rfl) ?_
                  refine ex_zret ok_X12_collect (mi 97 rfl) rfl (by decide) ?_
                  exact ⟨_, rfl, ⟨_, rfl, (by decide)⟩, (MI_Rw J162 (fun l k => (Or.inl k)))⟩
              · skip
                refine ex_iload ok_X12_collect (mi 52 rfl) rfl ?_
                refine ex_aload_n ok_X12_collect (mi 53 rfl) rfl ?_
                refine ex_getRx ok_X12_collect (mi 54 rfl) rfl rfl (fk (MI_s J162) 0 rfl) (fr (MI_s J162) 13 rfl) (fk (MI_s J162) 14 rfl) (by decide) ?_
                refine ex_iload_n ok_X12_collect (mi 55 rfl) rfl ?_
                refine sm_iald ok_X12_collect (mi 56 rfl) (fk (MI_s J162) 14 rfl) (fn (MI_s J162) 14 rfl) rfl (by omega) (by decide) ?_
                obtain ⟨v189, hv189, ev189⟩ := vp_in_of (n := 17) (MI_bd J162 3 rfl (i := a18) (by omega)) (by decide)
                refine ex_top (w := nI v189) ev189 ?_
                refine ex_icmp_ge (tgt := 162) ok_X12_collect (mi 57 rfl) rfl (fun _ => ?_) (fun hn => absurd (nI_le (b := 16) (a := v189) (by omega) (by omega)) hn)
                refine ex_iload_n ok_X12_collect (mi 94 rfl) rfl ?_
                refine ex_if_ne (tgt := 168) ok_X12_collect (mi 95 rfl) rfl (fun h163 => ?_) (fun h163 => ?_)
                · skip
                  refine ex_aload_n ok_X12_collect (mi 98 rfl) rfl ?_
                  refine ex_iload_n ok_X12_collect (mi 99 rfl) rfl ?_
                  refine sm_V (As := [_]) ok_X12_collect (mi 100 rfl) rfl (s_X12_forgetCollecting hst J162 (by omega)) rfl (fk (MI_s J162) 0 rfl) rfl rfl (by decide) (by decide) (Nat.le_of_ble_eq_true rfl) (by decide) SM_no (fun z190 g192 p191 => ?_)
                  obtain ⟨u194, eu194, u194p, J193⟩ := p191
                  cases eu194
                  obtain rfl : z190 = none := u194p
                  refine ex_aload_n ok_X12_collect (mi 101 rfl) rfl ?_
                  refine ex_getRx ok_X12_collect (mi 102 rfl) rfl rfl (fk (MI_s J193) 0 rfl) (fr (MI_s J193) 19 rfl) (fk (MI_s J193) 20 rfl) (by decide) ?_
                  refine ex_iload_n ok_X12_collect (mi 103 rfl) rfl ?_
                  refine ex_iconst ok_X12_collect (mi 104 rfl) ?_
                  refine mf_A J193 ok_X12_collect (mi 105 rfl) (fk (MI_s J193) 20 rfl) (fn (MI_s J193) 20 rfl) rfl (by omega) (by decide) (by decide) (by decide) (by decide) (fun g195 J196 K197 => ?_)
                  refine ex_aload_n ok_X12_collect (mi 106 rfl) rfl ?_
                  refine ex_getRx ok_X12_collect (mi 107 rfl) rfl rfl (fk (MI_s J196) 0 rfl) (fr (MI_s J196) 20 rfl) (fk (MI_s J196) 21 rfl) (by decide) ?_
                  refine ex_iload_n ok_X12_collect (mi 108 rfl) rfl ?_
                  refine ex_aload_n ok_X12_collect (mi 109 rfl) rfl ?_
                  refine ex_iload_n ok_X12_collect (mi 110 rfl) rfl ?_
                  refine sm_V (As := [_]) ok_X12_collect (mi 111 rfl) rfl (s_firm hst J196 (by omega)) rfl (fk (MI_s J196) 0 rfl) rfl rfl (by decide) (by decide) (Nat.le_of_ble_eq_true rfl) (by decide) SM_no (fun z198 g200 p199 => ?_)
                  obtain ⟨u202, eu202, u202p, J201⟩ := p199
                  cases eu202
                  obtain ⟨v203, hv203, rfl⟩ := u202p
                  refine mf_B J201 ok_X12_collect (mi 112 rfl) (fk (MI_s J201) 21 rfl) (fn (MI_s J201) 21 rfl) rfl (by omega) (by decide) (B := 17) (by decide) (by decide) (by decide) (vp_in_nI (N := 17) (by omega) (by decide)) (fun g204 J205 K206 => ?_)
                  refine ex_aload_n ok_X12_collect (mi 113 rfl) rfl ?_
                  refine ex_bipush ok_X12_collect (mi 114 rfl) ?_
                  refine ex_iload_n ok_X12_collect (mi 115 rfl) rfl ?_
                  refine ex_aload_n ok_X12_collect (mi 116 rfl) rfl ?_
                  refine ex_getRx ok_X12_collect (mi 117 rfl) rfl rfl (fk (MI_s J205) 0 rfl) (fr (MI_s J205) 3 rfl) (fk (MI_s J205) 4 rfl) (by decide) ?_
                  refine ex_iload_n ok_X12_collect (mi 118 rfl) rfl ?_
                  refine sm_iald ok_X12_collect (mi 119 rfl) (fk (MI_s J205) 4 rfl) (fn (MI_s J205) 4 rfl) rfl (by omega) (by decide) ?_
                  refine ex_gen (fun w207 => ?_)
                  refine ex_aload_n ok_X12_collect (mi 120 rfl) rfl ?_
                  refine ex_getRx ok_X12_collect (mi 121 rfl) rfl rfl (fk (MI_s J205) 0 rfl) (fr (MI_s J205) 2 rfl) (fk (MI_s J205) 3 rfl) (by decide) ?_
                  refine ex_iload_n ok_X12_collect (mi 122 rfl) rfl ?_
                  refine sm_iald ok_X12_collect (mi 123 rfl) (fk (MI_s J205) 3 rfl) (fn (MI_s J205) 3 rfl) rfl (by omega) (by decide) ?_
                  obtain ⟨v208, hv208, ev208⟩ := vp_in_of (n := 300) (MI_rd J205 (i := a18) (by omega) (Or.inr rfl)) (by decide)
                  refine ex_top (w := nI v208) ev208 ?_
                  refine ex_aload_n ok_X12_collect (mi 124 rfl) rfl ?_
                  refine ex_getRx ok_X12_collect (mi 125 rfl) rfl rfl (fk (MI_s J205) 0 rfl) (fr (MI_s J205) 20 rfl) (fk (MI_s J205) 21 rfl) (by decide) ?_
                  refine ex_iload_n ok_X12_collect (mi 126 rfl) rfl ?_
                  refine sm_iald ok_X12_collect (mi 127 rfl) (fk (MI_s J205) 21 rfl) (fn (MI_s J205) 21 rfl) rfl (by omega) (by decide) ?_
                  obtain ⟨v209, hv209, ev209⟩ := vp_in_of (n := 17) (MI_bd J205 5 rfl (i := a18) (by omega)) (by decide)
                  refine ex_top (w := nI v209) ev209 ?_
                  refine ex_iconst ok_X12_collect (mi 128 rfl) ?_
                  refine sm_V (As := [_, _, _, _, _, _]) ok_X12_collect (mi 129 rfl) rfl (s_X12_layAll hst J205 (κ := 9) (by decide) (Or.inr (vp_in_nI (N := 3) (by omega) (by decide))) (TO12 rfl) (Or.inl rfl) (Or.inr (vp_in_nI (N := 17) (by omega) (by decide))) (Or.inl rfl)) rfl (fk (MI_s J205) 0 rfl) rfl rfl (by decide) (by decide) (Nat.le_of_ble_eq_true rfl) (by decide) SM_no (fun z210 g212 p211 => ?_)
                  obtain ⟨u214, eu214, u214p, J213⟩ := p211
                  cases eu214
                  obtain ⟨v215, rfl⟩ := u214p
                  refine ex_istore ok_X12_collect (mi 130 rfl) ?_
                  refine ex_iconst ok_X12_collect (mi 131 rfl) ?_
                  refine ex_zret ok_X12_collect (mi 132 rfl) rfl (by decide) ?_
                  exact ⟨_, rfl, ⟨_, rfl, (by decide)⟩, (MI_Rw J213 (fun l k => (Or.inl k)))⟩
                · skip
                  refine ex_iconst ok_X12_collect (mi 96 rfl) ?_
                  refine ex_zret ok_X12_collect (mi 97 rfl) rfl (by decide) ?_
                  exact ⟨_, rfl, ⟨_, rfl, (by decide)⟩, (MI_Rw J162 (fun l k => (Or.inl k)))⟩
            | succ n87 ih87 =>
              intro k87 he87 q160 g161 J162 
              have hr87 : k87 < 16 := by omega
              refine ex_iload_n ok_X12_collect (mi 50 rfl) rfl ?_
              refine ex_if_eq (tgt := 162) ok_X12_collect (mi 51 rfl) rfl (fun h88 => ?_) (fun h88 => ?_)
              · skip
                refine ex_iload_n ok_X12_collect (mi 94 rfl) rfl ?_
                refine ex_if_ne (tgt := 168) ok_X12_collect (mi 95 rfl) rfl (fun h163 => ?_) (fun h163 => ?_)
                · skip
                  refine ex_aload_n ok_X12_collect (mi 98 rfl) rfl ?_
                  refine ex_iload_n ok_X12_collect (mi 99 rfl) rfl ?_
                  refine sm_V (As := [_]) ok_X12_collect (mi 100 rfl) rfl (s_X12_forgetCollecting hst J162 (by omega)) rfl (fk (MI_s J162) 0 rfl) rfl rfl (by decide) (by decide) (Nat.le_of_ble_eq_true rfl) (by decide) SM_no (fun z216 g218 p217 => ?_)
                  obtain ⟨u220, eu220, u220p, J219⟩ := p217
                  cases eu220
                  obtain rfl : z216 = none := u220p
                  refine ex_aload_n ok_X12_collect (mi 101 rfl) rfl ?_
                  refine ex_getRx ok_X12_collect (mi 102 rfl) rfl rfl (fk (MI_s J219) 0 rfl) (fr (MI_s J219) 19 rfl) (fk (MI_s J219) 20 rfl) (by decide) ?_
                  refine ex_iload_n ok_X12_collect (mi 103 rfl) rfl ?_
                  refine ex_iconst ok_X12_collect (mi 104 rfl) ?_
                  refine mf_A J219 ok_X12_collect (mi 105 rfl) (fk (MI_s J219) 20 rfl) (fn (MI_s J219) 20 rfl) rfl (by omega) (by decide) (by decide) (by decide) (by decide) (fun g221 J222 K223 => ?_)
                  refine ex_aload_n ok_X12_collect (mi 106 rfl) rfl ?_
                  refine ex_getRx ok_X12_collect (mi 107 rfl) rfl rfl (fk (MI_s J222) 0 rfl) (fr (MI_s J222) 20 rfl) (fk (MI_s J222) 21 rfl) (by decide) ?_
                  refine ex_iload_n ok_X12_collect (mi 108 rfl) rfl ?_
                  refine ex_aload_n ok_X12_collect (mi 109 rfl) rfl ?_
                  refine ex_iload_n ok_X12_collect (mi 110 rfl) rfl ?_
                  refine sm_V (As := [_]) ok_X12_collect (mi 111 rfl) rfl (s_firm hst J222 (by omega)) rfl (fk (MI_s J222) 0 rfl) rfl rfl (by decide) (by decide) (Nat.le_of_ble_eq_true rfl) (by decide) SM_no (fun z224 g226 p225 => ?_)
                  obtain ⟨u228, eu228, u228p, J227⟩ := p225
                  cases eu228
                  obtain ⟨v229, hv229, rfl⟩ := u228p
                  refine mf_B J227 ok_X12_collect (mi 112 rfl) (fk (MI_s J227) 21 rfl) (fn (MI_s J227) 21 rfl) rfl (by omega) (by decide) (B := 17) (by decide) (by decide) (by decide) (vp_in_nI (N := 17) (by omega) (by decide)) (fun g230 J231 K232 => ?_)
                  refine ex_aload_n ok_X12_collect (mi 113 rfl) rfl ?_
                  refine ex_bipush ok_X12_collect (mi 114 rfl) ?_
                  refine ex_iload_n ok_X12_collect (mi 115 rfl) rfl ?_
                  refine ex_aload_n ok_X12_collect (mi 116 rfl) rfl ?_
                  refine ex_getRx ok_X12_collect (mi 117 rfl) rfl rfl (fk (MI_s J231) 0 rfl) (fr (MI_s J231) 3 rfl) (fk (MI_s J231) 4 rfl) (by decide) ?_
                  refine ex_iload_n ok_X12_collect (mi 118 rfl) rfl ?_
                  refine sm_iald ok_X12_collect (mi 119 rfl) (fk (MI_s J231) 4 rfl) (fn (MI_s J231) 4 rfl) rfl (by omega) (by decide) ?_
                  refine ex_gen (fun w233 => ?_)
                  refine ex_aload_n ok_X12_collect (mi 120 rfl) rfl ?_
                  refine ex_getRx ok_X12_collect (mi 121 rfl) rfl rfl (fk (MI_s J231) 0 rfl) (fr (MI_s J231) 2 rfl) (fk (MI_s J231) 3 rfl) (by decide) ?_
                  refine ex_iload_n ok_X12_collect (mi 122 rfl) rfl ?_
                  refine sm_iald ok_X12_collect (mi 123 rfl) (fk (MI_s J231) 3 rfl) (fn (MI_s J231) 3 rfl) rfl (by omega) (by decide) ?_
                  obtain ⟨v234, hv234, ev234⟩ := vp_in_of (n := 300) (MI_rd J231 (i := a18) (by omega) (Or.inr rfl)) (by decide)
                  refine ex_top (w := nI v234) ev234 ?_
                  refine ex_aload_n ok_X12_collect (mi 124 rfl) rfl ?_
                  refine ex_getRx ok_X12_collect (mi 125 rfl) rfl rfl (fk (MI_s J231) 0 rfl) (fr (MI_s J231) 20 rfl) (fk (MI_s J231) 21 rfl) (by decide) ?_
                  refine ex_iload_n ok_X12_collect (mi 126 rfl) rfl ?_
                  refine sm_iald ok_X12_collect (mi 127 rfl) (fk (MI_s J231) 21 rfl) (fn (MI_s J231) 21 rfl) rfl (by omega) (by decide) ?_
                  obtain ⟨v235, hv235, ev235⟩ := vp_in_of (n := 17) (MI_bd J231 5 rfl (i := a18) (by omega)) (by decide)
                  refine ex_top (w := nI v235) ev235 ?_
                  refine ex_iconst ok_X12_collect (mi 128 rfl) ?_
                  refine sm_V (As := [_, _, _, _, _, _]) ok_X12_collect (mi 129 rfl) rfl (s_X12_layAll hst J231 (κ := 9) (by decide) (Or.inr (vp_in_nI (N := 3) (by omega) (by decide))) (TO12 rfl) (Or.inl rfl) (Or.inr (vp_in_nI (N := 17) (by omega) (by decide))) (Or.inl rfl)) rfl (fk (MI_s J231) 0 rfl) rfl rfl (by decide) (by decide) (Nat.le_of_ble_eq_true rfl) (by decide) SM_no (fun z236 g238 p237 => ?_)
                  obtain ⟨u240, eu240, u240p, J239⟩ := p237
                  cases eu240
                  obtain ⟨v241, rfl⟩ := u240p
                  refine ex_istore ok_X12_collect (mi 130 rfl) ?_
                  refine ex_iconst ok_X12_collect (mi 131 rfl) ?_
                  refine ex_zret ok_X12_collect (mi 132 rfl) rfl (by decide) ?_
                  exact ⟨_, rfl, ⟨_, rfl, (by decide)⟩, (MI_Rw J239 (fun l k => (Or.inl k)))⟩
                · skip
                  refine ex_iconst ok_X12_collect (mi 96 rfl) ?_
                  refine ex_zret ok_X12_collect (mi 97 rfl) rfl (by decide) ?_
                  exact ⟨_, rfl, ⟨_, rfl, (by decide)⟩, (MI_Rw J162 (fun l k => (Or.inl k)))⟩
              · skip
                refine ex_iload ok_X12_collect (mi 52 rfl) rfl ?_
                refine ex_aload_n ok_X12_collect (mi 53 rfl) rfl ?_
                refine ex_getRx ok_X12_collect (mi 54 rfl) rfl rfl (fk (MI_s J162) 0 rfl) (fr (MI_s J162) 13 rfl) (fk (MI_s J162) 14 rfl) (by decide) ?_
                refine ex_iload_n ok_X12_collect (mi 55 rfl) rfl ?_
                refine sm_iald ok_X12_collect (mi 56 rfl) (fk (MI_s J162) 14 rfl) (fn (MI_s J162) 14 rfl) rfl (by omega) (by decide) ?_
                obtain ⟨v242, hv242, ev242⟩ := vp_in_of (n := 17) (MI_bd J162 3 rfl (i := a18) (by omega)) (by decide)
                refine ex_top (w := nI v242) ev242 ?_
                refine ex_icmp_ge (tgt := 162) ok_X12_collect (mi 57 rfl) rfl (fun h99 => ?_) (fun h99 => ?_)
                · skip
                  refine ex_iload_n ok_X12_collect (mi 94 rfl) rfl ?_
                  refine ex_if_ne (tgt := 168) ok_X12_collect (mi 95 rfl) rfl (fun h163 => ?_) (fun h163 => ?_)
                  · skip
                    refine ex_aload_n ok_X12_collect (mi 98 rfl) rfl ?_
                    refine ex_iload_n ok_X12_collect (mi 99 rfl) rfl ?_
                    refine sm_V (As := [_]) ok_X12_collect (mi 100 rfl) rfl (s_X12_forgetCollecting hst J162 (by omega)) rfl (fk (MI_s J162) 0 rfl) rfl rfl (by decide) (by decide) (Nat.le_of_ble_eq_true rfl) (by decide) SM_no (fun z243 g245 p244 => ?_)
                    obtain ⟨u247, eu247, u247p, J246⟩ := p244
                    cases eu247
                    obtain rfl : z243 = none := u247p
                    refine ex_aload_n ok_X12_collect (mi 101 rfl) rfl ?_
                    refine ex_getRx ok_X12_collect (mi 102 rfl) rfl rfl (fk (MI_s J246) 0 rfl) (fr (MI_s J246) 19 rfl) (fk (MI_s J246) 20 rfl) (by decide) ?_
                    refine ex_iload_n ok_X12_collect (mi 103 rfl) rfl ?_
                    refine ex_iconst ok_X12_collect (mi 104 rfl) ?_
                    refine mf_A J246 ok_X12_collect (mi 105 rfl) (fk (MI_s J246) 20 rfl) (fn (MI_s J246) 20 rfl) rfl (by omega) (by decide) (by decide) (by decide) (by decide) (fun g248 J249 K250 => ?_)
                    refine ex_aload_n ok_X12_collect (mi 106 rfl) rfl ?_
                    refine ex_getRx ok_X12_collect (mi 107 rfl) rfl rfl (fk (MI_s J249) 0 rfl) (fr (MI_s J249) 20 rfl) (fk (MI_s J249) 21 rfl) (by decide) ?_
                    refine ex_iload_n ok_X12_collect (mi 108 rfl) rfl ?_
                    refine ex_aload_n ok_X12_collect (mi 109 rfl) rfl ?_
                    refine ex_iload_n ok_X12_collect (mi 110 rfl) rfl ?_
                    refine sm_V (As := [_]) ok_X12_collect (mi 111 rfl) rfl (s_firm hst J249 (by omega)) rfl (fk (MI_s J249) 0 rfl) rfl rfl (by decide) (by decide) (Nat.le_of_ble_eq_true rfl) (by decide) SM_no (fun z251 g253 p252 => ?_)
                    obtain ⟨u255, eu255, u255p, J254⟩ := p252
                    cases eu255
                    obtain ⟨v256, hv256, rfl⟩ := u255p
                    refine mf_B J254 ok_X12_collect (mi 112 rfl) (fk (MI_s J254) 21 rfl) (fn (MI_s J254) 21 rfl) rfl (by omega) (by decide) (B := 17) (by decide) (by decide) (by decide) (vp_in_nI (N := 17) (by omega) (by decide)) (fun g257 J258 K259 => ?_)
                    refine ex_aload_n ok_X12_collect (mi 113 rfl) rfl ?_
                    refine ex_bipush ok_X12_collect (mi 114 rfl) ?_
                    refine ex_iload_n ok_X12_collect (mi 115 rfl) rfl ?_
                    refine ex_aload_n ok_X12_collect (mi 116 rfl) rfl ?_
                    refine ex_getRx ok_X12_collect (mi 117 rfl) rfl rfl (fk (MI_s J258) 0 rfl) (fr (MI_s J258) 3 rfl) (fk (MI_s J258) 4 rfl) (by decide) ?_
                    refine ex_iload_n ok_X12_collect (mi 118 rfl) rfl ?_
                    refine sm_iald ok_X12_collect (mi 119 rfl) (fk (MI_s J258) 4 rfl) (fn (MI_s J258) 4 rfl) rfl (by omega) (by decide) ?_
                    refine ex_gen (fun w260 => ?_)
                    refine ex_aload_n ok_X12_collect (mi 120 rfl) rfl ?_
                    refine ex_getRx ok_X12_collect (mi 121 rfl) rfl rfl (fk (MI_s J258) 0 rfl) (fr (MI_s J258) 2 rfl) (fk (MI_s J258) 3 rfl) (by decide) ?_
                    refine ex_iload_n ok_X12_collect (mi 122 rfl) rfl ?_
                    refine sm_iald ok_X12_collect (mi 123 rfl) (fk (MI_s J258) 3 rfl) (fn (MI_s J258) 3 rfl) rfl (by omega) (by decide) ?_
                    obtain ⟨v261, hv261, ev261⟩ := vp_in_of (n := 300) (MI_rd J258 (i := a18) (by omega) (Or.inr rfl)) (by decide)
                    refine ex_top (w := nI v261) ev261 ?_
                    refine ex_aload_n ok_X12_collect (mi 124 rfl) rfl ?_
                    refine ex_getRx ok_X12_collect (mi 125 rfl) rfl rfl (fk (MI_s J258) 0 rfl) (fr (MI_s J258) 20 rfl) (fk (MI_s J258) 21 rfl) (by decide) ?_
                    refine ex_iload_n ok_X12_collect (mi 126 rfl) rfl ?_
                    refine sm_iald ok_X12_collect (mi 127 rfl) (fk (MI_s J258) 21 rfl) (fn (MI_s J258) 21 rfl) rfl (by omega) (by decide) ?_
                    obtain ⟨v262, hv262, ev262⟩ := vp_in_of (n := 17) (MI_bd J258 5 rfl (i := a18) (by omega)) (by decide)
                    refine ex_top (w := nI v262) ev262 ?_
                    refine ex_iconst ok_X12_collect (mi 128 rfl) ?_
                    refine sm_V (As := [_, _, _, _, _, _]) ok_X12_collect (mi 129 rfl) rfl (s_X12_layAll hst J258 (κ := 9) (by decide) (Or.inr (vp_in_nI (N := 3) (by omega) (by decide))) (TO12 rfl) (Or.inl rfl) (Or.inr (vp_in_nI (N := 17) (by omega) (by decide))) (Or.inl rfl)) rfl (fk (MI_s J258) 0 rfl) rfl rfl (by decide) (by decide) (Nat.le_of_ble_eq_true rfl) (by decide) SM_no (fun z263 g265 p264 => ?_)
                    obtain ⟨u267, eu267, u267p, J266⟩ := p264
                    cases eu267
                    obtain ⟨v268, rfl⟩ := u267p
                    refine ex_istore ok_X12_collect (mi 130 rfl) ?_
                    refine ex_iconst ok_X12_collect (mi 131 rfl) ?_
                    refine ex_zret ok_X12_collect (mi 132 rfl) rfl (by decide) ?_
                    exact ⟨_, rfl, ⟨_, rfl, (by decide)⟩, (MI_Rw J266 (fun l k => (Or.inl k)))⟩
                  · skip
                    refine ex_iconst ok_X12_collect (mi 96 rfl) ?_
                    refine ex_zret ok_X12_collect (mi 97 rfl) rfl (by decide) ?_
                    exact ⟨_, rfl, ⟨_, rfl, (by decide)⟩, (MI_Rw J162 (fun l k => (Or.inl k)))⟩
                · skip
                  have l99 : k87 < v242 := Nat.lt_of_not_le (fun q => h99 (nI_le q (by omega)))
                  refine ex_aload_n ok_X12_collect (mi 58 rfl) rfl ?_
                  refine ex_getRx ok_X12_collect (mi 59 rfl) rfl rfl (fk (MI_s J162) 0 rfl) (fr (MI_s J162) 15 rfl) (fk (MI_s J162) 16 rfl) (by decide) ?_
                  refine ex_bipush ok_X12_collect (mi 60 rfl) ?_
                  refine ex_iload_n ok_X12_collect (mi 61 rfl) rfl ?_
                  refine ex_imul ok_X12_collect (mi 62 rfl) ?_
                  refine ex_top (w := (nI (16 * a18))) (nI_mulc rfl) ?_
                  refine ex_iload ok_X12_collect (mi 63 rfl) rfl ?_
                  refine ex_iadd ok_X12_collect (mi 64 rfl) ?_
                  refine ex_top (w := (nI (16 * a18 + k87))) (nI_add _ _) ?_
                  refine sm_iald ok_X12_collect (mi 65 rfl) (fk (MI_s J162) 16 rfl) (fn (MI_s J162) 16 rfl) rfl (by omega) (by decide) ?_
                  refine ex_gen (fun w269 => ?_)
                  refine ex_iconst ok_X12_collect (mi 66 rfl) ?_
                  refine ex_icmp_eq (tgt := 150) ok_X12_collect (mi 67 rfl) rfl (fun h115 => ?_) (fun h115 => ?_)
                  · skip
                    refine ex_iconst ok_X12_collect (mi 88 rfl) ?_
                    refine ex_goto (tgt := 155) ok_X12_collect (mi 89 rfl) rfl ?_
                    refine ex_istore_n ok_X12_collect (mi 91 rfl) ?_
                    refine ex_iincx (w := (nI (k87 + 1))) ok_X12_collect (mi 92 rfl) rfl (nI_1 _) ?_
                    refine ex_goto (tgt := 87) ok_X12_collect (mi 93 rfl) rfl ?_
                    exact ex_ls (ls' := [(0, .ref y), (1, .int (nI (a18))), (2, .int (nI 1)), (3, .int (nI 1)), (4, .int (nI (k87 + 1)))]) ⟨rfl, rfl, rfl, rfl, rfl, trivial⟩ (ih87 (k87 + 1) (by omega) _ g161 J162 )
                  · skip
                    refine ex_aload_n ok_X12_collect (mi 68 rfl) rfl ?_
                    refine ex_getRx ok_X12_collect (mi 69 rfl) rfl rfl (fk (MI_s J162) 0 rfl) (fr (MI_s J162) 15 rfl) (fk (MI_s J162) 16 rfl) (by decide) ?_
                    refine ex_bipush ok_X12_collect (mi 70 rfl) ?_
                    refine ex_iload_n ok_X12_collect (mi 71 rfl) rfl ?_
                    refine ex_imul ok_X12_collect (mi 72 rfl) ?_
                    refine ex_top (w := (nI (16 * a18))) (nI_mulc rfl) ?_
                    refine ex_iload ok_X12_collect (mi 73 rfl) rfl ?_
                    refine ex_iadd ok_X12_collect (mi 74 rfl) ?_
                    refine ex_top (w := (nI (16 * a18 + k87))) (nI_add _ _) ?_
                    refine sm_iald ok_X12_collect (mi 75 rfl) (fk (MI_s J162) 16 rfl) (fn (MI_s J162) 16 rfl) rfl (by omega) (by decide) ?_
                    refine ex_gen (fun w270 => ?_)
                    refine ex_iconst ok_X12_collect (mi 76 rfl) ?_
                    refine ex_icmp_eq (tgt := 150) ok_X12_collect (mi 77 rfl) rfl (fun h131 => ?_) (fun h131 => ?_)
                    · skip
                      refine ex_iconst ok_X12_collect (mi 88 rfl) ?_
                      refine ex_goto (tgt := 155) ok_X12_collect (mi 89 rfl) rfl ?_
                      refine ex_istore_n ok_X12_collect (mi 91 rfl) ?_
                      refine ex_iincx (w := (nI (k87 + 1))) ok_X12_collect (mi 92 rfl) rfl (nI_1 _) ?_
                      refine ex_goto (tgt := 87) ok_X12_collect (mi 93 rfl) rfl ?_
                      exact ex_ls (ls' := [(0, .ref y), (1, .int (nI (a18))), (2, .int (nI 1)), (3, .int (nI 1)), (4, .int (nI (k87 + 1)))]) ⟨rfl, rfl, rfl, rfl, rfl, trivial⟩ (ih87 (k87 + 1) (by omega) _ g161 J162 )
                    · skip
                      refine ex_aload_n ok_X12_collect (mi 78 rfl) rfl ?_
                      refine ex_getRx ok_X12_collect (mi 79 rfl) rfl rfl (fk (MI_s J162) 0 rfl) (fr (MI_s J162) 15 rfl) (fk (MI_s J162) 16 rfl) (by decide) ?_
                      refine ex_bipush ok_X12_collect (mi 80 rfl) ?_
                      refine ex_iload_n ok_X12_collect (mi 81 rfl) rfl ?_
                      refine ex_imul ok_X12_collect (mi 82 rfl) ?_
                      refine ex_top (w := (nI (16 * a18))) (nI_mulc rfl) ?_
                      refine ex_iload ok_X12_collect (mi 83 rfl) rfl ?_
                      refine ex_iadd ok_X12_collect (mi 84 rfl) ?_
                      refine ex_top (w := (nI (16 * a18 + k87))) (nI_add _ _) ?_
                      refine sm_iald ok_X12_collect (mi 85 rfl) (fk (MI_s J162) 16 rfl) (fn (MI_s J162) 16 rfl) rfl (by omega) (by decide) ?_
                      refine ex_gen (fun w271 => ?_)
                      refine ex_iconst ok_X12_collect (mi 86 rfl) ?_
                      refine ex_icmp_ne (tgt := 154) ok_X12_collect (mi 87 rfl) rfl (fun h147 => ?_) (fun h147 => ?_)
                      · skip
                        refine ex_iconst ok_X12_collect (mi 90 rfl) ?_
                        refine ex_istore_n ok_X12_collect (mi 91 rfl) ?_
                        refine ex_iincx (w := (nI (k87 + 1))) ok_X12_collect (mi 92 rfl) rfl (nI_1 _) ?_
                        refine ex_goto (tgt := 87) ok_X12_collect (mi 93 rfl) rfl ?_
                        exact ex_ls (ls' := [(0, .ref y), (1, .int (nI (a18))), (2, .int (nI 1)), (3, .int (nI 0)), (4, .int (nI (k87 + 1)))]) ⟨rfl, rfl, rfl, rfl, rfl, trivial⟩ (ih87 (k87 + 1) (by omega) _ g161 J162 )
                      · skip
                        refine ex_iconst ok_X12_collect (mi 88 rfl) ?_
                        refine ex_goto (tgt := 155) ok_X12_collect (mi 89 rfl) rfl ?_
                        refine ex_istore_n ok_X12_collect (mi 91 rfl) ?_
                        refine ex_iincx (w := (nI (k87 + 1))) ok_X12_collect (mi 92 rfl) rfl (nI_1 _) ?_
                        refine ex_goto (tgt := 87) ok_X12_collect (mi 93 rfl) rfl ?_
                        exact ex_ls (ls' := [(0, .ref y), (1, .int (nI (a18))), (2, .int (nI 1)), (3, .int (nI 1)), (4, .int (nI (k87 + 1)))]) ⟨rfl, rfl, rfl, rfl, rfl, trivial⟩ (ih87 (k87 + 1) (by omega) _ g161 J162 )
          exact ex_ls (ls' := [(0, .ref y), (1, .int (nI (a18))), (2, .int (nI 1)), (3, .int (nI 1)), (4, .int (nI (v159)))]) ⟨rfl, rfl, rfl, rfl, rfl, trivial⟩ (lp87 (16 - v159) (v159) (by omega) _ g156 J157 )
      · skip
        refine ex_aload_n ok_X12_collect (mi 20 rfl) rfl ?_
        refine ex_aload_n ok_X12_collect (mi 21 rfl) rfl ?_
        refine ex_getI ok_X12_collect (mi 22 rfl) rfl rfl (fk (MI_s J39) 0 rfl) ?_
        refine ex_gen (fun w272 => ?_)
        refine ex_iconst ok_X12_collect (mi 23 rfl) ?_
        refine ex_icmp_ne (tgt := 47) ok_X12_collect (mi 24 rfl) rfl (fun h40 => ?_) (fun h40 => ?_)
        · skip
          refine ex_aload_n ok_X12_collect (mi 27 rfl) rfl ?_
          refine ex_getI ok_X12_collect (mi 28 rfl) rfl rfl (fk (MI_s J39) 0 rfl) ?_
          refine ex_gen (fun w273 => ?_)
          refine mf_putI J39 ok_X12_collect (mi 29 rfl) rfl rfl (fk (MI_s J39) 0 rfl) (by decide) (by decide) (fun g274 J275 K276 => ?_)
          refine ex_iconst ok_X12_collect (mi 30 rfl) ?_
          refine ex_zret ok_X12_collect (mi 31 rfl) rfl (by decide) ?_
          exact ⟨_, rfl, ⟨_, rfl, (by decide)⟩, J275⟩
        · skip
          refine ex_iconst ok_X12_collect (mi 25 rfl) ?_
          refine ex_goto (tgt := 51) ok_X12_collect (mi 26 rfl) rfl ?_
          refine mf_putI J39 ok_X12_collect (mi 29 rfl) rfl rfl (fk (MI_s J39) 0 rfl) (by decide) (by decide) (fun g277 J278 K279 => ?_)
          refine ex_iconst ok_X12_collect (mi 30 rfl) ?_
          refine ex_zret ok_X12_collect (mi 31 rfl) rfl (by decide) ?_
          exact ⟨_, rfl, ⟨_, rfl, (by decide)⟩, J278⟩
theorem s_X12_reform {G : GE} (hst : (ge_l G).stackTraces = false) {y c : Nat} {D : UT} {R : Nat → Prop} {g : GT} (I : MI y D c R g) {p0 : Int32} {p1 : Int32} {p2 : Int32} : ex_M G 3 0 0 my_X12_reform [.ref y, .int p0, .int p1, .int p2] g (SM y D c R pI) := by
  refine ex_M_of ok_X12_reform cw_X12_reform rfl hst (Nat.le_of_ble_eq_true rfl) ?_
  refine ex_iload_n ok_X12_reform (mi 0 rfl) rfl ?_
  refine ex_iconst ok_X12_reform (mi 1 rfl) ?_
  refine ex_iconst ok_X12_reform (mi 2 rfl) ?_
  refine sf_Sp (As := [_, _, _]) ok_X12_reform (mi 3 rfl) rfl (s_in hst) rfl rfl rfl (by decide) (Nat.le_of_ble_eq_true rfl) (by decide) (fun z1 p2 => ?_)
  obtain ⟨b3, rfl, hb3⟩ := p2
  refine ex_istore ok_X12_reform (mi 4 rfl) ?_
  refine ex_iload ok_X12_reform (mi 5 rfl) rfl ?_
  refine ex_if_eq (tgt := 64) ok_X12_reform (mi 6 rfl) rfl (fun h10 => ?_) (fun h10 => ?_)
  · skip
    obtain rfl : b3 = nI 0 := h10.trans (by decide)
    refine ex_iconst ok_X12_reform (mi 34 rfl) ?_
    refine ex_istore ok_X12_reform (mi 35 rfl) ?_
    refine ex_aload_n ok_X12_reform (mi 36 rfl) rfl ?_
    refine ex_iload ok_X12_reform (mi 37 rfl) rfl ?_
    refine ex_iload ok_X12_reform (mi 38 rfl) rfl ?_
    refine ex_iload ok_X12_reform (mi 39 rfl) rfl ?_
    refine ex_if_eq (tgt := 90) ok_X12_reform (mi 40 rfl) rfl (fun _ => ?_) (fun hn => absurd (by decide) hn)
    refine ex_iconst ok_X12_reform (mi 48 rfl) ?_
    refine sm_V (As := [_, _, _]) ok_X12_reform (mi 49 rfl) rfl (s_ref hst (MI_s I)) rfl (fk (MI_s I) 0 rfl) rfl rfl (by decide) (by decide) (Nat.le_of_ble_eq_true rfl) (by decide) RF_no (fun z4 g8 p5 => ?_)
    obtain ⟨b6, v7, eb6, egb6, hrb6⟩ := p5
    cases eb6
    subst egb6
    have J9 := MI_I (f := 1200) (v := v7) I (by decide)
    obtain rfl : b6 = nI 1 := hrb6.elim (fun q => absurd (show (nI 0 : Int32) = 0 by decide) q.2.1) (fun q => q.1.trans (by decide))
    refine ex_if_eq (tgt := 99) ok_X12_reform (mi 50 rfl) rfl (fun hn => absurd hn (by decide)) (fun _ => ?_)
    refine ex_iconst ok_X12_reform (mi 51 rfl) ?_
    refine ex_iret ok_X12_reform (mi 52 rfl) rfl ?_
    exact ⟨_, rfl, ⟨_, rfl⟩, J9⟩
  · skip
    obtain ⟨eb3, lb3, ub3⟩ := hb3.resolve_left (fun q => h10 q.1)
    obtain rfl : b3 = nI 1 := eb3.trans (by decide)
    obtain ⟨a10, ha10, rfl⟩ := in_n (n := 2) lb3 ub3 (by decide) rfl (by decide)
    refine ex_iload_n ok_X12_reform (mi 7 rfl) rfl ?_
    refine ex_iconst ok_X12_reform (mi 8 rfl) ?_
    refine ex_sipush ok_X12_reform (mi 9 rfl) ?_
    refine sf_Sp (As := [_, _, _]) ok_X12_reform (mi 10 rfl) rfl (s_in hst) rfl rfl rfl (by decide) (Nat.le_of_ble_eq_true rfl) (by decide) (fun z11 p12 => ?_)
    obtain ⟨b13, rfl, hb13⟩ := p12
    refine ex_if_eq (tgt := 64) ok_X12_reform (mi 11 rfl) rfl (fun h21 => ?_) (fun h21 => ?_)
    · skip
      obtain rfl : b13 = nI 0 := h21.trans (by decide)
      refine ex_iconst ok_X12_reform (mi 34 rfl) ?_
      refine ex_istore ok_X12_reform (mi 35 rfl) ?_
      refine ex_aload_n ok_X12_reform (mi 36 rfl) rfl ?_
      refine ex_iload ok_X12_reform (mi 37 rfl) rfl ?_
      refine ex_iload ok_X12_reform (mi 38 rfl) rfl ?_
      refine ex_iload ok_X12_reform (mi 39 rfl) rfl ?_
      refine ex_if_eq (tgt := 90) ok_X12_reform (mi 40 rfl) rfl (fun hn => absurd hn (by decide)) (fun _ => ?_)
      refine ex_aload_n ok_X12_reform (mi 41 rfl) rfl ?_
      refine ex_getRx ok_X12_reform (mi 42 rfl) rfl rfl (fk (MI_s I) 0 rfl) (fr (MI_s I) 0 rfl) (fk (MI_s I) 1 rfl) (by decide) ?_
      refine ex_iload_n ok_X12_reform (mi 43 rfl) rfl ?_
      refine sm_bal ok_X12_reform (mi 44 rfl) (fk (MI_s I) 1 rfl) (fn (MI_s I) 1 rfl) rfl (by omega) (by decide) ?_
      refine ex_gen (fun w14 => ?_)
      refine ex_if_ne (tgt := 90) ok_X12_reform (mi 45 rfl) rfl (fun h83 => ?_) (fun h83 => ?_)
      · skip
        refine ex_iconst ok_X12_reform (mi 48 rfl) ?_
        refine sm_V (As := [_, _, _]) ok_X12_reform (mi 49 rfl) rfl (s_ref hst (MI_s I)) rfl (fk (MI_s I) 0 rfl) rfl rfl (by decide) (by decide) (Nat.le_of_ble_eq_true rfl) (by decide) RF_no (fun z15 g19 p16 => ?_)
        obtain ⟨b17, v18, eb17, egb17, hrb17⟩ := p16
        cases eb17
        subst egb17
        have J20 := MI_I (f := 1200) (v := v18) I (by decide)
        obtain rfl : b17 = nI 1 := hrb17.elim (fun q => absurd (show (nI 0 : Int32) = 0 by decide) q.2.2.1) (fun q => q.1.trans (by decide))
        refine ex_if_eq (tgt := 99) ok_X12_reform (mi 50 rfl) rfl (fun hn => absurd hn (by decide)) (fun _ => ?_)
        refine ex_iconst ok_X12_reform (mi 51 rfl) ?_
        refine ex_iret ok_X12_reform (mi 52 rfl) rfl ?_
        exact ⟨_, rfl, ⟨_, rfl⟩, J20⟩
      · skip
        refine ex_iconst ok_X12_reform (mi 46 rfl) ?_
        refine ex_goto (tgt := 91) ok_X12_reform (mi 47 rfl) rfl ?_
        refine sm_V (As := [_, _, _]) ok_X12_reform (mi 49 rfl) rfl (s_ref hst (MI_s I)) rfl (fk (MI_s I) 0 rfl) rfl rfl (by decide) (by decide) (Nat.le_of_ble_eq_true rfl) (by decide) RF_no (fun z21 g25 p22 => ?_)
        obtain ⟨b23, v24, eb23, egb23, hrb23⟩ := p22
        cases eb23
        subst egb23
        have J26 := MI_I (f := 1200) (v := v24) I (by decide)
        obtain rfl : b23 = nI 1 := hrb23.elim (fun q => absurd (show (nI 0 : Int32) = 0 by decide) q.2.2.1) (fun q => q.1.trans (by decide))
        refine ex_if_eq (tgt := 99) ok_X12_reform (mi 50 rfl) rfl (fun hn => absurd hn (by decide)) (fun _ => ?_)
        refine ex_iconst ok_X12_reform (mi 51 rfl) ?_
        refine ex_iret ok_X12_reform (mi 52 rfl) rfl ?_
        exact ⟨_, rfl, ⟨_, rfl⟩, J26⟩
    · skip
      obtain ⟨eb13, lb13, ub13⟩ := hb13.resolve_left (fun q => h21 q.1)
      obtain rfl : b13 = nI 1 := eb13.trans (by decide)
      obtain ⟨a27, ha27, rfl⟩ := in_n (n := 299) lb13 ub13 (by decide) rfl (by decide)
      refine ex_iload_n ok_X12_reform (mi 12 rfl) rfl ?_
      refine ex_iconst ok_X12_reform (mi 13 rfl) ?_
      refine ex_irem ok_X12_reform (mi 14 rfl) (by decide) ?_
      refine ex_gen (fun w28 => ?_)
      refine ex_iload_n ok_X12_reform (mi 15 rfl) rfl ?_
      refine ex_icmp_ne (tgt := 64) ok_X12_reform (mi 16 rfl) rfl (fun h28 => ?_) (fun h28 => ?_)
      · skip
        refine ex_iconst ok_X12_reform (mi 34 rfl) ?_
        refine ex_istore ok_X12_reform (mi 35 rfl) ?_
        refine ex_aload_n ok_X12_reform (mi 36 rfl) rfl ?_
        refine ex_iload ok_X12_reform (mi 37 rfl) rfl ?_
        refine ex_iload ok_X12_reform (mi 38 rfl) rfl ?_
        refine ex_iload ok_X12_reform (mi 39 rfl) rfl ?_
        refine ex_if_eq (tgt := 90) ok_X12_reform (mi 40 rfl) rfl (fun hn => absurd hn (by decide)) (fun _ => ?_)
        refine ex_aload_n ok_X12_reform (mi 41 rfl) rfl ?_
        refine ex_getRx ok_X12_reform (mi 42 rfl) rfl rfl (fk (MI_s I) 0 rfl) (fr (MI_s I) 0 rfl) (fk (MI_s I) 1 rfl) (by decide) ?_
        refine ex_iload_n ok_X12_reform (mi 43 rfl) rfl ?_
        refine sm_bal ok_X12_reform (mi 44 rfl) (fk (MI_s I) 1 rfl) (fn (MI_s I) 1 rfl) rfl (by omega) (by decide) ?_
        refine ex_gen (fun w29 => ?_)
        refine ex_if_ne (tgt := 90) ok_X12_reform (mi 45 rfl) rfl (fun h83 => ?_) (fun h83 => ?_)
        · skip
          refine ex_iconst ok_X12_reform (mi 48 rfl) ?_
          refine sm_V (As := [_, _, _]) ok_X12_reform (mi 49 rfl) rfl (s_ref hst (MI_s I)) rfl (fk (MI_s I) 0 rfl) rfl rfl (by decide) (by decide) (Nat.le_of_ble_eq_true rfl) (by decide) RF_no (fun z30 g34 p31 => ?_)
          obtain ⟨b32, v33, eb32, egb32, hrb32⟩ := p31
          cases eb32
          subst egb32
          have J35 := MI_I (f := 1200) (v := v33) I (by decide)
          obtain rfl : b32 = nI 1 := hrb32.elim (fun q => absurd (show (nI 0 : Int32) = 0 by decide) q.2.2.1) (fun q => q.1.trans (by decide))
          refine ex_if_eq (tgt := 99) ok_X12_reform (mi 50 rfl) rfl (fun hn => absurd hn (by decide)) (fun _ => ?_)
          refine ex_iconst ok_X12_reform (mi 51 rfl) ?_
          refine ex_iret ok_X12_reform (mi 52 rfl) rfl ?_
          exact ⟨_, rfl, ⟨_, rfl⟩, J35⟩
        · skip
          refine ex_iconst ok_X12_reform (mi 46 rfl) ?_
          refine ex_goto (tgt := 91) ok_X12_reform (mi 47 rfl) rfl ?_
          refine sm_V (As := [_, _, _]) ok_X12_reform (mi 49 rfl) rfl (s_ref hst (MI_s I)) rfl (fk (MI_s I) 0 rfl) rfl rfl (by decide) (by decide) (Nat.le_of_ble_eq_true rfl) (by decide) RF_no (fun z36 g40 p37 => ?_)
          obtain ⟨b38, v39, eb38, egb38, hrb38⟩ := p37
          cases eb38
          subst egb38
          have J41 := MI_I (f := 1200) (v := v39) I (by decide)
          obtain rfl : b38 = nI 1 := hrb38.elim (fun q => absurd (show (nI 0 : Int32) = 0 by decide) q.2.2.1) (fun q => q.1.trans (by decide))
          refine ex_if_eq (tgt := 99) ok_X12_reform (mi 50 rfl) rfl (fun hn => absurd hn (by decide)) (fun _ => ?_)
          refine ex_iconst ok_X12_reform (mi 51 rfl) ?_
          refine ex_iret ok_X12_reform (mi 52 rfl) rfl ?_
          exact ⟨_, rfl, ⟨_, rfl⟩, J41⟩
      · skip
        refine ex_iload_n ok_X12_reform (mi 17 rfl) rfl ?_
        refine ex_aload_n ok_X12_reform (mi 18 rfl) rfl ?_
        refine ex_getRx ok_X12_reform (mi 19 rfl) rfl rfl (fk (MI_s I) 0 rfl) (fr (MI_s I) 27 rfl) (fk (MI_s I) 28 rfl) (by decide) ?_
        refine ex_iload_n ok_X12_reform (mi 20 rfl) rfl ?_
        refine sm_iald ok_X12_reform (mi 21 rfl) (fk (MI_s I) 28 rfl) (fn (MI_s I) 28 rfl) rfl (by omega) (by decide) ?_
        refine ex_gen (fun w42 => ?_)
        refine ex_icmp_le (tgt := 64) ok_X12_reform (mi 22 rfl) rfl (fun h38 => ?_) (fun h38 => ?_)
        · skip
          refine ex_iconst ok_X12_reform (mi 34 rfl) ?_
          refine ex_istore ok_X12_reform (mi 35 rfl) ?_
          refine ex_aload_n ok_X12_reform (mi 36 rfl) rfl ?_
          refine ex_iload ok_X12_reform (mi 37 rfl) rfl ?_
          refine ex_iload ok_X12_reform (mi 38 rfl) rfl ?_
          refine ex_iload ok_X12_reform (mi 39 rfl) rfl ?_
          refine ex_if_eq (tgt := 90) ok_X12_reform (mi 40 rfl) rfl (fun hn => absurd hn (by decide)) (fun _ => ?_)
          refine ex_aload_n ok_X12_reform (mi 41 rfl) rfl ?_
          refine ex_getRx ok_X12_reform (mi 42 rfl) rfl rfl (fk (MI_s I) 0 rfl) (fr (MI_s I) 0 rfl) (fk (MI_s I) 1 rfl) (by decide) ?_
          refine ex_iload_n ok_X12_reform (mi 43 rfl) rfl ?_
          refine sm_bal ok_X12_reform (mi 44 rfl) (fk (MI_s I) 1 rfl) (fn (MI_s I) 1 rfl) rfl (by omega) (by decide) ?_
          refine ex_gen (fun w43 => ?_)
          refine ex_if_ne (tgt := 90) ok_X12_reform (mi 45 rfl) rfl (fun h83 => ?_) (fun h83 => ?_)
          · skip
            refine ex_iconst ok_X12_reform (mi 48 rfl) ?_
            refine sm_V (As := [_, _, _]) ok_X12_reform (mi 49 rfl) rfl (s_ref hst (MI_s I)) rfl (fk (MI_s I) 0 rfl) rfl rfl (by decide) (by decide) (Nat.le_of_ble_eq_true rfl) (by decide) RF_no (fun z44 g48 p45 => ?_)
            obtain ⟨b46, v47, eb46, egb46, hrb46⟩ := p45
            cases eb46
            subst egb46
            have J49 := MI_I (f := 1200) (v := v47) I (by decide)
            obtain rfl : b46 = nI 1 := hrb46.elim (fun q => absurd (show (nI 0 : Int32) = 0 by decide) q.2.2.1) (fun q => q.1.trans (by decide))
            refine ex_if_eq (tgt := 99) ok_X12_reform (mi 50 rfl) rfl (fun hn => absurd hn (by decide)) (fun _ => ?_)
            refine ex_iconst ok_X12_reform (mi 51 rfl) ?_
            refine ex_iret ok_X12_reform (mi 52 rfl) rfl ?_
            exact ⟨_, rfl, ⟨_, rfl⟩, J49⟩
          · skip
            refine ex_iconst ok_X12_reform (mi 46 rfl) ?_
            refine ex_goto (tgt := 91) ok_X12_reform (mi 47 rfl) rfl ?_
            refine sm_V (As := [_, _, _]) ok_X12_reform (mi 49 rfl) rfl (s_ref hst (MI_s I)) rfl (fk (MI_s I) 0 rfl) rfl rfl (by decide) (by decide) (Nat.le_of_ble_eq_true rfl) (by decide) RF_no (fun z50 g54 p51 => ?_)
            obtain ⟨b52, v53, eb52, egb52, hrb52⟩ := p51
            cases eb52
            subst egb52
            have J55 := MI_I (f := 1200) (v := v53) I (by decide)
            obtain rfl : b52 = nI 1 := hrb52.elim (fun q => absurd (show (nI 0 : Int32) = 0 by decide) q.2.2.1) (fun q => q.1.trans (by decide))
            refine ex_if_eq (tgt := 99) ok_X12_reform (mi 50 rfl) rfl (fun hn => absurd hn (by decide)) (fun _ => ?_)
            refine ex_iconst ok_X12_reform (mi 51 rfl) ?_
            refine ex_iret ok_X12_reform (mi 52 rfl) rfl ?_
            exact ⟨_, rfl, ⟨_, rfl⟩, J55⟩
        · skip
          refine ex_iload_n ok_X12_reform (mi 23 rfl) rfl ?_
          refine ex_iconst ok_X12_reform (mi 24 rfl) ?_
          refine ex_sipush ok_X12_reform (mi 25 rfl) ?_
          refine sf_Sp (As := [_, _, _]) ok_X12_reform (mi 26 rfl) rfl (s_in hst) rfl rfl rfl (by decide) (Nat.le_of_ble_eq_true rfl) (by decide) (fun z56 p57 => ?_)
          obtain ⟨b58, rfl, hb58⟩ := p57
          refine ex_if_eq (tgt := 64) ok_X12_reform (mi 27 rfl) rfl (fun h49 => ?_) (fun h49 => ?_)
          · skip
            obtain rfl : b58 = nI 0 := h49.trans (by decide)
            refine ex_iconst ok_X12_reform (mi 34 rfl) ?_
            refine ex_istore ok_X12_reform (mi 35 rfl) ?_
            refine ex_aload_n ok_X12_reform (mi 36 rfl) rfl ?_
            refine ex_iload ok_X12_reform (mi 37 rfl) rfl ?_
            refine ex_iload ok_X12_reform (mi 38 rfl) rfl ?_
            refine ex_iload ok_X12_reform (mi 39 rfl) rfl ?_
            refine ex_if_eq (tgt := 90) ok_X12_reform (mi 40 rfl) rfl (fun hn => absurd hn (by decide)) (fun _ => ?_)
            refine ex_aload_n ok_X12_reform (mi 41 rfl) rfl ?_
            refine ex_getRx ok_X12_reform (mi 42 rfl) rfl rfl (fk (MI_s I) 0 rfl) (fr (MI_s I) 0 rfl) (fk (MI_s I) 1 rfl) (by decide) ?_
            refine ex_iload_n ok_X12_reform (mi 43 rfl) rfl ?_
            refine sm_bal ok_X12_reform (mi 44 rfl) (fk (MI_s I) 1 rfl) (fn (MI_s I) 1 rfl) rfl (by omega) (by decide) ?_
            refine ex_gen (fun w59 => ?_)
            refine ex_if_ne (tgt := 90) ok_X12_reform (mi 45 rfl) rfl (fun h83 => ?_) (fun h83 => ?_)
            · skip
              refine ex_iconst ok_X12_reform (mi 48 rfl) ?_
              refine sm_V (As := [_, _, _]) ok_X12_reform (mi 49 rfl) rfl (s_ref hst (MI_s I)) rfl (fk (MI_s I) 0 rfl) rfl rfl (by decide) (by decide) (Nat.le_of_ble_eq_true rfl) (by decide) RF_no (fun z60 g64 p61 => ?_)
              obtain ⟨b62, v63, eb62, egb62, hrb62⟩ := p61
              cases eb62
              subst egb62
              have J65 := MI_I (f := 1200) (v := v63) I (by decide)
              obtain rfl : b62 = nI 1 := hrb62.elim (fun q => absurd (show (nI 0 : Int32) = 0 by decide) q.2.2.1) (fun q => q.1.trans (by decide))
              refine ex_if_eq (tgt := 99) ok_X12_reform (mi 50 rfl) rfl (fun hn => absurd hn (by decide)) (fun _ => ?_)
              refine ex_iconst ok_X12_reform (mi 51 rfl) ?_
              refine ex_iret ok_X12_reform (mi 52 rfl) rfl ?_
              exact ⟨_, rfl, ⟨_, rfl⟩, J65⟩
            · skip
              refine ex_iconst ok_X12_reform (mi 46 rfl) ?_
              refine ex_goto (tgt := 91) ok_X12_reform (mi 47 rfl) rfl ?_
              refine sm_V (As := [_, _, _]) ok_X12_reform (mi 49 rfl) rfl (s_ref hst (MI_s I)) rfl (fk (MI_s I) 0 rfl) rfl rfl (by decide) (by decide) (Nat.le_of_ble_eq_true rfl) (by decide) RF_no (fun z66 g70 p67 => ?_)
              obtain ⟨b68, v69, eb68, egb68, hrb68⟩ := p67
              cases eb68
              subst egb68
              have J71 := MI_I (f := 1200) (v := v69) I (by decide)
              obtain rfl : b68 = nI 1 := hrb68.elim (fun q => absurd (show (nI 0 : Int32) = 0 by decide) q.2.2.1) (fun q => q.1.trans (by decide))
              refine ex_if_eq (tgt := 99) ok_X12_reform (mi 50 rfl) rfl (fun hn => absurd hn (by decide)) (fun _ => ?_)
              refine ex_iconst ok_X12_reform (mi 51 rfl) ?_
              refine ex_iret ok_X12_reform (mi 52 rfl) rfl ?_
              exact ⟨_, rfl, ⟨_, rfl⟩, J71⟩
          · skip
            obtain ⟨eb58, lb58, ub58⟩ := hb58.resolve_left (fun q => h49 q.1)
            obtain rfl : b58 = nI 1 := eb58.trans (by decide)
            obtain ⟨a72, ha72, rfl⟩ := in_n (n := 511) lb58 ub58 (by decide) rfl (by decide)
            refine ex_iload_n ok_X12_reform (mi 28 rfl) rfl ?_
            refine sf_Sp (As := [_]) ok_X12_reform (mi 29 rfl) rfl (s_X12_bits hst (MI_s I)) rfl rfl rfl (by decide) (Nat.le_of_ble_eq_true rfl) (by decide) (fun z73 p74 => ?_)
            obtain ⟨v77, rfl⟩ := p74
            refine ex_iconst ok_X12_reform (mi 30 rfl) ?_
            refine ex_icmp_ne (tgt := 64) ok_X12_reform (mi 31 rfl) rfl (fun h57 => ?_) (fun h57 => ?_)
            · skip
              refine ex_iconst ok_X12_reform (mi 34 rfl) ?_
              refine ex_istore ok_X12_reform (mi 35 rfl) ?_
              refine ex_aload_n ok_X12_reform (mi 36 rfl) rfl ?_
              refine ex_iload ok_X12_reform (mi 37 rfl) rfl ?_
              refine ex_iload ok_X12_reform (mi 38 rfl) rfl ?_
              refine ex_iload ok_X12_reform (mi 39 rfl) rfl ?_
              refine ex_if_eq (tgt := 90) ok_X12_reform (mi 40 rfl) rfl (fun hn => absurd hn (by decide)) (fun _ => ?_)
              refine ex_aload_n ok_X12_reform (mi 41 rfl) rfl ?_
              refine ex_getRx ok_X12_reform (mi 42 rfl) rfl rfl (fk (MI_s I) 0 rfl) (fr (MI_s I) 0 rfl) (fk (MI_s I) 1 rfl) (by decide) ?_
              refine ex_iload_n ok_X12_reform (mi 43 rfl) rfl ?_
              refine sm_bal ok_X12_reform (mi 44 rfl) (fk (MI_s I) 1 rfl) (fn (MI_s I) 1 rfl) rfl (by omega) (by decide) ?_
              refine ex_gen (fun w78 => ?_)
              refine ex_if_ne (tgt := 90) ok_X12_reform (mi 45 rfl) rfl (fun h83 => ?_) (fun h83 => ?_)
              · skip
                refine ex_iconst ok_X12_reform (mi 48 rfl) ?_
                refine sm_V (As := [_, _, _]) ok_X12_reform (mi 49 rfl) rfl (s_ref hst (MI_s I)) rfl (fk (MI_s I) 0 rfl) rfl rfl (by decide) (by decide) (Nat.le_of_ble_eq_true rfl) (by decide) RF_no (fun z79 g83 p80 => ?_)
                obtain ⟨b81, v82, eb81, egb81, hrb81⟩ := p80
                cases eb81
                subst egb81
                have J84 := MI_I (f := 1200) (v := v82) I (by decide)
                obtain rfl : b81 = nI 1 := hrb81.elim (fun q => absurd (show (nI 0 : Int32) = 0 by decide) q.2.2.1) (fun q => q.1.trans (by decide))
                refine ex_if_eq (tgt := 99) ok_X12_reform (mi 50 rfl) rfl (fun hn => absurd hn (by decide)) (fun _ => ?_)
                refine ex_iconst ok_X12_reform (mi 51 rfl) ?_
                refine ex_iret ok_X12_reform (mi 52 rfl) rfl ?_
                exact ⟨_, rfl, ⟨_, rfl⟩, J84⟩
              · skip
                refine ex_iconst ok_X12_reform (mi 46 rfl) ?_
                refine ex_goto (tgt := 91) ok_X12_reform (mi 47 rfl) rfl ?_
                refine sm_V (As := [_, _, _]) ok_X12_reform (mi 49 rfl) rfl (s_ref hst (MI_s I)) rfl (fk (MI_s I) 0 rfl) rfl rfl (by decide) (by decide) (Nat.le_of_ble_eq_true rfl) (by decide) RF_no (fun z85 g89 p86 => ?_)
                obtain ⟨b87, v88, eb87, egb87, hrb87⟩ := p86
                cases eb87
                subst egb87
                have J90 := MI_I (f := 1200) (v := v88) I (by decide)
                obtain rfl : b87 = nI 1 := hrb87.elim (fun q => absurd (show (nI 0 : Int32) = 0 by decide) q.2.2.1) (fun q => q.1.trans (by decide))
                refine ex_if_eq (tgt := 99) ok_X12_reform (mi 50 rfl) rfl (fun hn => absurd hn (by decide)) (fun _ => ?_)
                refine ex_iconst ok_X12_reform (mi 51 rfl) ?_
                refine ex_iret ok_X12_reform (mi 52 rfl) rfl ?_
                exact ⟨_, rfl, ⟨_, rfl⟩, J90⟩
            · skip
              refine ex_iconst ok_X12_reform (mi 32 rfl) ?_
              refine ex_goto (tgt := 65) ok_X12_reform (mi 33 rfl) rfl ?_
              refine ex_istore ok_X12_reform (mi 35 rfl) ?_
              refine ex_aload_n ok_X12_reform (mi 36 rfl) rfl ?_
              refine ex_iload ok_X12_reform (mi 37 rfl) rfl ?_
              refine ex_iload ok_X12_reform (mi 38 rfl) rfl ?_
              refine ex_iload ok_X12_reform (mi 39 rfl) rfl ?_
              refine ex_if_eq (tgt := 90) ok_X12_reform (mi 40 rfl) rfl (fun hn => absurd hn (by decide)) (fun _ => ?_)
              refine ex_aload_n ok_X12_reform (mi 41 rfl) rfl ?_
              refine ex_getRx ok_X12_reform (mi 42 rfl) rfl rfl (fk (MI_s I) 0 rfl) (fr (MI_s I) 0 rfl) (fk (MI_s I) 1 rfl) (by decide) ?_
              refine ex_iload_n ok_X12_reform (mi 43 rfl) rfl ?_
              refine sm_bal ok_X12_reform (mi 44 rfl) (fk (MI_s I) 1 rfl) (fn (MI_s I) 1 rfl) rfl (by omega) (by decide) ?_
              refine ex_gen (fun w91 => ?_)
              refine ex_if_ne (tgt := 90) ok_X12_reform (mi 45 rfl) rfl (fun h83 => ?_) (fun h83 => ?_)
              · skip
                refine ex_iconst ok_X12_reform (mi 48 rfl) ?_
                refine sm_V (As := [_, _, _]) ok_X12_reform (mi 49 rfl) rfl (s_ref hst (MI_s I)) rfl (fk (MI_s I) 0 rfl) rfl rfl (by decide) (by decide) (Nat.le_of_ble_eq_true rfl) (by decide) RF_no (fun z92 g96 p93 => ?_)
                obtain ⟨b94, v95, eb94, egb94, hrb94⟩ := p93
                cases eb94
                subst egb94
                have J97 := MI_I (f := 1200) (v := v95) I (by decide)
                obtain rfl : b94 = nI 1 := hrb94.elim (fun q => absurd (show (nI 0 : Int32) = 0 by decide) q.2.2.2.1) (fun q => q.1.trans (by decide))
                refine ex_if_eq (tgt := 99) ok_X12_reform (mi 50 rfl) rfl (fun hn => absurd hn (by decide)) (fun _ => ?_)
                refine ex_iconst ok_X12_reform (mi 51 rfl) ?_
                refine ex_iret ok_X12_reform (mi 52 rfl) rfl ?_
                exact ⟨_, rfl, ⟨_, rfl⟩, J97⟩
              · skip
                refine ex_iconst ok_X12_reform (mi 46 rfl) ?_
                refine ex_goto (tgt := 91) ok_X12_reform (mi 47 rfl) rfl ?_
                refine sm_V (As := [_, _, _]) ok_X12_reform (mi 49 rfl) rfl (s_ref hst (MI_s I)) rfl (fk (MI_s I) 0 rfl) rfl rfl (by decide) (by decide) (Nat.le_of_ble_eq_true rfl) (by decide) RF_no (fun z98 g102 p99 => ?_)
                obtain ⟨b100, v101, eb100, egb100, hrb100⟩ := p99
                cases eb100
                subst egb100
                have J103 := MI_I (f := 1200) (v := v101) I (by decide)
                refine ex_if_eq (tgt := 99) ok_X12_reform (mi 50 rfl) rfl (fun h94 => ?_) (fun h94 => ?_)
                · skip
                  obtain rfl : b100 = nI 0 := h94.trans (by decide)
                  have q104 := hrb100.resolve_right (fun q => absurd q.1 (by decide))
                  refine ex_aload_n ok_X12_reform (mi 53 rfl) rfl ?_
                  refine ex_iload_n ok_X12_reform (mi 54 rfl) rfl ?_
                  refine sm_V (As := [_]) ok_X12_reform (mi 55 rfl) rfl (s_X12_forgetReform hst J103 (by omega)) rfl (fk (MI_s J103) 0 rfl) rfl rfl (by decide) (by decide) (Nat.le_of_ble_eq_true rfl) (by decide) SM_no (fun z105 g107 p106 => ?_)
                  obtain ⟨u109, eu109, u109p, J108⟩ := p106
                  cases eu109
                  obtain rfl : z105 = none := u109p
                  refine ex_aload_n ok_X12_reform (mi 56 rfl) rfl ?_
                  refine ex_getRx ok_X12_reform (mi 57 rfl) rfl rfl (fk (MI_s J108) 0 rfl) (fr (MI_s J108) 25 rfl) (fk (MI_s J108) 26 rfl) (by decide) ?_
                  refine ex_iload_n ok_X12_reform (mi 58 rfl) rfl ?_
                  refine ex_iconst ok_X12_reform (mi 59 rfl) ?_
                  refine mf_A J108 ok_X12_reform (mi 60 rfl) (fk (MI_s J108) 26 rfl) (fn (MI_s J108) 26 rfl) rfl (by omega) (by decide) (by decide) (by decide) (by decide) (fun g110 J111 K112 => ?_)
                  refine ex_aload_n ok_X12_reform (mi 61 rfl) rfl ?_
                  refine ex_getRx ok_X12_reform (mi 62 rfl) rfl rfl (fk (MI_s J111) 0 rfl) (fr (MI_s J111) 27 rfl) (fk (MI_s J111) 28 rfl) (by decide) ?_
                  refine ex_iload_n ok_X12_reform (mi 63 rfl) rfl ?_
                  refine ex_iload_n ok_X12_reform (mi 64 rfl) rfl ?_
                  refine mf_A J111 ok_X12_reform (mi 65 rfl) (fk (MI_s J111) 28 rfl) (fn (MI_s J111) 28 rfl) rfl (by omega) (by decide) (by decide) (by decide) (by decide) (fun g113 J114 K115 => ?_)
                  refine ex_aload_n ok_X12_reform (mi 66 rfl) rfl ?_
                  refine ex_getRx ok_X12_reform (mi 67 rfl) rfl rfl (fk (MI_s J114) 0 rfl) (fr (MI_s J114) 26 rfl) (fk (MI_s J114) 27 rfl) (by decide) ?_
                  refine ex_iload_n ok_X12_reform (mi 68 rfl) rfl ?_
                  refine ex_iload_n ok_X12_reform (mi 69 rfl) rfl ?_
                  refine mf_B J114 ok_X12_reform (mi 70 rfl) (fk (MI_s J114) 27 rfl) (fn (MI_s J114) 27 rfl) rfl (by omega) (by decide) (B := 512) (by decide) (by decide) (by decide) (vp_in_nI (N := 512) (by omega) (by decide)) (fun g116 J117 K118 => ?_)
                  refine ex_aload_n ok_X12_reform (mi 71 rfl) rfl ?_
                  refine ex_bipush ok_X12_reform (mi 72 rfl) ?_
                  refine ex_iload_n ok_X12_reform (mi 73 rfl) rfl ?_
                  refine ex_aload_n ok_X12_reform (mi 74 rfl) rfl ?_
                  refine ex_getRx ok_X12_reform (mi 75 rfl) rfl rfl (fk (MI_s J117) 0 rfl) (fr (MI_s J117) 5 rfl) (fk (MI_s J117) 6 rfl) (by decide) ?_
                  refine ex_iload_n ok_X12_reform (mi 76 rfl) rfl ?_
                  refine sm_iald ok_X12_reform (mi 77 rfl) (fk (MI_s J117) 6 rfl) (fn (MI_s J117) 6 rfl) rfl (by omega) (by decide) ?_
                  obtain ⟨v119, hv119, ev119⟩ := vp_in_of (n := 512) (MI_bd J117 0 rfl (i := a10) (by omega)) (by decide)
                  refine ex_top (w := nI v119) ev119 ?_
                  refine ex_aload_n ok_X12_reform (mi 78 rfl) rfl ?_
                  refine ex_getRx ok_X12_reform (mi 79 rfl) rfl rfl (fk (MI_s J117) 0 rfl) (fr (MI_s J117) 4 rfl) (fk (MI_s J117) 5 rfl) (by decide) ?_
                  refine ex_iload_n ok_X12_reform (mi 80 rfl) rfl ?_
                  refine sm_iald ok_X12_reform (mi 81 rfl) (fk (MI_s J117) 5 rfl) (fn (MI_s J117) 5 rfl) rfl (by omega) (by decide) ?_
                  refine ex_gen (fun w120 => ?_)
                  refine ex_iload_n ok_X12_reform (mi 82 rfl) rfl ?_
                  refine ex_iconst ok_X12_reform (mi 83 rfl) ?_
                  refine sm_V (As := [_, _, _, _, _, _]) ok_X12_reform (mi 84 rfl) rfl (s_X12_layAll hst J117 (κ := 16) (by decide) (Or.inr (vp_in_nI (N := 3) (by omega) (by decide))) (TO9 rfl (vp_in_nI (N := 512) (by omega) (by decide))) (Or.inl rfl) (Or.inl rfl) (Or.inl rfl)) rfl (fk (MI_s J117) 0 rfl) rfl rfl (by decide) (by decide) (Nat.le_of_ble_eq_true rfl) (by decide) SM_no (fun z121 g123 p122 => ?_)
                  obtain ⟨u125, eu125, u125p, J124⟩ := p122
                  cases eu125
                  obtain ⟨v126, rfl⟩ := u125p
                  refine ex_istore ok_X12_reform (mi 85 rfl) ?_
                  refine ex_aload_n ok_X12_reform (mi 86 rfl) rfl ?_
                  refine ex_getI ok_X12_reform (mi 87 rfl) rfl rfl (fk (MI_s J124) 0 rfl) ?_
                  refine ex_gen (fun w127 => ?_)
                  refine ex_iret ok_X12_reform (mi 88 rfl) rfl ?_
                  exact ⟨_, rfl, ⟨_, rfl⟩, J124⟩
                · skip
                  refine ex_iconst ok_X12_reform (mi 51 rfl) ?_
                  refine ex_iret ok_X12_reform (mi 52 rfl) rfl ?_
                  exact ⟨_, rfl, ⟨_, rfl⟩, J103⟩
