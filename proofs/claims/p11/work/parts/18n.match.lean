theorem s_X12_match {G : GE} (hst : (ge_l G).stackTraces = false) {y c : Nat} {D : UT} {R : Nat → Prop} {g : GT} (I : MI y D c R g) {a0 : Nat} (ha0 : a0 < 9) {a1 : Nat} (ha1 : a1 < 3) {p2 : Int32} {a3 : Nat} (ha3 : a3 < 300) {p4 : Int32} : ex_M G 3 0 0 my_X12_match [.ref y, .int (nI (a0)), .int (nI (a1)), .int p2, .int (nI (a3)), .int p4] g (SM y D c R pN) := by
  refine ex_M_of ok_X12_match cw_X12_match rfl hst (Nat.le_of_ble_eq_true rfl) ?_
  refine ex_aload_n ok_X12_match (mi 0 rfl) rfl ?_
  refine ex_iload_n ok_X12_match (mi 1 rfl) rfl ?_
  refine ex_iload_n ok_X12_match (mi 2 rfl) rfl ?_
  refine sf_Vp (As := [_, _]) ok_X12_match (mi 3 rfl) rfl (s_X12_isOn hst (MI_s I) (vp_in_nI (N := 9) (by omega) (by decide))) rfl (fk (MI_s I) 0 rfl) rfl rfl (by decide) (by decide) (Nat.le_of_ble_eq_true rfl) (by decide) (fun z1 p2 => ?_)
  obtain ⟨v5, rfl, hbv5⟩ := p2
  refine ex_if_ne (tgt := 16) ok_X12_match (mi 4 rfl) rfl (fun h6 => ?_) (fun h6 => ?_)
  · skip
    refine ex_aload_n ok_X12_match (mi 10 rfl) rfl ?_
    refine ex_getRx ok_X12_match (mi 11 rfl) rfl rfl (fk (MI_s I) 0 rfl) (fr (MI_s I) 37 rfl) (fk (MI_s I) 38 rfl) (by decide) ?_
    refine ex_sipush ok_X12_match (mi 12 rfl) ?_
    refine ex_iload_n ok_X12_match (mi 13 rfl) rfl ?_
    refine ex_imul ok_X12_match (mi 14 rfl) ?_
    refine ex_top (w := (nI (300 * a0))) (nI_mulc rfl) ?_
    refine ex_iload ok_X12_match (mi 15 rfl) rfl ?_
    refine ex_iadd ok_X12_match (mi 16 rfl) ?_
    refine ex_top (w := (nI (300 * a0 + a3))) (nI_add _ _) ?_
    refine sm_iald ok_X12_match (mi 17 rfl) (fk (MI_s I) 38 rfl) (fn (MI_s I) 38 rfl) rfl (by omega) (by decide) ?_
    refine ex_gen (fun w6 => ?_)
    refine ex_istore ok_X12_match (mi 18 rfl) ?_
    refine ex_iload ok_X12_match (mi 19 rfl) rfl ?_
    refine ex_if_eq (tgt := 51) ok_X12_match (mi 20 rfl) rfl (fun h33 => ?_) (fun h33 => ?_)
    · skip
      refine ex_iload ok_X12_match (mi 28 rfl) rfl ?_
      refine ex_aload_n ok_X12_match (mi 29 rfl) rfl ?_
      refine ex_getRx ok_X12_match (mi 30 rfl) rfl rfl (fk (MI_s I) 0 rfl) (fr (MI_s I) 36 rfl) (fk (MI_s I) 37 rfl) (by decide) ?_
      refine ex_iload_n ok_X12_match (mi 31 rfl) rfl ?_
      refine sm_iald ok_X12_match (mi 32 rfl) (fk (MI_s I) 37 rfl) (fn (MI_s I) 37 rfl) rfl (by omega) (by decide) ?_
      obtain ⟨v7, hv7, ev7⟩ := vp_in_of (n := 300) (MI_bd I 10 rfl (i := a0) (by omega)) (by decide)
      refine ex_top (w := nI v7) ev7 ?_
      refine ex_icmp_lt (tgt := 82) ok_X12_match (mi 33 rfl) rfl (fun h59 => ?_) (fun h59 => ?_)
      · skip
        refine ex_iconst ok_X12_match (mi 44 rfl) ?_
        refine ex_goto (tgt := 87) ok_X12_match (mi 45 rfl) rfl ?_
        refine ex_istore ok_X12_match (mi 47 rfl) ?_
        refine ex_iload ok_X12_match (mi 48 rfl) rfl ?_
        refine ex_if_eq (tgt := 140) ok_X12_match (mi 49 rfl) rfl (fun hn => absurd hn (by decide)) (fun _ => ?_)
        refine ex_aload_n ok_X12_match (mi 50 rfl) rfl ?_
        refine ex_iload_n ok_X12_match (mi 51 rfl) rfl ?_
        refine sf_Vp (As := [_]) ok_X12_match (mi 52 rfl) rfl (s_X12_greatestRound hst (MI_s I) (vp_in_nI (N := 9) (by omega) (by decide))) rfl (fk (MI_s I) 0 rfl) rfl rfl (by decide) (by decide) (Nat.le_of_ble_eq_true rfl) (by decide) (fun z8 p9 => ?_)
        obtain ⟨v12, rfl⟩ := p9
        refine ex_aload_n ok_X12_match (mi 53 rfl) rfl ?_
        refine ex_getRx ok_X12_match (mi 54 rfl) rfl rfl (fk (MI_s I) 0 rfl) (fr (MI_s I) 36 rfl) (fk (MI_s I) 37 rfl) (by decide) ?_
        refine ex_iload_n ok_X12_match (mi 55 rfl) rfl ?_
        refine sm_iald ok_X12_match (mi 56 rfl) (fk (MI_s I) 37 rfl) (fn (MI_s I) 37 rfl) rfl (by omega) (by decide) ?_
        refine ex_top (w := nI v7) ev7 ?_
        refine ex_icmp_le (tgt := 116) ok_X12_match (mi 57 rfl) rfl (fun h105 => ?_) (fun h105 => ?_)
        · skip
          refine ex_aload_n ok_X12_match (mi 62 rfl) rfl ?_
          refine ex_getRx ok_X12_match (mi 63 rfl) rfl rfl (fk (MI_s I) 0 rfl) (fr (MI_s I) 36 rfl) (fk (MI_s I) 37 rfl) (by decide) ?_
          refine ex_iload_n ok_X12_match (mi 64 rfl) rfl ?_
          refine sm_iald ok_X12_match (mi 65 rfl) (fk (MI_s I) 37 rfl) (fn (MI_s I) 37 rfl) rfl (by omega) (by decide) ?_
          refine ex_top (w := nI v7) ev7 ?_
          refine ex_istore ok_X12_match (mi 66 rfl) ?_
          refine ex_aload_n ok_X12_match (mi 67 rfl) rfl ?_
          refine ex_bipush ok_X12_match (mi 68 rfl) ?_
          refine ex_iload_n ok_X12_match (mi 69 rfl) rfl ?_
          refine ex_iload_n ok_X12_match (mi 70 rfl) rfl ?_
          refine ex_iload ok_X12_match (mi 71 rfl) rfl ?_
          refine ex_iload ok_X12_match (mi 72 rfl) rfl ?_
          refine ex_iconst ok_X12_match (mi 73 rfl) ?_
          refine sm_V (As := [_, _, _, _, _, _]) ok_X12_match (mi 74 rfl) rfl (s_X12_lay hst I (κ := 15) (by decide) (Or.inl rfl) (Or.inr (vp_in_nI (N := 3) (by omega) (by decide))) (Or.inl rfl) (Or.inl rfl) (Or.inl rfl)) rfl (fk (MI_s I) 0 rfl) rfl rfl (by decide) (by decide) (Nat.le_of_ble_eq_true rfl) (by decide) LV_no (fun z13 g15 p14 => ?_)
          obtain ⟨b17, eb17, hb17, J16, lb17⟩ := p14
          cases eb17
          refine ex_istore ok_X12_match (mi 75 rfl) ?_
          refine ex_vret ok_X12_match (mi 76 rfl) rfl ?_
          exact ⟨_, rfl, rfl, J16⟩
        · skip
          refine ex_aload_n ok_X12_match (mi 58 rfl) rfl ?_
          refine ex_iload_n ok_X12_match (mi 59 rfl) rfl ?_
          refine sf_Vp (As := [_]) ok_X12_match (mi 60 rfl) rfl (s_X12_greatestRound hst (MI_s I) (vp_in_nI (N := 9) (by omega) (by decide))) rfl (fk (MI_s I) 0 rfl) rfl rfl (by decide) (by decide) (Nat.le_of_ble_eq_true rfl) (by decide) (fun z18 p19 => ?_)
          obtain ⟨v22, rfl⟩ := p19
          refine ex_goto (tgt := 122) ok_X12_match (mi 61 rfl) rfl ?_
          refine ex_istore ok_X12_match (mi 66 rfl) ?_
          refine ex_aload_n ok_X12_match (mi 67 rfl) rfl ?_
          refine ex_bipush ok_X12_match (mi 68 rfl) ?_
          refine ex_iload_n ok_X12_match (mi 69 rfl) rfl ?_
          refine ex_iload_n ok_X12_match (mi 70 rfl) rfl ?_
          refine ex_iload ok_X12_match (mi 71 rfl) rfl ?_
          refine ex_iload ok_X12_match (mi 72 rfl) rfl ?_
          refine ex_iconst ok_X12_match (mi 73 rfl) ?_
          refine sm_V (As := [_, _, _, _, _, _]) ok_X12_match (mi 74 rfl) rfl (s_X12_lay hst I (κ := 15) (by decide) (Or.inl rfl) (Or.inr (vp_in_nI (N := 3) (by omega) (by decide))) (Or.inl rfl) (Or.inl rfl) (Or.inl rfl)) rfl (fk (MI_s I) 0 rfl) rfl rfl (by decide) (by decide) (Nat.le_of_ble_eq_true rfl) (by decide) LV_no (fun z23 g25 p24 => ?_)
          obtain ⟨b27, eb27, hb27, J26, lb27⟩ := p24
          cases eb27
          refine ex_istore ok_X12_match (mi 75 rfl) ?_
          refine ex_vret ok_X12_match (mi 76 rfl) rfl ?_
          exact ⟨_, rfl, rfl, J26⟩
      · skip
        refine ex_iload ok_X12_match (mi 34 rfl) rfl ?_
        refine ex_aload_n ok_X12_match (mi 35 rfl) rfl ?_
        refine ex_iload_n ok_X12_match (mi 36 rfl) rfl ?_
        refine sf_Vp (As := [_]) ok_X12_match (mi 37 rfl) rfl (s_X12_greatestRound hst (MI_s I) (vp_in_nI (N := 9) (by omega) (by decide))) rfl (fk (MI_s I) 0 rfl) rfl rfl (by decide) (by decide) (Nat.le_of_ble_eq_true rfl) (by decide) (fun z28 p29 => ?_)
        obtain ⟨v32, rfl⟩ := p29
        refine ex_icmp_lt (tgt := 82) ok_X12_match (mi 38 rfl) rfl (fun h69 => ?_) (fun h69 => ?_)
        · skip
          refine ex_iconst ok_X12_match (mi 44 rfl) ?_
          refine ex_goto (tgt := 87) ok_X12_match (mi 45 rfl) rfl ?_
          refine ex_istore ok_X12_match (mi 47 rfl) ?_
          refine ex_iload ok_X12_match (mi 48 rfl) rfl ?_
          refine ex_if_eq (tgt := 140) ok_X12_match (mi 49 rfl) rfl (fun hn => absurd hn (by decide)) (fun _ => ?_)
          refine ex_aload_n ok_X12_match (mi 50 rfl) rfl ?_
          refine ex_iload_n ok_X12_match (mi 51 rfl) rfl ?_
          refine sf_Vp (As := [_]) ok_X12_match (mi 52 rfl) rfl (s_X12_greatestRound hst (MI_s I) (vp_in_nI (N := 9) (by omega) (by decide))) rfl (fk (MI_s I) 0 rfl) rfl rfl (by decide) (by decide) (Nat.le_of_ble_eq_true rfl) (by decide) (fun z33 p34 => ?_)
          obtain ⟨v37, rfl⟩ := p34
          refine ex_aload_n ok_X12_match (mi 53 rfl) rfl ?_
          refine ex_getRx ok_X12_match (mi 54 rfl) rfl rfl (fk (MI_s I) 0 rfl) (fr (MI_s I) 36 rfl) (fk (MI_s I) 37 rfl) (by decide) ?_
          refine ex_iload_n ok_X12_match (mi 55 rfl) rfl ?_
          refine sm_iald ok_X12_match (mi 56 rfl) (fk (MI_s I) 37 rfl) (fn (MI_s I) 37 rfl) rfl (by omega) (by decide) ?_
          refine ex_top (w := nI v7) ev7 ?_
          refine ex_icmp_le (tgt := 116) ok_X12_match (mi 57 rfl) rfl (fun h105 => ?_) (fun h105 => ?_)
          · skip
            refine ex_aload_n ok_X12_match (mi 62 rfl) rfl ?_
            refine ex_getRx ok_X12_match (mi 63 rfl) rfl rfl (fk (MI_s I) 0 rfl) (fr (MI_s I) 36 rfl) (fk (MI_s I) 37 rfl) (by decide) ?_
            refine ex_iload_n ok_X12_match (mi 64 rfl) rfl ?_
            refine sm_iald ok_X12_match (mi 65 rfl) (fk (MI_s I) 37 rfl) (fn (MI_s I) 37 rfl) rfl (by omega) (by decide) ?_
            refine ex_top (w := nI v7) ev7 ?_
            refine ex_istore ok_X12_match (mi 66 rfl) ?_
            refine ex_aload_n ok_X12_match (mi 67 rfl) rfl ?_
            refine ex_bipush ok_X12_match (mi 68 rfl) ?_
            refine ex_iload_n ok_X12_match (mi 69 rfl) rfl ?_
            refine ex_iload_n ok_X12_match (mi 70 rfl) rfl ?_
            refine ex_iload ok_X12_match (mi 71 rfl) rfl ?_
            refine ex_iload ok_X12_match (mi 72 rfl) rfl ?_
            refine ex_iconst ok_X12_match (mi 73 rfl) ?_
            refine sm_V (As := [_, _, _, _, _, _]) ok_X12_match (mi 74 rfl) rfl (s_X12_lay hst I (κ := 15) (by decide) (Or.inl rfl) (Or.inr (vp_in_nI (N := 3) (by omega) (by decide))) (Or.inl rfl) (Or.inl rfl) (Or.inl rfl)) rfl (fk (MI_s I) 0 rfl) rfl rfl (by decide) (by decide) (Nat.le_of_ble_eq_true rfl) (by decide) LV_no (fun z38 g40 p39 => ?_)
            obtain ⟨b42, eb42, hb42, J41, lb42⟩ := p39
            cases eb42
            refine ex_istore ok_X12_match (mi 75 rfl) ?_
            refine ex_vret ok_X12_match (mi 76 rfl) rfl ?_
            exact ⟨_, rfl, rfl, J41⟩
          · skip
            refine ex_aload_n ok_X12_match (mi 58 rfl) rfl ?_
            refine ex_iload_n ok_X12_match (mi 59 rfl) rfl ?_
            refine sf_Vp (As := [_]) ok_X12_match (mi 60 rfl) rfl (s_X12_greatestRound hst (MI_s I) (vp_in_nI (N := 9) (by omega) (by decide))) rfl (fk (MI_s I) 0 rfl) rfl rfl (by decide) (by decide) (Nat.le_of_ble_eq_true rfl) (by decide) (fun z43 p44 => ?_)
            obtain ⟨v47, rfl⟩ := p44
            refine ex_goto (tgt := 122) ok_X12_match (mi 61 rfl) rfl ?_
            refine ex_istore ok_X12_match (mi 66 rfl) ?_
            refine ex_aload_n ok_X12_match (mi 67 rfl) rfl ?_
            refine ex_bipush ok_X12_match (mi 68 rfl) ?_
            refine ex_iload_n ok_X12_match (mi 69 rfl) rfl ?_
            refine ex_iload_n ok_X12_match (mi 70 rfl) rfl ?_
            refine ex_iload ok_X12_match (mi 71 rfl) rfl ?_
            refine ex_iload ok_X12_match (mi 72 rfl) rfl ?_
            refine ex_iconst ok_X12_match (mi 73 rfl) ?_
            refine sm_V (As := [_, _, _, _, _, _]) ok_X12_match (mi 74 rfl) rfl (s_X12_lay hst I (κ := 15) (by decide) (Or.inl rfl) (Or.inr (vp_in_nI (N := 3) (by omega) (by decide))) (Or.inl rfl) (Or.inl rfl) (Or.inl rfl)) rfl (fk (MI_s I) 0 rfl) rfl rfl (by decide) (by decide) (Nat.le_of_ble_eq_true rfl) (by decide) LV_no (fun z48 g50 p49 => ?_)
            obtain ⟨b52, eb52, hb52, J51, lb52⟩ := p49
            cases eb52
            refine ex_istore ok_X12_match (mi 75 rfl) ?_
            refine ex_vret ok_X12_match (mi 76 rfl) rfl ?_
            exact ⟨_, rfl, rfl, J51⟩
        · skip
          refine ex_aload_n ok_X12_match (mi 39 rfl) rfl ?_
          refine ex_iload_n ok_X12_match (mi 40 rfl) rfl ?_
          refine sf_Vp (As := [_]) ok_X12_match (mi 41 rfl) rfl (s_X12_countEntries hst (MI_s I) (vp_in_nI (N := 9) (by omega) (by decide))) rfl (fk (MI_s I) 0 rfl) rfl rfl (by decide) (by decide) (Nat.le_of_ble_eq_true rfl) (by decide) (fun z53 p54 => ?_)
          obtain ⟨v57, rfl⟩ := p54
          refine ex_bipush ok_X12_match (mi 42 rfl) ?_
          refine ex_icmp_lt (tgt := 86) ok_X12_match (mi 43 rfl) rfl (fun h79 => ?_) (fun h79 => ?_)
          · skip
            refine ex_iconst ok_X12_match (mi 46 rfl) ?_
            refine ex_istore ok_X12_match (mi 47 rfl) ?_
            refine ex_iload ok_X12_match (mi 48 rfl) rfl ?_
            refine ex_if_eq (tgt := 140) ok_X12_match (mi 49 rfl) rfl (fun _ => ?_) (fun hn => absurd (by decide) hn)
            refine ex_aload_n ok_X12_match (mi 77 rfl) rfl ?_
            refine ex_getRx ok_X12_match (mi 78 rfl) rfl rfl (fk (MI_s I) 0 rfl) (fr (MI_s I) 37 rfl) (fk (MI_s I) 38 rfl) (by decide) ?_
            refine ex_sipush ok_X12_match (mi 79 rfl) ?_
            refine ex_iload_n ok_X12_match (mi 80 rfl) rfl ?_
            refine ex_imul ok_X12_match (mi 81 rfl) ?_
            refine ex_top (w := (nI (300 * a0))) (nI_mulc rfl) ?_
            refine ex_iload ok_X12_match (mi 82 rfl) rfl ?_
            refine ex_iadd ok_X12_match (mi 83 rfl) ?_
            refine ex_top (w := (nI (300 * a0 + a3))) (nI_add _ _) ?_
            refine ex_iload ok_X12_match (mi 84 rfl) rfl ?_
            refine mf_A I ok_X12_match (mi 85 rfl) (fk (MI_s I) 38 rfl) (fn (MI_s I) 38 rfl) rfl (by omega) (by decide) (by decide) (by decide) (by decide) (fun g58 J59 K60 => ?_)
            refine ex_aload_n ok_X12_match (mi 86 rfl) rfl ?_
            refine ex_iconst ok_X12_match (mi 87 rfl) ?_
            refine ex_iload_n ok_X12_match (mi 88 rfl) rfl ?_
            refine ex_iload_n ok_X12_match (mi 89 rfl) rfl ?_
            refine ex_iload_n ok_X12_match (mi 90 rfl) rfl ?_
            refine ex_iload ok_X12_match (mi 91 rfl) rfl ?_
            refine ex_aload_n ok_X12_match (mi 92 rfl) rfl ?_
            refine ex_getRx ok_X12_match (mi 93 rfl) rfl rfl (fk (MI_s J59) 0 rfl) (fr (MI_s J59) 36 rfl) (fk (MI_s J59) 37 rfl) (by decide) ?_
            refine ex_iload_n ok_X12_match (mi 94 rfl) rfl ?_
            refine sm_iald ok_X12_match (mi 95 rfl) (fk (MI_s J59) 37 rfl) (fn (MI_s J59) 37 rfl) rfl (by omega) (by decide) ?_
            obtain ⟨v61, hv61, ev61⟩ := vp_in_of (n := 300) (MI_bd J59 10 rfl (i := a0) (by omega)) (by decide)
            refine ex_top (w := nI v61) ev61 ?_
            refine sm_V (As := [_, _, _, _, _, _]) ok_X12_match (mi 96 rfl) rfl (s_X12_lay hst J59 (κ := 2) (by decide) (Or.inl rfl) (Or.inr (vp_in_nI (N := 3) (by omega) (by decide))) (Or.inl rfl) (Or.inl rfl) (Or.inr (vp_in_nI (N := 300) (by omega) (by decide)))) rfl (fk (MI_s J59) 0 rfl) rfl rfl (by decide) (by decide) (Nat.le_of_ble_eq_true rfl) (by decide) LV_no (fun z62 g64 p63 => ?_)
            obtain ⟨b66, eb66, hb66, J65, lb66⟩ := p63
            cases eb66
            refine ex_if_eq (tgt := 229) ok_X12_match (mi 97 rfl) rfl (fun h171 => ?_) (fun h171 => ?_)
            · skip
              refine ex_vret ok_X12_match (mi 127 rfl) rfl ?_
              exact ⟨_, rfl, rfl, J65⟩
            · skip
              obtain ⟨t67, ht67, lt67, kt67⟩ := lb66 h171
              refine ex_iconst ok_X12_match (mi 98 rfl) ?_
              refine ex_istore ok_X12_match (mi 99 rfl) ?_
              have lp177 : ∀ n177 k177 : Nat, k177 + n177 = 300 → ∀ (g68 : GT), MI y D c R g68 → ∀ mm177 : Nat, mm177 ≤ k177 → gx_I g68 1258 y = nI t67 → MK y g68 t67 2 mm177 → ex_W G 3 0 0 M_X12_match 177 [(0, .ref y), (1, .int (nI (a0))), (2, .int (nI (a1))), (3, .int p2), (4, .int (nI (a3))), (5, .int p4), (6, .int w6), (7, .int (nI 0)), (8, .int (nI (k177)))] [] g68 (SM y D c R pN) := by
                intro n177
                induction n177 with
                | zero =>
                  intro k177 he177  g68 J69  mm177 hmm177 hll177 hkk177
                  obtain rfl : k177 = 300 := by omega
                  refine ex_iload ok_X12_match (mi 100 rfl) rfl ?_
                  refine ex_iload ok_X12_match (mi 101 rfl) rfl ?_
                  refine ex_icmp_ge (tgt := 229) ok_X12_match (mi 102 rfl) rfl (fun _ => ?_) (fun hn => absurd (nI_le (b := 300) (a := a3) (by omega) (by omega)) hn)
                  refine ex_vret ok_X12_match (mi 127 rfl) rfl ?_
                  exact ⟨_, rfl, rfl, J69⟩
                | succ n177 ih177 =>
                  intro k177 he177  g68 J69  mm177 hmm177 hll177 hkk177
                  have hr177 : k177 < 300 := by omega
                  refine ex_iload ok_X12_match (mi 100 rfl) rfl ?_
                  refine ex_iload ok_X12_match (mi 101 rfl) rfl ?_
                  refine ex_icmp_ge (tgt := 229) ok_X12_match (mi 102 rfl) rfl (fun h181 => ?_) (fun h181 => ?_)
                  · skip
                    refine ex_vret ok_X12_match (mi 127 rfl) rfl ?_
                    exact ⟨_, rfl, rfl, J69⟩
                  · skip
                    have l181 : k177 < a3 := Nat.lt_of_not_le (fun q => h181 (nI_le q (by omega)))
                    refine ex_aload_n ok_X12_match (mi 103 rfl) rfl ?_
                    refine ex_getRx ok_X12_match (mi 104 rfl) rfl rfl (fk (MI_s J69) 0 rfl) (fr (MI_s J69) 37 rfl) (fk (MI_s J69) 38 rfl) (by decide) ?_
                    refine ex_sipush ok_X12_match (mi 105 rfl) ?_
                    refine ex_iload_n ok_X12_match (mi 106 rfl) rfl ?_
                    refine ex_imul ok_X12_match (mi 107 rfl) ?_
                    refine ex_top (w := (nI (300 * a0))) (nI_mulc rfl) ?_
                    refine ex_iload ok_X12_match (mi 108 rfl) rfl ?_
                    refine ex_iadd ok_X12_match (mi 109 rfl) ?_
                    refine ex_top (w := (nI (300 * a0 + k177))) (nI_add _ _) ?_
                    refine sm_iald ok_X12_match (mi 110 rfl) (fk (MI_s J69) 38 rfl) (fn (MI_s J69) 38 rfl) rfl (by omega) (by decide) ?_
                    refine ex_gen (fun w70 => ?_)
                    refine ex_if_eq (tgt := 223) ok_X12_match (mi 111 rfl) rfl (fun h197 => ?_) (fun h197 => ?_)
                    · skip
                      refine ex_iincx (w := (nI (k177 + 1))) ok_X12_match (mi 125 rfl) rfl (nI_1 _) ?_
                      refine ex_goto (tgt := 177) ok_X12_match (mi 126 rfl) rfl ?_
                      exact ex_ls (ls' := [(0, .ref y), (1, .int (nI (a0))), (2, .int (nI (a1))), (3, .int p2), (4, .int (nI (a3))), (5, .int p4), (6, .int w6), (7, .int (nI 0)), (8, .int (nI (k177 + 1)))]) ⟨rfl, rfl, rfl, rfl, rfl, rfl, rfl, rfl, rfl, trivial⟩ (ih177 (k177 + 1) (by omega) g68 J69  (mm177) (by omega) hll177 hkk177)
                    · skip
                      refine ex_aload_n ok_X12_match (mi 112 rfl) rfl ?_
                      refine ex_aload_n ok_X12_match (mi 113 rfl) rfl ?_
                      refine ex_getI ok_X12_match (mi 114 rfl) rfl rfl (fk (MI_s J69) 0 rfl) ?_
                      refine ex_top (w := nI t67) hll177 ?_
                      refine ex_iload ok_X12_match (mi 115 rfl) rfl ?_
                      refine ex_aload_n ok_X12_match (mi 116 rfl) rfl ?_
                      refine ex_getRx ok_X12_match (mi 117 rfl) rfl rfl (fk (MI_s J69) 0 rfl) (fr (MI_s J69) 37 rfl) (fk (MI_s J69) 38 rfl) (by decide) ?_
                      refine ex_sipush ok_X12_match (mi 118 rfl) ?_
                      refine ex_iload_n ok_X12_match (mi 119 rfl) rfl ?_
                      refine ex_imul ok_X12_match (mi 120 rfl) ?_
                      refine ex_top (w := (nI (300 * a0))) (nI_mulc rfl) ?_
                      refine ex_iload ok_X12_match (mi 121 rfl) rfl ?_
                      refine ex_iadd ok_X12_match (mi 122 rfl) ?_
                      refine ex_top (w := (nI (300 * a0 + k177))) (nI_add _ _) ?_
                      refine sm_iald ok_X12_match (mi 123 rfl) (fk (MI_s J69) 38 rfl) (fn (MI_s J69) 38 rfl) rfl (by omega) (by decide) ?_
                      refine ex_gen (fun w71 => ?_)
                      refine sm_V (As := [_, _, _]) ok_X12_match (mi 124 rfl) rfl (s_X12_addEntry hst J69 ht67 hkk177 (by decide) (by omega) (by omega)) rfl (fk (MI_s J69) 0 rfl) rfl rfl (by decide) (by decide) (Nat.le_of_ble_eq_true rfl) (by decide) AE_no (fun z72 g74 p73 => ?_)
                      obtain ⟨ez72, J75, ll76, mk77⟩ := p73
                      cases ez72
                      have ll76' := ll76.trans hll177
                      refine ex_iincx (w := (nI (k177 + 1))) ok_X12_match (mi 125 rfl) rfl (nI_1 _) ?_
                      refine ex_goto (tgt := 177) ok_X12_match (mi 126 rfl) rfl ?_
                      exact ex_ls (ls' := [(0, .ref y), (1, .int (nI (a0))), (2, .int (nI (a1))), (3, .int p2), (4, .int (nI (a3))), (5, .int p4), (6, .int w6), (7, .int (nI 0)), (8, .int (nI (k177 + 1)))]) ⟨rfl, rfl, rfl, rfl, rfl, rfl, rfl, rfl, rfl, trivial⟩ (ih177 (k177 + 1) (by omega) g74 J75  (mm177 + 1) (by omega) ll76' mk77)
              exact ex_ls (ls' := [(0, .ref y), (1, .int (nI (a0))), (2, .int (nI (a1))), (3, .int p2), (4, .int (nI (a3))), (5, .int p4), (6, .int w6), (7, .int (nI 0)), (8, .int (nI 0))]) ⟨rfl, rfl, rfl, rfl, rfl, rfl, rfl, rfl, rfl, trivial⟩ (lp177 (300 - 0) (0) (by omega) g64 J65  (0) (by omega) lt67 kt67)
          · skip
            refine ex_iconst ok_X12_match (mi 44 rfl) ?_
            refine ex_goto (tgt := 87) ok_X12_match (mi 45 rfl) rfl ?_
            refine ex_istore ok_X12_match (mi 47 rfl) ?_
            refine ex_iload ok_X12_match (mi 48 rfl) rfl ?_
            refine ex_if_eq (tgt := 140) ok_X12_match (mi 49 rfl) rfl (fun hn => absurd hn (by decide)) (fun _ => ?_)
            refine ex_aload_n ok_X12_match (mi 50 rfl) rfl ?_
            refine ex_iload_n ok_X12_match (mi 51 rfl) rfl ?_
            refine sf_Vp (As := [_]) ok_X12_match (mi 52 rfl) rfl (s_X12_greatestRound hst (MI_s I) (vp_in_nI (N := 9) (by omega) (by decide))) rfl (fk (MI_s I) 0 rfl) rfl rfl (by decide) (by decide) (Nat.le_of_ble_eq_true rfl) (by decide) (fun z78 p79 => ?_)
            obtain ⟨v82, rfl⟩ := p79
            refine ex_aload_n ok_X12_match (mi 53 rfl) rfl ?_
            refine ex_getRx ok_X12_match (mi 54 rfl) rfl rfl (fk (MI_s I) 0 rfl) (fr (MI_s I) 36 rfl) (fk (MI_s I) 37 rfl) (by decide) ?_
            refine ex_iload_n ok_X12_match (mi 55 rfl) rfl ?_
            refine sm_iald ok_X12_match (mi 56 rfl) (fk (MI_s I) 37 rfl) (fn (MI_s I) 37 rfl) rfl (by omega) (by decide) ?_
            refine ex_top (w := nI v7) ev7 ?_
            refine ex_icmp_le (tgt := 116) ok_X12_match (mi 57 rfl) rfl (fun h105 => ?_) (fun h105 => ?_)
            · skip
              refine ex_aload_n ok_X12_match (mi 62 rfl) rfl ?_
              refine ex_getRx ok_X12_match (mi 63 rfl) rfl rfl (fk (MI_s I) 0 rfl) (fr (MI_s I) 36 rfl) (fk (MI_s I) 37 rfl) (by decide) ?_
              refine ex_iload_n ok_X12_match (mi 64 rfl) rfl ?_
              refine sm_iald ok_X12_match (mi 65 rfl) (fk (MI_s I) 37 rfl) (fn (MI_s I) 37 rfl) rfl (by omega) (by decide) ?_
              refine ex_top (w := nI v7) ev7 ?_
              refine ex_istore ok_X12_match (mi 66 rfl) ?_
              refine ex_aload_n ok_X12_match (mi 67 rfl) rfl ?_
              refine ex_bipush ok_X12_match (mi 68 rfl) ?_
              refine ex_iload_n ok_X12_match (mi 69 rfl) rfl ?_
              refine ex_iload_n ok_X12_match (mi 70 rfl) rfl ?_
              refine ex_iload ok_X12_match (mi 71 rfl) rfl ?_
              refine ex_iload ok_X12_match (mi 72 rfl) rfl ?_
              refine ex_iconst ok_X12_match (mi 73 rfl) ?_
              refine sm_V (As := [_, _, _, _, _, _]) ok_X12_match (mi 74 rfl) rfl (s_X12_lay hst I (κ := 15) (by decide) (Or.inl rfl) (Or.inr (vp_in_nI (N := 3) (by omega) (by decide))) (Or.inl rfl) (Or.inl rfl) (Or.inl rfl)) rfl (fk (MI_s I) 0 rfl) rfl rfl (by decide) (by decide) (Nat.le_of_ble_eq_true rfl) (by decide) LV_no (fun z83 g85 p84 => ?_)
              obtain ⟨b87, eb87, hb87, J86, lb87⟩ := p84
              cases eb87
              refine ex_istore ok_X12_match (mi 75 rfl) ?_
              refine ex_vret ok_X12_match (mi 76 rfl) rfl ?_
              exact ⟨_, rfl, rfl, J86⟩
            · skip
              refine ex_aload_n ok_X12_match (mi 58 rfl) rfl ?_
              refine ex_iload_n ok_X12_match (mi 59 rfl) rfl ?_
              refine sf_Vp (As := [_]) ok_X12_match (mi 60 rfl) rfl (s_X12_greatestRound hst (MI_s I) (vp_in_nI (N := 9) (by omega) (by decide))) rfl (fk (MI_s I) 0 rfl) rfl rfl (by decide) (by decide) (Nat.le_of_ble_eq_true rfl) (by decide) (fun z88 p89 => ?_)
              obtain ⟨v92, rfl⟩ := p89
              refine ex_goto (tgt := 122) ok_X12_match (mi 61 rfl) rfl ?_
              refine ex_istore ok_X12_match (mi 66 rfl) ?_
              refine ex_aload_n ok_X12_match (mi 67 rfl) rfl ?_
              refine ex_bipush ok_X12_match (mi 68 rfl) ?_
              refine ex_iload_n ok_X12_match (mi 69 rfl) rfl ?_
              refine ex_iload_n ok_X12_match (mi 70 rfl) rfl ?_
              refine ex_iload ok_X12_match (mi 71 rfl) rfl ?_
              refine ex_iload ok_X12_match (mi 72 rfl) rfl ?_
              refine ex_iconst ok_X12_match (mi 73 rfl) ?_
              refine sm_V (As := [_, _, _, _, _, _]) ok_X12_match (mi 74 rfl) rfl (s_X12_lay hst I (κ := 15) (by decide) (Or.inl rfl) (Or.inr (vp_in_nI (N := 3) (by omega) (by decide))) (Or.inl rfl) (Or.inl rfl) (Or.inl rfl)) rfl (fk (MI_s I) 0 rfl) rfl rfl (by decide) (by decide) (Nat.le_of_ble_eq_true rfl) (by decide) LV_no (fun z93 g95 p94 => ?_)
              obtain ⟨b97, eb97, hb97, J96, lb97⟩ := p94
              cases eb97
              refine ex_istore ok_X12_match (mi 75 rfl) ?_
              refine ex_vret ok_X12_match (mi 76 rfl) rfl ?_
              exact ⟨_, rfl, rfl, J96⟩
    · skip
      refine ex_iload ok_X12_match (mi 21 rfl) rfl ?_
      refine ex_iload ok_X12_match (mi 22 rfl) rfl ?_
      refine ex_icmp_eq (tgt := 47) ok_X12_match (mi 23 rfl) rfl (fun h40 => ?_) (fun h40 => ?_)
      · skip
        refine ex_iconst ok_X12_match (mi 26 rfl) ?_
        refine ex_goto (tgt := 87) ok_X12_match (mi 27 rfl) rfl ?_
        refine ex_istore ok_X12_match (mi 47 rfl) ?_
        refine ex_iload ok_X12_match (mi 48 rfl) rfl ?_
        refine ex_if_eq (tgt := 140) ok_X12_match (mi 49 rfl) rfl (fun _ => ?_) (fun hn => absurd (by decide) hn)
        refine ex_aload_n ok_X12_match (mi 77 rfl) rfl ?_
        refine ex_getRx ok_X12_match (mi 78 rfl) rfl rfl (fk (MI_s I) 0 rfl) (fr (MI_s I) 37 rfl) (fk (MI_s I) 38 rfl) (by decide) ?_
        refine ex_sipush ok_X12_match (mi 79 rfl) ?_
        refine ex_iload_n ok_X12_match (mi 80 rfl) rfl ?_
        refine ex_imul ok_X12_match (mi 81 rfl) ?_
        refine ex_top (w := (nI (300 * a0))) (nI_mulc rfl) ?_
        refine ex_iload ok_X12_match (mi 82 rfl) rfl ?_
        refine ex_iadd ok_X12_match (mi 83 rfl) ?_
        refine ex_top (w := (nI (300 * a0 + a3))) (nI_add _ _) ?_
        refine ex_iload ok_X12_match (mi 84 rfl) rfl ?_
        refine mf_A I ok_X12_match (mi 85 rfl) (fk (MI_s I) 38 rfl) (fn (MI_s I) 38 rfl) rfl (by omega) (by decide) (by decide) (by decide) (by decide) (fun g98 J99 K100 => ?_)
        refine ex_aload_n ok_X12_match (mi 86 rfl) rfl ?_
        refine ex_iconst ok_X12_match (mi 87 rfl) ?_
        refine ex_iload_n ok_X12_match (mi 88 rfl) rfl ?_
        refine ex_iload_n ok_X12_match (mi 89 rfl) rfl ?_
        refine ex_iload_n ok_X12_match (mi 90 rfl) rfl ?_
        refine ex_iload ok_X12_match (mi 91 rfl) rfl ?_
        refine ex_aload_n ok_X12_match (mi 92 rfl) rfl ?_
        refine ex_getRx ok_X12_match (mi 93 rfl) rfl rfl (fk (MI_s J99) 0 rfl) (fr (MI_s J99) 36 rfl) (fk (MI_s J99) 37 rfl) (by decide) ?_
        refine ex_iload_n ok_X12_match (mi 94 rfl) rfl ?_
        refine sm_iald ok_X12_match (mi 95 rfl) (fk (MI_s J99) 37 rfl) (fn (MI_s J99) 37 rfl) rfl (by omega) (by decide) ?_
        obtain ⟨v101, hv101, ev101⟩ := vp_in_of (n := 300) (MI_bd J99 10 rfl (i := a0) (by omega)) (by decide)
        refine ex_top (w := nI v101) ev101 ?_
        refine sm_V (As := [_, _, _, _, _, _]) ok_X12_match (mi 96 rfl) rfl (s_X12_lay hst J99 (κ := 2) (by decide) (Or.inl rfl) (Or.inr (vp_in_nI (N := 3) (by omega) (by decide))) (Or.inl rfl) (Or.inl rfl) (Or.inr (vp_in_nI (N := 300) (by omega) (by decide)))) rfl (fk (MI_s J99) 0 rfl) rfl rfl (by decide) (by decide) (Nat.le_of_ble_eq_true rfl) (by decide) LV_no (fun z102 g104 p103 => ?_)
        obtain ⟨b106, eb106, hb106, J105, lb106⟩ := p103
        cases eb106
        refine ex_if_eq (tgt := 229) ok_X12_match (mi 97 rfl) rfl (fun h171 => ?_) (fun h171 => ?_)
        · skip
          refine ex_vret ok_X12_match (mi 127 rfl) rfl ?_
          exact ⟨_, rfl, rfl, J105⟩
        · skip
          obtain ⟨t107, ht107, lt107, kt107⟩ := lb106 h171
          refine ex_iconst ok_X12_match (mi 98 rfl) ?_
          refine ex_istore ok_X12_match (mi 99 rfl) ?_
          have lp177 : ∀ n177 k177 : Nat, k177 + n177 = 300 → ∀ (g108 : GT), MI y D c R g108 → ∀ mm177 : Nat, mm177 ≤ k177 → gx_I g108 1258 y = nI t107 → MK y g108 t107 2 mm177 → ex_W G 3 0 0 M_X12_match 177 [(0, .ref y), (1, .int (nI (a0))), (2, .int (nI (a1))), (3, .int p2), (4, .int (nI (a3))), (5, .int p4), (6, .int w6), (7, .int (nI 0)), (8, .int (nI (k177)))] [] g108 (SM y D c R pN) := by
            intro n177
            induction n177 with
            | zero =>
              intro k177 he177  g108 J109  mm177 hmm177 hll177 hkk177
              obtain rfl : k177 = 300 := by omega
              refine ex_iload ok_X12_match (mi 100 rfl) rfl ?_
              refine ex_iload ok_X12_match (mi 101 rfl) rfl ?_
              refine ex_icmp_ge (tgt := 229) ok_X12_match (mi 102 rfl) rfl (fun _ => ?_) (fun hn => absurd (nI_le (b := 300) (a := a3) (by omega) (by omega)) hn)
              refine ex_vret ok_X12_match (mi 127 rfl) rfl ?_
              exact ⟨_, rfl, rfl, J109⟩
            | succ n177 ih177 =>
              intro k177 he177  g108 J109  mm177 hmm177 hll177 hkk177
              have hr177 : k177 < 300 := by omega
              refine ex_iload ok_X12_match (mi 100 rfl) rfl ?_
              refine ex_iload ok_X12_match (mi 101 rfl) rfl ?_
              refine ex_icmp_ge (tgt := 229) ok_X12_match (mi 102 rfl) rfl (fun h181 => ?_) (fun h181 => ?_)
              · skip
                refine ex_vret ok_X12_match (mi 127 rfl) rfl ?_
                exact ⟨_, rfl, rfl, J109⟩
              · skip
                have l181 : k177 < a3 := Nat.lt_of_not_le (fun q => h181 (nI_le q (by omega)))
                refine ex_aload_n ok_X12_match (mi 103 rfl) rfl ?_
                refine ex_getRx ok_X12_match (mi 104 rfl) rfl rfl (fk (MI_s J109) 0 rfl) (fr (MI_s J109) 37 rfl) (fk (MI_s J109) 38 rfl) (by decide) ?_
                refine ex_sipush ok_X12_match (mi 105 rfl) ?_
                refine ex_iload_n ok_X12_match (mi 106 rfl) rfl ?_
                refine ex_imul ok_X12_match (mi 107 rfl) ?_
                refine ex_top (w := (nI (300 * a0))) (nI_mulc rfl) ?_
                refine ex_iload ok_X12_match (mi 108 rfl) rfl ?_
                refine ex_iadd ok_X12_match (mi 109 rfl) ?_
                refine ex_top (w := (nI (300 * a0 + k177))) (nI_add _ _) ?_
                refine sm_iald ok_X12_match (mi 110 rfl) (fk (MI_s J109) 38 rfl) (fn (MI_s J109) 38 rfl) rfl (by omega) (by decide) ?_
                refine ex_gen (fun w110 => ?_)
                refine ex_if_eq (tgt := 223) ok_X12_match (mi 111 rfl) rfl (fun h197 => ?_) (fun h197 => ?_)
                · skip
                  refine ex_iincx (w := (nI (k177 + 1))) ok_X12_match (mi 125 rfl) rfl (nI_1 _) ?_
                  refine ex_goto (tgt := 177) ok_X12_match (mi 126 rfl) rfl ?_
                  exact ex_ls (ls' := [(0, .ref y), (1, .int (nI (a0))), (2, .int (nI (a1))), (3, .int p2), (4, .int (nI (a3))), (5, .int p4), (6, .int w6), (7, .int (nI 0)), (8, .int (nI (k177 + 1)))]) ⟨rfl, rfl, rfl, rfl, rfl, rfl, rfl, rfl, rfl, trivial⟩ (ih177 (k177 + 1) (by omega) g108 J109  (mm177) (by omega) hll177 hkk177)
                · skip
                  refine ex_aload_n ok_X12_match (mi 112 rfl) rfl ?_
                  refine ex_aload_n ok_X12_match (mi 113 rfl) rfl ?_
                  refine ex_getI ok_X12_match (mi 114 rfl) rfl rfl (fk (MI_s J109) 0 rfl) ?_
                  refine ex_top (w := nI t107) hll177 ?_
                  refine ex_iload ok_X12_match (mi 115 rfl) rfl ?_
                  refine ex_aload_n ok_X12_match (mi 116 rfl) rfl ?_
                  refine ex_getRx ok_X12_match (mi 117 rfl) rfl rfl (fk (MI_s J109) 0 rfl) (fr (MI_s J109) 37 rfl) (fk (MI_s J109) 38 rfl) (by decide) ?_
                  refine ex_sipush ok_X12_match (mi 118 rfl) ?_
                  refine ex_iload_n ok_X12_match (mi 119 rfl) rfl ?_
                  refine ex_imul ok_X12_match (mi 120 rfl) ?_
                  refine ex_top (w := (nI (300 * a0))) (nI_mulc rfl) ?_
                  refine ex_iload ok_X12_match (mi 121 rfl) rfl ?_
                  refine ex_iadd ok_X12_match (mi 122 rfl) ?_
                  refine ex_top (w := (nI (300 * a0 + k177))) (nI_add _ _) ?_
                  refine sm_iald ok_X12_match (mi 123 rfl) (fk (MI_s J109) 38 rfl) (fn (MI_s J109) 38 rfl) rfl (by omega) (by decide) ?_
                  refine ex_gen (fun w111 => ?_)
                  refine sm_V (As := [_, _, _]) ok_X12_match (mi 124 rfl) rfl (s_X12_addEntry hst J109 ht107 hkk177 (by decide) (by omega) (by omega)) rfl (fk (MI_s J109) 0 rfl) rfl rfl (by decide) (by decide) (Nat.le_of_ble_eq_true rfl) (by decide) AE_no (fun z112 g114 p113 => ?_)
                  obtain ⟨ez112, J115, ll116, mk117⟩ := p113
                  cases ez112
                  have ll116' := ll116.trans hll177
                  refine ex_iincx (w := (nI (k177 + 1))) ok_X12_match (mi 125 rfl) rfl (nI_1 _) ?_
                  refine ex_goto (tgt := 177) ok_X12_match (mi 126 rfl) rfl ?_
                  exact ex_ls (ls' := [(0, .ref y), (1, .int (nI (a0))), (2, .int (nI (a1))), (3, .int p2), (4, .int (nI (a3))), (5, .int p4), (6, .int w6), (7, .int (nI 0)), (8, .int (nI (k177 + 1)))]) ⟨rfl, rfl, rfl, rfl, rfl, rfl, rfl, rfl, rfl, trivial⟩ (ih177 (k177 + 1) (by omega) g114 J115  (mm177 + 1) (by omega) ll116' mk117)
          exact ex_ls (ls' := [(0, .ref y), (1, .int (nI (a0))), (2, .int (nI (a1))), (3, .int p2), (4, .int (nI (a3))), (5, .int p4), (6, .int w6), (7, .int (nI 0)), (8, .int (nI 0))]) ⟨rfl, rfl, rfl, rfl, rfl, rfl, rfl, rfl, rfl, trivial⟩ (lp177 (300 - 0) (0) (by omega) g104 J105  (0) (by omega) lt107 kt107)
      · skip
        refine ex_iconst ok_X12_match (mi 24 rfl) ?_
        refine ex_goto (tgt := 87) ok_X12_match (mi 25 rfl) rfl ?_
        refine ex_istore ok_X12_match (mi 47 rfl) ?_
        refine ex_iload ok_X12_match (mi 48 rfl) rfl ?_
        refine ex_if_eq (tgt := 140) ok_X12_match (mi 49 rfl) rfl (fun hn => absurd hn (by decide)) (fun _ => ?_)
        refine ex_aload_n ok_X12_match (mi 50 rfl) rfl ?_
        refine ex_iload_n ok_X12_match (mi 51 rfl) rfl ?_
        refine sf_Vp (As := [_]) ok_X12_match (mi 52 rfl) rfl (s_X12_greatestRound hst (MI_s I) (vp_in_nI (N := 9) (by omega) (by decide))) rfl (fk (MI_s I) 0 rfl) rfl rfl (by decide) (by decide) (Nat.le_of_ble_eq_true rfl) (by decide) (fun z118 p119 => ?_)
        obtain ⟨v122, rfl⟩ := p119
        refine ex_aload_n ok_X12_match (mi 53 rfl) rfl ?_
        refine ex_getRx ok_X12_match (mi 54 rfl) rfl rfl (fk (MI_s I) 0 rfl) (fr (MI_s I) 36 rfl) (fk (MI_s I) 37 rfl) (by decide) ?_
        refine ex_iload_n ok_X12_match (mi 55 rfl) rfl ?_
        refine sm_iald ok_X12_match (mi 56 rfl) (fk (MI_s I) 37 rfl) (fn (MI_s I) 37 rfl) rfl (by omega) (by decide) ?_
        obtain ⟨v123, hv123, ev123⟩ := vp_in_of (n := 300) (MI_bd I 10 rfl (i := a0) (by omega)) (by decide)
        refine ex_top (w := nI v123) ev123 ?_
        refine ex_icmp_le (tgt := 116) ok_X12_match (mi 57 rfl) rfl (fun h105 => ?_) (fun h105 => ?_)
        · skip
          refine ex_aload_n ok_X12_match (mi 62 rfl) rfl ?_
          refine ex_getRx ok_X12_match (mi 63 rfl) rfl rfl (fk (MI_s I) 0 rfl) (fr (MI_s I) 36 rfl) (fk (MI_s I) 37 rfl) (by decide) ?_
          refine ex_iload_n ok_X12_match (mi 64 rfl) rfl ?_
          refine sm_iald ok_X12_match (mi 65 rfl) (fk (MI_s I) 37 rfl) (fn (MI_s I) 37 rfl) rfl (by omega) (by decide) ?_
          refine ex_top (w := nI v123) ev123 ?_
          refine ex_istore ok_X12_match (mi 66 rfl) ?_
          refine ex_aload_n ok_X12_match (mi 67 rfl) rfl ?_
          refine ex_bipush ok_X12_match (mi 68 rfl) ?_
          refine ex_iload_n ok_X12_match (mi 69 rfl) rfl ?_
          refine ex_iload_n ok_X12_match (mi 70 rfl) rfl ?_
          refine ex_iload ok_X12_match (mi 71 rfl) rfl ?_
          refine ex_iload ok_X12_match (mi 72 rfl) rfl ?_
          refine ex_iconst ok_X12_match (mi 73 rfl) ?_
          refine sm_V (As := [_, _, _, _, _, _]) ok_X12_match (mi 74 rfl) rfl (s_X12_lay hst I (κ := 15) (by decide) (Or.inl rfl) (Or.inr (vp_in_nI (N := 3) (by omega) (by decide))) (Or.inl rfl) (Or.inl rfl) (Or.inl rfl)) rfl (fk (MI_s I) 0 rfl) rfl rfl (by decide) (by decide) (Nat.le_of_ble_eq_true rfl) (by decide) LV_no (fun z124 g126 p125 => ?_)
          obtain ⟨b128, eb128, hb128, J127, lb128⟩ := p125
          cases eb128
          refine ex_istore ok_X12_match (mi 75 rfl) ?_
          refine ex_vret ok_X12_match (mi 76 rfl) rfl ?_
          exact ⟨_, rfl, rfl, J127⟩
        · skip
          refine ex_aload_n ok_X12_match (mi 58 rfl) rfl ?_
          refine ex_iload_n ok_X12_match (mi 59 rfl) rfl ?_
          refine sf_Vp (As := [_]) ok_X12_match (mi 60 rfl) rfl (s_X12_greatestRound hst (MI_s I) (vp_in_nI (N := 9) (by omega) (by decide))) rfl (fk (MI_s I) 0 rfl) rfl rfl (by decide) (by decide) (Nat.le_of_ble_eq_true rfl) (by decide) (fun z129 p130 => ?_)
          obtain ⟨v133, rfl⟩ := p130
          refine ex_goto (tgt := 122) ok_X12_match (mi 61 rfl) rfl ?_
          refine ex_istore ok_X12_match (mi 66 rfl) ?_
          refine ex_aload_n ok_X12_match (mi 67 rfl) rfl ?_
          refine ex_bipush ok_X12_match (mi 68 rfl) ?_
          refine ex_iload_n ok_X12_match (mi 69 rfl) rfl ?_
          refine ex_iload_n ok_X12_match (mi 70 rfl) rfl ?_
          refine ex_iload ok_X12_match (mi 71 rfl) rfl ?_
          refine ex_iload ok_X12_match (mi 72 rfl) rfl ?_
          refine ex_iconst ok_X12_match (mi 73 rfl) ?_
          refine sm_V (As := [_, _, _, _, _, _]) ok_X12_match (mi 74 rfl) rfl (s_X12_lay hst I (κ := 15) (by decide) (Or.inl rfl) (Or.inr (vp_in_nI (N := 3) (by omega) (by decide))) (Or.inl rfl) (Or.inl rfl) (Or.inl rfl)) rfl (fk (MI_s I) 0 rfl) rfl rfl (by decide) (by decide) (Nat.le_of_ble_eq_true rfl) (by decide) LV_no (fun z134 g136 p135 => ?_)
          obtain ⟨b138, eb138, hb138, J137, lb138⟩ := p135
          cases eb138
          refine ex_istore ok_X12_match (mi 75 rfl) ?_
          refine ex_vret ok_X12_match (mi 76 rfl) rfl ?_
          exact ⟨_, rfl, rfl, J137⟩
  · skip
    refine ex_aload_n ok_X12_match (mi 5 rfl) rfl ?_
    refine ex_iload_n ok_X12_match (mi 6 rfl) rfl ?_
    refine ex_iload_n ok_X12_match (mi 7 rfl) rfl ?_
    refine sm_V (As := [_, _]) ok_X12_match (mi 8 rfl) rfl (s_X12_sayGone hst I (by omega) (by omega)) rfl (fk (MI_s I) 0 rfl) rfl rfl (by decide) (by decide) (Nat.le_of_ble_eq_true rfl) (by decide) SM_no (fun z139 g141 p140 => ?_)
    obtain ⟨u143, eu143, u143p, J142⟩ := p140
    cases eu143
    obtain rfl : z139 = none := u143p
    refine ex_vret ok_X12_match (mi 9 rfl) rfl ?_
    exact ⟨_, rfl, rfl, J142⟩
