theorem s_X12_offer {G : GE} (hst : (ge_l G).stackTraces = false) {y c : Nat} {D : UT} {R : Nat → Prop} {g : GT} (I : MI y D c R g) {a0 : Nat} (ha0 : a0 < 3) {a1 : Nat} (ha1 : a1 < 16) {p2 : Int32} (hR : R a0) : ex_M G 3 0 0 my_X12_offer [.ref y, .int (nI (a0)), .int (nI (a1)), .int p2] g (SM y D c R pN) := by
  refine ex_M_of ok_X12_offer cw_X12_offer rfl hst (Nat.le_of_ble_eq_true rfl) ?_
  refine ex_aload_n ok_X12_offer (mi 0 rfl) rfl ?_
  refine ex_getRx ok_X12_offer (mi 1 rfl) rfl rfl (fk (MI_s I) 0 rfl) (fr (MI_s I) 15 rfl) (fk (MI_s I) 16 rfl) (by decide) ?_
  refine ex_bipush ok_X12_offer (mi 2 rfl) ?_
  refine ex_iload_n ok_X12_offer (mi 3 rfl) rfl ?_
  refine ex_imul ok_X12_offer (mi 4 rfl) ?_
  refine ex_top (w := (nI (16 * a0))) (nI_mulc rfl) ?_
  refine ex_iload_n ok_X12_offer (mi 5 rfl) rfl ?_
  refine ex_iadd ok_X12_offer (mi 6 rfl) ?_
  refine ex_top (w := (nI (16 * a0 + a1))) (nI_add _ _) ?_
  refine ex_iconst ok_X12_offer (mi 7 rfl) ?_
  refine mf_A I ok_X12_offer (mi 8 rfl) (fk (MI_s I) 16 rfl) (fn (MI_s I) 16 rfl) rfl (by omega) (by decide) (by decide) (by decide) (by decide) (fun g1 J2 K3 => ?_)
  refine ex_aload_n ok_X12_offer (mi 9 rfl) rfl ?_
  refine ex_getRx ok_X12_offer (mi 10 rfl) rfl rfl (fk (MI_s J2) 0 rfl) (fr (MI_s J2) 16 rfl) (fk (MI_s J2) 17 rfl) (by decide) ?_
  refine ex_bipush ok_X12_offer (mi 11 rfl) ?_
  refine ex_iload_n ok_X12_offer (mi 12 rfl) rfl ?_
  refine ex_imul ok_X12_offer (mi 13 rfl) ?_
  refine ex_top (w := (nI (16 * a0))) (nI_mulc rfl) ?_
  refine ex_iload_n ok_X12_offer (mi 14 rfl) rfl ?_
  refine ex_iadd ok_X12_offer (mi 15 rfl) ?_
  refine ex_top (w := (nI (16 * a0 + a1))) (nI_add _ _) ?_
  refine ex_iload_n ok_X12_offer (mi 16 rfl) rfl ?_
  refine mf_A J2 ok_X12_offer (mi 17 rfl) (fk (MI_s J2) 17 rfl) (fn (MI_s J2) 17 rfl) rfl (by omega) (by decide) (by decide) (by decide) (by decide) (fun g4 J5 K6 => ?_)
  refine ex_aload_n ok_X12_offer (mi 18 rfl) rfl ?_
  refine ex_iconst ok_X12_offer (mi 19 rfl) ?_
  refine ex_iload_n ok_X12_offer (mi 20 rfl) rfl ?_
  refine ex_aload_n ok_X12_offer (mi 21 rfl) rfl ?_
  refine ex_getRx ok_X12_offer (mi 22 rfl) rfl rfl (fk (MI_s J5) 0 rfl) (fr (MI_s J5) 3 rfl) (fk (MI_s J5) 4 rfl) (by decide) ?_
  refine ex_iload_n ok_X12_offer (mi 23 rfl) rfl ?_
  refine sm_iald ok_X12_offer (mi 24 rfl) (fk (MI_s J5) 4 rfl) (fn (MI_s J5) 4 rfl) rfl (by omega) (by decide) ?_
  refine ex_gen (fun w7 => ?_)
  refine ex_aload_n ok_X12_offer (mi 25 rfl) rfl ?_
  refine ex_getRx ok_X12_offer (mi 26 rfl) rfl rfl (fk (MI_s J5) 0 rfl) (fr (MI_s J5) 2 rfl) (fk (MI_s J5) 3 rfl) (by decide) ?_
  refine ex_iload_n ok_X12_offer (mi 27 rfl) rfl ?_
  refine sm_iald ok_X12_offer (mi 28 rfl) (fk (MI_s J5) 3 rfl) (fn (MI_s J5) 3 rfl) rfl (by omega) (by decide) ?_
  obtain ⟨v8, hv8, ev8⟩ := vp_in_of (n := 300) (MI_rd J5 (i := a0) (by omega) hR) (by decide)
  refine ex_top (w := nI v8) ev8 ?_
  refine ex_iload_n ok_X12_offer (mi 29 rfl) rfl ?_
  refine ex_iload_n ok_X12_offer (mi 30 rfl) rfl ?_
  refine sm_V (As := [_, _, _, _, _, _]) ok_X12_offer (mi 31 rfl) rfl (s_X12_layAll hst J5 (κ := 5) (by decide) (Or.inr (vp_in_nI (N := 3) (by omega) (by decide))) (TO12 rfl) (Or.inr (vp_in_nI (N := 300) (by omega) (by decide))) (Or.inr (vp_in_nI (N := 16) (by omega) (by decide))) (Or.inl rfl)) rfl (fk (MI_s J5) 0 rfl) rfl rfl (by decide) (by decide) (Nat.le_of_ble_eq_true rfl) (by decide) SM_no (fun z9 g11 p10 => ?_)
  obtain ⟨u13, eu13, u13p, J12⟩ := p10
  cases eu13
  obtain ⟨v14, rfl⟩ := u13p
  refine ex_istore ok_X12_offer (mi 32 rfl) ?_
  refine ex_vret ok_X12_offer (mi 33 rfl) rfl ?_
  exact ⟨_, rfl, rfl, J12⟩
theorem s_X12_lead {G : GE} (hst : (ge_l G).stackTraces = false) {y c : Nat} {D : UT} {R : Nat → Prop} {g : GT} (I : MI y D c R g) {a0 : Nat} (ha0 : a0 < 3) (hR : R a0) : ex_M G 4 0 0 my_X12_lead [.ref y, .int (nI (a0))] g (SM y D c R pN) := by
  refine ex_M_of ok_X12_lead cw_X12_lead rfl hst (Nat.le_of_ble_eq_true rfl) ?_
  refine ex_aload_n ok_X12_lead (mi 0 rfl) rfl ?_
  refine ex_getRx ok_X12_lead (mi 1 rfl) rfl rfl (fk (MI_s I) 0 rfl) (fr (MI_s I) 1 rfl) (fk (MI_s I) 2 rfl) (by decide) ?_
  refine ex_iload_n ok_X12_lead (mi 2 rfl) rfl ?_
  refine ex_iconst ok_X12_lead (mi 3 rfl) ?_
  refine mf_ph I ok_X12_lead (mi 4 rfl) (fk (MI_s I) 2 rfl) (fn (MI_s I) 2 rfl) rfl (by omega) (Or.inr hR) (fun g1 J2 K3 => ?_)
  refine ex_iconst ok_X12_lead (mi 5 rfl) ?_
  refine ex_istore_n ok_X12_lead (mi 6 rfl) ?_
  refine ex_iconst ok_X12_lead (mi 7 rfl) ?_
  refine ex_istore_n ok_X12_lead (mi 8 rfl) ?_
  have lp11 : ∀ n11 k11 : Nat, k11 + n11 = 16 → ∀ (q4 : Nat) (hq4 : q4 < 17) (g5 : GT), MI y D c R g5 → ex_W G 4 0 0 M_X12_lead 11 [(0, .ref y), (1, .int (nI (a0))), (2, .int (nI (q4))), (3, .int (nI (k11)))] [] g5 (SM y D c R pN) := by
    intro n11
    induction n11 with
    | zero =>
      intro k11 he11 q4 hq4 g5 J6 
      obtain rfl : k11 = 16 := by omega
      refine ex_iload_n ok_X12_lead (mi 9 rfl) rfl ?_
      refine ex_bipush ok_X12_lead (mi 10 rfl) ?_
      refine ex_icmp_ge (tgt := 46) ok_X12_lead (mi 11 rfl) rfl (fun _ => ?_) (fun hn => absurd (by decide) hn)
      refine ex_aload_n ok_X12_lead (mi 30 rfl) rfl ?_
      refine ex_getRx ok_X12_lead (mi 31 rfl) rfl rfl (fk (MI_s J6) 0 rfl) (fr (MI_s J6) 13 rfl) (fk (MI_s J6) 14 rfl) (by decide) ?_
      refine ex_iload_n ok_X12_lead (mi 32 rfl) rfl ?_
      refine ex_iload_n ok_X12_lead (mi 33 rfl) rfl ?_
      refine ex_aload_n ok_X12_lead (mi 34 rfl) rfl ?_
      refine ex_getRx ok_X12_lead (mi 35 rfl) rfl rfl (fk (MI_s J6) 0 rfl) (fr (MI_s J6) 10 rfl) (fk (MI_s J6) 11 rfl) (by decide) ?_
      refine ex_iload_n ok_X12_lead (mi 36 rfl) rfl ?_
      refine sm_iald ok_X12_lead (mi 37 rfl) (fk (MI_s J6) 11 rfl) (fn (MI_s J6) 11 rfl) rfl (by omega) (by decide) ?_
      obtain ⟨v7, hv7, ev7⟩ := vp_in_of (n := 17) (MI_bd J6 2 rfl (i := a0) (by omega)) (by decide)
      refine ex_top (w := nI v7) ev7 ?_
      refine ex_icmp_le (tgt := 65) ok_X12_lead (mi 38 rfl) rfl (fun h58 => ?_) (fun h58 => ?_)
      · skip
        refine ex_aload_n ok_X12_lead (mi 41 rfl) rfl ?_
        refine ex_getRx ok_X12_lead (mi 42 rfl) rfl rfl (fk (MI_s J6) 0 rfl) (fr (MI_s J6) 10 rfl) (fk (MI_s J6) 11 rfl) (by decide) ?_
        refine ex_iload_n ok_X12_lead (mi 43 rfl) rfl ?_
        refine sm_iald ok_X12_lead (mi 44 rfl) (fk (MI_s J6) 11 rfl) (fn (MI_s J6) 11 rfl) rfl (by omega) (by decide) ?_
        refine ex_top (w := nI v7) ev7 ?_
        refine mf_B J6 ok_X12_lead (mi 45 rfl) (fk (MI_s J6) 14 rfl) (fn (MI_s J6) 14 rfl) rfl (by omega) (by decide) (B := 17) (by decide) (by decide) (by decide) (vp_in_nI (N := 17) (by omega) (by decide)) (fun g8 J9 K10 => ?_)
        refine ex_aload_n ok_X12_lead (mi 46 rfl) rfl ?_
        refine ex_getRx ok_X12_lead (mi 47 rfl) rfl rfl (fk (MI_s J9) 0 rfl) (fr (MI_s J9) 14 rfl) (fk (MI_s J9) 15 rfl) (by decide) ?_
        refine ex_iload_n ok_X12_lead (mi 48 rfl) rfl ?_
        refine ex_aload_n ok_X12_lead (mi 49 rfl) rfl ?_
        refine ex_getRx ok_X12_lead (mi 50 rfl) rfl rfl (fk (MI_s J9) 0 rfl) (fr (MI_s J9) 13 rfl) (fk (MI_s J9) 14 rfl) (by decide) ?_
        refine ex_iload_n ok_X12_lead (mi 51 rfl) rfl ?_
        refine sm_iald ok_X12_lead (mi 52 rfl) (fk (MI_s J9) 14 rfl) (fn (MI_s J9) 14 rfl) rfl (by omega) (by decide) ?_
        obtain ⟨v11, hv11, ev11⟩ := vp_in_of (n := 17) (MI_bd J9 3 rfl (i := a0) (by omega)) (by decide)
        refine ex_top (w := nI v11) ev11 ?_
        refine mf_B J9 ok_X12_lead (mi 53 rfl) (fk (MI_s J9) 15 rfl) (fn (MI_s J9) 15 rfl) rfl (by omega) (by decide) (B := 17) (by decide) (by decide) (by decide) (vp_in_nI (N := 17) (by omega) (by decide)) (fun g12 J13 K14 => ?_)
        refine ex_iconst ok_X12_lead (mi 54 rfl) ?_
        refine ex_istore_n ok_X12_lead (mi 55 rfl) ?_
        have lp86 : ∀ n86 k86 : Nat, k86 + n86 = 16 → ∀ (g15 : GT), MI y D c R g15 → ex_W G 4 0 0 M_X12_lead 86 [(0, .ref y), (1, .int (nI (a0))), (2, .int (nI (q4))), (3, .int (nI (k86)))] [] g15 (SM y D c R pN) := by
          intro n86
          induction n86 with
          | zero =>
            intro k86 he86  g15 J16 
            obtain rfl : k86 = 16 := by omega
            refine ex_iload_n ok_X12_lead (mi 56 rfl) rfl ?_
            refine ex_aload_n ok_X12_lead (mi 57 rfl) rfl ?_
            refine ex_getRx ok_X12_lead (mi 58 rfl) rfl rfl (fk (MI_s J16) 0 rfl) (fr (MI_s J16) 13 rfl) (fk (MI_s J16) 14 rfl) (by decide) ?_
            refine ex_iload_n ok_X12_lead (mi 59 rfl) rfl ?_
            refine sm_iald ok_X12_lead (mi 60 rfl) (fk (MI_s J16) 14 rfl) (fn (MI_s J16) 14 rfl) rfl (by omega) (by decide) ?_
            obtain ⟨v17, hv17, ev17⟩ := vp_in_of (n := 17) (MI_bd J16 3 rfl (i := a0) (by omega)) (by decide)
            refine ex_top (w := nI v17) ev17 ?_
            refine ex_icmp_ge (tgt := 163) ok_X12_lead (mi 61 rfl) rfl (fun _ => ?_) (fun hn => absurd (nI_le (b := 16) (a := v17) (by omega) (by omega)) hn)
            refine ex_vret ok_X12_lead (mi 104 rfl) rfl ?_
            exact ⟨_, rfl, rfl, J16⟩
          | succ n86 ih86 =>
            intro k86 he86  g15 J16 
            have hr86 : k86 < 16 := by omega
            refine ex_iload_n ok_X12_lead (mi 56 rfl) rfl ?_
            refine ex_aload_n ok_X12_lead (mi 57 rfl) rfl ?_
            refine ex_getRx ok_X12_lead (mi 58 rfl) rfl rfl (fk (MI_s J16) 0 rfl) (fr (MI_s J16) 13 rfl) (fk (MI_s J16) 14 rfl) (by decide) ?_
            refine ex_iload_n ok_X12_lead (mi 59 rfl) rfl ?_
            refine sm_iald ok_X12_lead (mi 60 rfl) (fk (MI_s J16) 14 rfl) (fn (MI_s J16) 14 rfl) rfl (by omega) (by decide) ?_
            obtain ⟨v18, hv18, ev18⟩ := vp_in_of (n := 17) (MI_bd J16 3 rfl (i := a0) (by omega)) (by decide)
            refine ex_top (w := nI v18) ev18 ?_
            refine ex_icmp_ge (tgt := 163) ok_X12_lead (mi 61 rfl) rfl (fun h93 => ?_) (fun h93 => ?_)
            · skip
              refine ex_vret ok_X12_lead (mi 104 rfl) rfl ?_
              exact ⟨_, rfl, rfl, J16⟩
            · skip
              have l93 : k86 < v18 := Nat.lt_of_not_le (fun q => h93 (nI_le q (by omega)))
              refine ex_iload_n ok_X12_lead (mi 62 rfl) rfl ?_
              refine ex_aload_n ok_X12_lead (mi 63 rfl) rfl ?_
              refine ex_getRx ok_X12_lead (mi 64 rfl) rfl rfl (fk (MI_s J16) 0 rfl) (fr (MI_s J16) 10 rfl) (fk (MI_s J16) 11 rfl) (by decide) ?_
              refine ex_iload_n ok_X12_lead (mi 65 rfl) rfl ?_
              refine sm_iald ok_X12_lead (mi 66 rfl) (fk (MI_s J16) 11 rfl) (fn (MI_s J16) 11 rfl) rfl (by omega) (by decide) ?_
              obtain ⟨v19, hv19, ev19⟩ := vp_in_of (n := 17) (MI_bd J16 2 rfl (i := a0) (by omega)) (by decide)
              refine ex_top (w := nI v19) ev19 ?_
              refine ex_icmp_ge (tgt := 121) ok_X12_lead (mi 67 rfl) rfl (fun h103 => ?_) (fun h103 => ?_)
              · skip
                refine ex_aload_n ok_X12_lead (mi 78 rfl) rfl ?_
                refine ex_iload_n ok_X12_lead (mi 79 rfl) rfl ?_
                refine ex_iload_n ok_X12_lead (mi 80 rfl) rfl ?_
                refine ex_aload_n ok_X12_lead (mi 81 rfl) rfl ?_
                refine ex_getRx ok_X12_lead (mi 82 rfl) rfl rfl (fk (MI_s J16) 0 rfl) (fr (MI_s J16) 11 rfl) (fk (MI_s J16) 12 rfl) (by decide) ?_
                refine ex_bipush ok_X12_lead (mi 83 rfl) ?_
                refine ex_iload_n ok_X12_lead (mi 84 rfl) rfl ?_
                refine ex_imul ok_X12_lead (mi 85 rfl) ?_
                refine ex_top (w := (nI (16 * a0))) (nI_mulc rfl) ?_
                refine ex_iload_n ok_X12_lead (mi 86 rfl) rfl ?_
                refine ex_iadd ok_X12_lead (mi 87 rfl) ?_
                refine ex_top (w := (nI (16 * a0 + k86))) (nI_add _ _) ?_
                refine sm_iald ok_X12_lead (mi 88 rfl) (fk (MI_s J16) 12 rfl) (fn (MI_s J16) 12 rfl) rfl (by omega) (by decide) ?_
                refine ex_gen (fun w20 => ?_)
                refine ex_iconst ok_X12_lead (mi 89 rfl) ?_
                refine ex_icmp_eq (tgt := 153) ok_X12_lead (mi 90 rfl) rfl (fun h136 => ?_) (fun h136 => ?_)
                · skip
                  refine ex_iconst ok_X12_lead (mi 100 rfl) ?_
                  refine sm_V (As := [_, _, _]) ok_X12_lead (mi 101 rfl) rfl (s_X12_offer hst J16 (by omega) (by omega) hR) rfl (fk (MI_s J16) 0 rfl) rfl rfl (by decide) (by decide) (Nat.le_of_ble_eq_true rfl) (by decide) SM_no (fun z21 g23 p22 => ?_)
                  obtain ⟨u25, eu25, u25p, J24⟩ := p22
                  cases eu25
                  obtain rfl : z21 = none := u25p
                  refine ex_iincx (w := (nI (k86 + 1))) ok_X12_lead (mi 102 rfl) rfl (nI_1 _) ?_
                  refine ex_goto (tgt := 86) ok_X12_lead (mi 103 rfl) rfl ?_
                  exact ex_ls (ls' := [(0, .ref y), (1, .int (nI (a0))), (2, .int (nI (q4))), (3, .int (nI (k86 + 1)))]) ⟨rfl, rfl, rfl, rfl, trivial⟩ (ih86 (k86 + 1) (by omega) g23 J24 )
                · skip
                  refine ex_aload_n ok_X12_lead (mi 91 rfl) rfl ?_
                  refine ex_getRx ok_X12_lead (mi 92 rfl) rfl rfl (fk (MI_s J16) 0 rfl) (fr (MI_s J16) 12 rfl) (fk (MI_s J16) 13 rfl) (by decide) ?_
                  refine ex_bipush ok_X12_lead (mi 93 rfl) ?_
                  refine ex_iload_n ok_X12_lead (mi 94 rfl) rfl ?_
                  refine ex_imul ok_X12_lead (mi 95 rfl) ?_
                  refine ex_top (w := (nI (16 * a0))) (nI_mulc rfl) ?_
                  refine ex_iload_n ok_X12_lead (mi 96 rfl) rfl ?_
                  refine ex_iadd ok_X12_lead (mi 97 rfl) ?_
                  refine ex_top (w := (nI (16 * a0 + k86))) (nI_add _ _) ?_
                  refine sm_iald ok_X12_lead (mi 98 rfl) (fk (MI_s J16) 13 rfl) (fn (MI_s J16) 13 rfl) rfl (by omega) (by decide) ?_
                  refine ex_gen (fun w26 => ?_)
                  refine ex_goto (tgt := 154) ok_X12_lead (mi 99 rfl) rfl ?_
                  refine sm_V (As := [_, _, _]) ok_X12_lead (mi 101 rfl) rfl (s_X12_offer hst J16 (by omega) (by omega) hR) rfl (fk (MI_s J16) 0 rfl) rfl rfl (by decide) (by decide) (Nat.le_of_ble_eq_true rfl) (by decide) SM_no (fun z27 g29 p28 => ?_)
                  obtain ⟨u31, eu31, u31p, J30⟩ := p28
                  cases eu31
                  obtain rfl : z27 = none := u31p
                  refine ex_iincx (w := (nI (k86 + 1))) ok_X12_lead (mi 102 rfl) rfl (nI_1 _) ?_
                  refine ex_goto (tgt := 86) ok_X12_lead (mi 103 rfl) rfl ?_
                  exact ex_ls (ls' := [(0, .ref y), (1, .int (nI (a0))), (2, .int (nI (q4))), (3, .int (nI (k86 + 1)))]) ⟨rfl, rfl, rfl, rfl, trivial⟩ (ih86 (k86 + 1) (by omega) g29 J30 )
              · skip
                have l103 : k86 < v19 := Nat.lt_of_not_le (fun q => h103 (nI_le q (by omega)))
                refine ex_aload_n ok_X12_lead (mi 68 rfl) rfl ?_
                refine ex_getRx ok_X12_lead (mi 69 rfl) rfl rfl (fk (MI_s J16) 0 rfl) (fr (MI_s J16) 15 rfl) (fk (MI_s J16) 16 rfl) (by decide) ?_
                refine ex_bipush ok_X12_lead (mi 70 rfl) ?_
                refine ex_iload_n ok_X12_lead (mi 71 rfl) rfl ?_
                refine ex_imul ok_X12_lead (mi 72 rfl) ?_
                refine ex_top (w := (nI (16 * a0))) (nI_mulc rfl) ?_
                refine ex_iload_n ok_X12_lead (mi 73 rfl) rfl ?_
                refine ex_iadd ok_X12_lead (mi 74 rfl) ?_
                refine ex_top (w := (nI (16 * a0 + k86))) (nI_add _ _) ?_
                refine ex_iconst ok_X12_lead (mi 75 rfl) ?_
                refine mf_A J16 ok_X12_lead (mi 76 rfl) (fk (MI_s J16) 16 rfl) (fn (MI_s J16) 16 rfl) rfl (by omega) (by decide) (by decide) (by decide) (by decide) (fun g32 J33 K34 => ?_)
                refine ex_goto (tgt := 157) ok_X12_lead (mi 77 rfl) rfl ?_
                refine ex_iincx (w := (nI (k86 + 1))) ok_X12_lead (mi 102 rfl) rfl (nI_1 _) ?_
                refine ex_goto (tgt := 86) ok_X12_lead (mi 103 rfl) rfl ?_
                exact ex_ls (ls' := [(0, .ref y), (1, .int (nI (a0))), (2, .int (nI (q4))), (3, .int (nI (k86 + 1)))]) ⟨rfl, rfl, rfl, rfl, trivial⟩ (ih86 (k86 + 1) (by omega) g32 J33 )
        exact ex_ls (ls' := [(0, .ref y), (1, .int (nI (a0))), (2, .int (nI (q4))), (3, .int (nI 0))]) ⟨rfl, rfl, rfl, rfl, trivial⟩ (lp86 (16 - 0) (0) (by omega) g12 J13 )
      · skip
        refine ex_iload_n ok_X12_lead (mi 39 rfl) rfl ?_
        refine ex_goto (tgt := 71) ok_X12_lead (mi 40 rfl) rfl ?_
        refine mf_B J6 ok_X12_lead (mi 45 rfl) (fk (MI_s J6) 14 rfl) (fn (MI_s J6) 14 rfl) rfl (by omega) (by decide) (B := 17) (by decide) (by decide) (by decide) (vp_in_nI (N := 17) (by omega) (by decide)) (fun g35 J36 K37 => ?_)
        refine ex_aload_n ok_X12_lead (mi 46 rfl) rfl ?_
        refine ex_getRx ok_X12_lead (mi 47 rfl) rfl rfl (fk (MI_s J36) 0 rfl) (fr (MI_s J36) 14 rfl) (fk (MI_s J36) 15 rfl) (by decide) ?_
        refine ex_iload_n ok_X12_lead (mi 48 rfl) rfl ?_
        refine ex_aload_n ok_X12_lead (mi 49 rfl) rfl ?_
        refine ex_getRx ok_X12_lead (mi 50 rfl) rfl rfl (fk (MI_s J36) 0 rfl) (fr (MI_s J36) 13 rfl) (fk (MI_s J36) 14 rfl) (by decide) ?_
        refine ex_iload_n ok_X12_lead (mi 51 rfl) rfl ?_
        refine sm_iald ok_X12_lead (mi 52 rfl) (fk (MI_s J36) 14 rfl) (fn (MI_s J36) 14 rfl) rfl (by omega) (by decide) ?_
        obtain ⟨v38, hv38, ev38⟩ := vp_in_of (n := 17) (MI_bd J36 3 rfl (i := a0) (by omega)) (by decide)
        refine ex_top (w := nI v38) ev38 ?_
        refine mf_B J36 ok_X12_lead (mi 53 rfl) (fk (MI_s J36) 15 rfl) (fn (MI_s J36) 15 rfl) rfl (by omega) (by decide) (B := 17) (by decide) (by decide) (by decide) (vp_in_nI (N := 17) (by omega) (by decide)) (fun g39 J40 K41 => ?_)
        refine ex_iconst ok_X12_lead (mi 54 rfl) ?_
        refine ex_istore_n ok_X12_lead (mi 55 rfl) ?_
        have lp86 : ∀ n86 k86 : Nat, k86 + n86 = 16 → ∀ (g42 : GT), MI y D c R g42 → ex_W G 4 0 0 M_X12_lead 86 [(0, .ref y), (1, .int (nI (a0))), (2, .int (nI (q4))), (3, .int (nI (k86)))] [] g42 (SM y D c R pN) := by
          intro n86
          induction n86 with
          | zero =>
            intro k86 he86  g42 J43 
            obtain rfl : k86 = 16 := by omega
            refine ex_iload_n ok_X12_lead (mi 56 rfl) rfl ?_
            refine ex_aload_n ok_X12_lead (mi 57 rfl) rfl ?_
            refine ex_getRx ok_X12_lead (mi 58 rfl) rfl rfl (fk (MI_s J43) 0 rfl) (fr (MI_s J43) 13 rfl) (fk (MI_s J43) 14 rfl) (by decide) ?_
            refine ex_iload_n ok_X12_lead (mi 59 rfl) rfl ?_
            refine sm_iald ok_X12_lead (mi 60 rfl) (fk (MI_s J43) 14 rfl) (fn (MI_s J43) 14 rfl) rfl (by omega) (by decide) ?_
            obtain ⟨v44, hv44, ev44⟩ := vp_in_of (n := 17) (MI_bd J43 3 rfl (i := a0) (by omega)) (by decide)
            refine ex_top (w := nI v44) ev44 ?_
            refine ex_icmp_ge (tgt := 163) ok_X12_lead (mi 61 rfl) rfl (fun _ => ?_) (fun hn => absurd (nI_le (b := 16) (a := v44) (by omega) (by omega)) hn)
            refine ex_vret ok_X12_lead (mi 104 rfl) rfl ?_
            exact ⟨_, rfl, rfl, J43⟩
          | succ n86 ih86 =>
            intro k86 he86  g42 J43 
            have hr86 : k86 < 16 := by omega
            refine ex_iload_n ok_X12_lead (mi 56 rfl) rfl ?_
            refine ex_aload_n ok_X12_lead (mi 57 rfl) rfl ?_
            refine ex_getRx ok_X12_lead (mi 58 rfl) rfl rfl (fk (MI_s J43) 0 rfl) (fr (MI_s J43) 13 rfl) (fk (MI_s J43) 14 rfl) (by decide) ?_
            refine ex_iload_n ok_X12_lead (mi 59 rfl) rfl ?_
            refine sm_iald ok_X12_lead (mi 60 rfl) (fk (MI_s J43) 14 rfl) (fn (MI_s J43) 14 rfl) rfl (by omega) (by decide) ?_
            obtain ⟨v45, hv45, ev45⟩ := vp_in_of (n := 17) (MI_bd J43 3 rfl (i := a0) (by omega)) (by decide)
            refine ex_top (w := nI v45) ev45 ?_
            refine ex_icmp_ge (tgt := 163) ok_X12_lead (mi 61 rfl) rfl (fun h93 => ?_) (fun h93 => ?_)
            · skip
              refine ex_vret ok_X12_lead (mi 104 rfl) rfl ?_
              exact ⟨_, rfl, rfl, J43⟩
            · skip
              have l93 : k86 < v45 := Nat.lt_of_not_le (fun q => h93 (nI_le q (by omega)))
              refine ex_iload_n ok_X12_lead (mi 62 rfl) rfl ?_
              refine ex_aload_n ok_X12_lead (mi 63 rfl) rfl ?_
              refine ex_getRx ok_X12_lead (mi 64 rfl) rfl rfl (fk (MI_s J43) 0 rfl) (fr (MI_s J43) 10 rfl) (fk (MI_s J43) 11 rfl) (by decide) ?_
              refine ex_iload_n ok_X12_lead (mi 65 rfl) rfl ?_
              refine sm_iald ok_X12_lead (mi 66 rfl) (fk (MI_s J43) 11 rfl) (fn (MI_s J43) 11 rfl) rfl (by omega) (by decide) ?_
              obtain ⟨v46, hv46, ev46⟩ := vp_in_of (n := 17) (MI_bd J43 2 rfl (i := a0) (by omega)) (by decide)
              refine ex_top (w := nI v46) ev46 ?_
              refine ex_icmp_ge (tgt := 121) ok_X12_lead (mi 67 rfl) rfl (fun h103 => ?_) (fun h103 => ?_)
              · skip
                refine ex_aload_n ok_X12_lead (mi 78 rfl) rfl ?_
                refine ex_iload_n ok_X12_lead (mi 79 rfl) rfl ?_
                refine ex_iload_n ok_X12_lead (mi 80 rfl) rfl ?_
                refine ex_aload_n ok_X12_lead (mi 81 rfl) rfl ?_
                refine ex_getRx ok_X12_lead (mi 82 rfl) rfl rfl (fk (MI_s J43) 0 rfl) (fr (MI_s J43) 11 rfl) (fk (MI_s J43) 12 rfl) (by decide) ?_
                refine ex_bipush ok_X12_lead (mi 83 rfl) ?_
                refine ex_iload_n ok_X12_lead (mi 84 rfl) rfl ?_
                refine ex_imul ok_X12_lead (mi 85 rfl) ?_
                refine ex_top (w := (nI (16 * a0))) (nI_mulc rfl) ?_
                refine ex_iload_n ok_X12_lead (mi 86 rfl) rfl ?_
                refine ex_iadd ok_X12_lead (mi 87 rfl) ?_
                refine ex_top (w := (nI (16 * a0 + k86))) (nI_add _ _) ?_
                refine sm_iald ok_X12_lead (mi 88 rfl) (fk (MI_s J43) 12 rfl) (fn (MI_s J43) 12 rfl) rfl (by omega) (by decide) ?_
                refine ex_gen (fun w47 => ?_)
                refine ex_iconst ok_X12_lead (mi 89 rfl) ?_
                refine ex_icmp_eq (tgt := 153) ok_X12_lead (mi 90 rfl) rfl (fun h136 => ?_) (fun h136 => ?_)
                · skip
                  refine ex_iconst ok_X12_lead (mi 100 rfl) ?_
                  refine sm_V (As := [_, _, _]) ok_X12_lead (mi 101 rfl) rfl (s_X12_offer hst J43 (by omega) (by omega) hR) rfl (fk (MI_s J43) 0 rfl) rfl rfl (by decide) (by decide) (Nat.le_of_ble_eq_true rfl) (by decide) SM_no (fun z48 g50 p49 => ?_)
                  obtain ⟨u52, eu52, u52p, J51⟩ := p49
                  cases eu52
                  obtain rfl : z48 = none := u52p
                  refine ex_iincx (w := (nI (k86 + 1))) ok_X12_lead (mi 102 rfl) rfl (nI_1 _) ?_
                  refine ex_goto (tgt := 86) ok_X12_lead (mi 103 rfl) rfl ?_
                  exact ex_ls (ls' := [(0, .ref y), (1, .int (nI (a0))), (2, .int (nI (q4))), (3, .int (nI (k86 + 1)))]) ⟨rfl, rfl, rfl, rfl, trivial⟩ (ih86 (k86 + 1) (by omega) g50 J51 )
                · skip
                  refine ex_aload_n ok_X12_lead (mi 91 rfl) rfl ?_
                  refine ex_getRx ok_X12_lead (mi 92 rfl) rfl rfl (fk (MI_s J43) 0 rfl) (fr (MI_s J43) 12 rfl) (fk (MI_s J43) 13 rfl) (by decide) ?_
                  refine ex_bipush ok_X12_lead (mi 93 rfl) ?_
                  refine ex_iload_n ok_X12_lead (mi 94 rfl) rfl ?_
                  refine ex_imul ok_X12_lead (mi 95 rfl) ?_
                  refine ex_top (w := (nI (16 * a0))) (nI_mulc rfl) ?_
                  refine ex_iload_n ok_X12_lead (mi 96 rfl) rfl ?_
                  refine ex_iadd ok_X12_lead (mi 97 rfl) ?_
                  refine ex_top (w := (nI (16 * a0 + k86))) (nI_add _ _) ?_
                  refine sm_iald ok_X12_lead (mi 98 rfl) (fk (MI_s J43) 13 rfl) (fn (MI_s J43) 13 rfl) rfl (by omega) (by decide) ?_
                  refine ex_gen (fun w53 => ?_)
                  refine ex_goto (tgt := 154) ok_X12_lead (mi 99 rfl) rfl ?_
                  refine sm_V (As := [_, _, _]) ok_X12_lead (mi 101 rfl) rfl (s_X12_offer hst J43 (by omega) (by omega) hR) rfl (fk (MI_s J43) 0 rfl) rfl rfl (by decide) (by decide) (Nat.le_of_ble_eq_true rfl) (by decide) SM_no (fun z54 g56 p55 => ?_)
                  obtain ⟨u58, eu58, u58p, J57⟩ := p55
                  cases eu58
                  obtain rfl : z54 = none := u58p
                  refine ex_iincx (w := (nI (k86 + 1))) ok_X12_lead (mi 102 rfl) rfl (nI_1 _) ?_
                  refine ex_goto (tgt := 86) ok_X12_lead (mi 103 rfl) rfl ?_
                  exact ex_ls (ls' := [(0, .ref y), (1, .int (nI (a0))), (2, .int (nI (q4))), (3, .int (nI (k86 + 1)))]) ⟨rfl, rfl, rfl, rfl, trivial⟩ (ih86 (k86 + 1) (by omega) g56 J57 )
              · skip
                have l103 : k86 < v46 := Nat.lt_of_not_le (fun q => h103 (nI_le q (by omega)))
                refine ex_aload_n ok_X12_lead (mi 68 rfl) rfl ?_
                refine ex_getRx ok_X12_lead (mi 69 rfl) rfl rfl (fk (MI_s J43) 0 rfl) (fr (MI_s J43) 15 rfl) (fk (MI_s J43) 16 rfl) (by decide) ?_
                refine ex_bipush ok_X12_lead (mi 70 rfl) ?_
                refine ex_iload_n ok_X12_lead (mi 71 rfl) rfl ?_
                refine ex_imul ok_X12_lead (mi 72 rfl) ?_
                refine ex_top (w := (nI (16 * a0))) (nI_mulc rfl) ?_
                refine ex_iload_n ok_X12_lead (mi 73 rfl) rfl ?_
                refine ex_iadd ok_X12_lead (mi 74 rfl) ?_
                refine ex_top (w := (nI (16 * a0 + k86))) (nI_add _ _) ?_
                refine ex_iconst ok_X12_lead (mi 75 rfl) ?_
                refine mf_A J43 ok_X12_lead (mi 76 rfl) (fk (MI_s J43) 16 rfl) (fn (MI_s J43) 16 rfl) rfl (by omega) (by decide) (by decide) (by decide) (by decide) (fun g59 J60 K61 => ?_)
                refine ex_goto (tgt := 157) ok_X12_lead (mi 77 rfl) rfl ?_
                refine ex_iincx (w := (nI (k86 + 1))) ok_X12_lead (mi 102 rfl) rfl (nI_1 _) ?_
                refine ex_goto (tgt := 86) ok_X12_lead (mi 103 rfl) rfl ?_
                exact ex_ls (ls' := [(0, .ref y), (1, .int (nI (a0))), (2, .int (nI (q4))), (3, .int (nI (k86 + 1)))]) ⟨rfl, rfl, rfl, rfl, trivial⟩ (ih86 (k86 + 1) (by omega) g59 J60 )
        exact ex_ls (ls' := [(0, .ref y), (1, .int (nI (a0))), (2, .int (nI (q4))), (3, .int (nI 0))]) ⟨rfl, rfl, rfl, rfl, trivial⟩ (lp86 (16 - 0) (0) (by omega) g39 J40 )
    | succ n11 ih11 =>
      intro k11 he11 q4 hq4 g5 J6 
      have hr11 : k11 < 16 := by omega
      refine ex_iload_n ok_X12_lead (mi 9 rfl) rfl ?_
      refine ex_bipush ok_X12_lead (mi 10 rfl) ?_
      refine ex_icmp_ge (tgt := 46) ok_X12_lead (mi 11 rfl) rfl (fun hn => absurd hn (nI_ge (b := 16) hr11 (by decide))) (fun _ => ?_)
      refine ex_aload_n ok_X12_lead (mi 12 rfl) rfl ?_
      refine ex_getRx ok_X12_lead (mi 13 rfl) rfl rfl (fk (MI_s J6) 0 rfl) (fr (MI_s J6) 11 rfl) (fk (MI_s J6) 12 rfl) (by decide) ?_
      refine ex_bipush ok_X12_lead (mi 14 rfl) ?_
      refine ex_iload_n ok_X12_lead (mi 15 rfl) rfl ?_
      refine ex_imul ok_X12_lead (mi 16 rfl) ?_
      refine ex_top (w := (nI (16 * a0))) (nI_mulc rfl) ?_
      refine ex_iload_n ok_X12_lead (mi 17 rfl) rfl ?_
      refine ex_iadd ok_X12_lead (mi 18 rfl) ?_
      refine ex_top (w := (nI (16 * a0 + k11))) (nI_add _ _) ?_
      refine sm_iald ok_X12_lead (mi 19 rfl) (fk (MI_s J6) 12 rfl) (fn (MI_s J6) 12 rfl) rfl (by omega) (by decide) ?_
      refine ex_gen (fun w62 => ?_)
      refine ex_iconst ok_X12_lead (mi 20 rfl) ?_
      refine ex_icmp_eq (tgt := 38) ok_X12_lead (mi 21 rfl) rfl (fun h29 => ?_) (fun h29 => ?_)
      · skip
        refine ex_iload_n ok_X12_lead (mi 26 rfl) rfl ?_
        refine ex_istore_n ok_X12_lead (mi 27 rfl) ?_
        refine ex_iincx (w := (nI (k11 + 1))) ok_X12_lead (mi 28 rfl) rfl (nI_1 _) ?_
        refine ex_goto (tgt := 11) ok_X12_lead (mi 29 rfl) rfl ?_
        exact ex_ls (ls' := [(0, .ref y), (1, .int (nI (a0))), (2, .int (nI (q4))), (3, .int (nI (k11 + 1)))]) ⟨rfl, rfl, rfl, rfl, trivial⟩ (ih11 (k11 + 1) (by omega) (q4) (by omega) g5 J6 )
      · skip
        refine ex_iload_n ok_X12_lead (mi 22 rfl) rfl ?_
        refine ex_iconst ok_X12_lead (mi 23 rfl) ?_
        refine ex_iadd ok_X12_lead (mi 24 rfl) ?_
        refine ex_top (w := (nI (k11 + 1))) (nI_add _ 1) ?_
        refine ex_goto (tgt := 39) ok_X12_lead (mi 25 rfl) rfl ?_
        refine ex_istore_n ok_X12_lead (mi 27 rfl) ?_
        refine ex_iincx (w := (nI (k11 + 1))) ok_X12_lead (mi 28 rfl) rfl (nI_1 _) ?_
        refine ex_goto (tgt := 11) ok_X12_lead (mi 29 rfl) rfl ?_
        exact ex_ls (ls' := [(0, .ref y), (1, .int (nI (a0))), (2, .int (nI (k11 + 1))), (3, .int (nI (k11 + 1)))]) ⟨rfl, rfl, rfl, rfl, trivial⟩ (ih11 (k11 + 1) (by omega) (k11 + 1) (by omega) g5 J6 )
  exact ex_ls (ls' := [(0, .ref y), (1, .int (nI (a0))), (2, .int (nI 0)), (3, .int (nI 0))]) ⟨rfl, rfl, rfl, rfl, trivial⟩ (lp11 (16 - 0) (0) (by omega) (0) (by omega) g1 J2 )
