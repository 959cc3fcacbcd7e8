theorem s_X12_matched {G : GE} (hst : (ge_l G).stackTraces = false) {y c : Nat} {D : UT} {R : Nat → Prop} {g : GT} (I : MI y D c R g) {a0 : Nat} (ha0 : a0 < 3) {a1 : Nat} (ha1 : a1 < 402) {m : Nat} (hmk : MK y g a1 2 m) : ex_M G 5 0 0 my_X12_matched [.ref y, .int (nI (a0)), .int (nI (a1))] g (SM y D c R pN) := by
  refine ex_M_of ok_X12_matched cw_X12_matched rfl hst (Nat.le_of_ble_eq_true rfl) ?_
  have hm3 : m < 301 := hmk.2.2.2.2.2.2.2.1
  refine ex_aload_n ok_X12_matched (mi 0 rfl) rfl ?_
  refine ex_getRx ok_X12_matched (mi 1 rfl) rfl rfl (fk (MI_s I) 0 rfl) (fr (MI_s I) 1 rfl) (fk (MI_s I) 2 rfl) (by decide) ?_
  refine ex_iload_n ok_X12_matched (mi 2 rfl) rfl ?_
  refine sm_iald ok_X12_matched (mi 3 rfl) (fk (MI_s I) 2 rfl) (fn (MI_s I) 2 rfl) rfl (by omega) (by decide) ?_
  refine ex_iconst ok_X12_matched (mi 4 rfl) ?_
  refine ex_icmp_ne (tgt := 46) ok_X12_matched (mi 5 rfl) rfl (fun h7 => ?_) (fun h7 => ?_)
  · skip
    refine ex_vret ok_X12_matched (mi 30 rfl) rfl ?_
    exact ⟨_, rfl, rfl, I⟩
  · skip
    have J1 := MI_Ra (l := a0) I (by rw [h7]; decide)
    refine ex_aload_n ok_X12_matched (mi 6 rfl) rfl ?_
    refine ex_getRx ok_X12_matched (mi 7 rfl) rfl rfl (fk (MI_s J1) 0 rfl) (fr (MI_s J1) 52 rfl) (fk (MI_s J1) 53 rfl) (by decide) ?_
    refine ex_iconst ok_X12_matched (mi 8 rfl) ?_
    refine ex_iload_n ok_X12_matched (mi 9 rfl) rfl ?_
    refine ex_imul ok_X12_matched (mi 10 rfl) ?_
    refine ex_top (w := (nI (3 * a1))) (nI_mulc rfl) ?_
    refine ex_iconst ok_X12_matched (mi 11 rfl) ?_
    refine ex_iadd ok_X12_matched (mi 12 rfl) ?_
    refine ex_top (w := (nI (3 * a1 + 1))) (nI_add _ 1) ?_
    refine sm_iald ok_X12_matched (mi 13 rfl) (fk (MI_s J1) 53 rfl) (fn (MI_s J1) 53 rfl) rfl (by omega) (by decide) ?_
    refine ex_gen (fun w2 => ?_)
    refine ex_aload_n ok_X12_matched (mi 14 rfl) rfl ?_
    refine ex_getRx ok_X12_matched (mi 15 rfl) rfl rfl (fk (MI_s J1) 0 rfl) (fr (MI_s J1) 2 rfl) (fk (MI_s J1) 3 rfl) (by decide) ?_
    refine ex_iload_n ok_X12_matched (mi 16 rfl) rfl ?_
    refine sm_iald ok_X12_matched (mi 17 rfl) (fk (MI_s J1) 3 rfl) (fn (MI_s J1) 3 rfl) rfl (by omega) (by decide) ?_
    obtain ⟨v3, hv3, ev3⟩ := vp_in_of (n := 300) (MI_rd J1 (i := a0) (by omega) (Or.inr rfl)) (by decide)
    refine ex_top (w := nI v3) ev3 ?_
    refine ex_icmp_ne (tgt := 46) ok_X12_matched (mi 18 rfl) rfl (fun h26 => ?_) (fun h26 => ?_)
    · skip
      refine ex_vret ok_X12_matched (mi 30 rfl) rfl ?_
      exact ⟨_, rfl, rfl, (MI_Rw J1 (fun l k => (Or.inl k)))⟩
    · skip
      refine ex_aload_n ok_X12_matched (mi 19 rfl) rfl ?_
      refine ex_getRx ok_X12_matched (mi 20 rfl) rfl rfl (fk (MI_s J1) 0 rfl) (fr (MI_s J1) 52 rfl) (fk (MI_s J1) 53 rfl) (by decide) ?_
      refine ex_iconst ok_X12_matched (mi 21 rfl) ?_
      refine ex_iload_n ok_X12_matched (mi 22 rfl) rfl ?_
      refine ex_imul ok_X12_matched (mi 23 rfl) ?_
      refine ex_top (w := (nI (3 * a1))) (nI_mulc rfl) ?_
      refine sm_iald ok_X12_matched (mi 24 rfl) (fk (MI_s J1) 53 rfl) (fn (MI_s J1) 53 rfl) rfl (by omega) (by decide) ?_
      refine ex_gen (fun w4 => ?_)
      refine ex_aload_n ok_X12_matched (mi 25 rfl) rfl ?_
      refine ex_getRx ok_X12_matched (mi 26 rfl) rfl rfl (fk (MI_s J1) 0 rfl) (fr (MI_s J1) 4 rfl) (fk (MI_s J1) 5 rfl) (by decide) ?_
      refine ex_iload_n ok_X12_matched (mi 27 rfl) rfl ?_
      refine sm_iald ok_X12_matched (mi 28 rfl) (fk (MI_s J1) 5 rfl) (fn (MI_s J1) 5 rfl) rfl (by omega) (by decide) ?_
      refine ex_gen (fun w5 => ?_)
      refine ex_icmp_eq (tgt := 47) ok_X12_matched (mi 29 rfl) rfl (fun h43 => ?_) (fun h43 => ?_)
      · skip
        refine ex_aload_n ok_X12_matched (mi 31 rfl) rfl ?_
        refine ex_getRx ok_X12_matched (mi 32 rfl) rfl rfl (fk (MI_s J1) 0 rfl) (fr (MI_s J1) 6 rfl) (fk (MI_s J1) 7 rfl) (by decide) ?_
        refine ex_iload_n ok_X12_matched (mi 33 rfl) rfl ?_
        refine ex_dup2 ok_X12_matched (mi 34 rfl) rfl rfl ?_
        refine sm_iald ok_X12_matched (mi 35 rfl) (fk (MI_s J1) 7 rfl) (fn (MI_s J1) 7 rfl) rfl (by omega) (by decide) ?_
        refine ex_gen (fun w6 => ?_)
        refine ex_iconst ok_X12_matched (mi 36 rfl) ?_
        refine ex_aload_n ok_X12_matched (mi 37 rfl) rfl ?_
        refine ex_getRx ok_X12_matched (mi 38 rfl) rfl rfl (fk (MI_s J1) 0 rfl) (fr (MI_s J1) 50 rfl) (fk (MI_s J1) 51 rfl) (by decide) ?_
        refine ex_iload_n ok_X12_matched (mi 39 rfl) rfl ?_
        refine sm_iald ok_X12_matched (mi 40 rfl) (fk (MI_s J1) 51 rfl) (fn (MI_s J1) 51 rfl) rfl (by omega) (by decide) ?_
        refine ex_gen (fun w7 => ?_)
        refine ex_ishl ok_X12_matched (mi 41 rfl) ?_
        refine ex_gen (fun w8 => ?_)
        refine ex_ior ok_X12_matched (mi 42 rfl) ?_
        refine ex_gen (fun w9 => ?_)
        refine mf_A J1 ok_X12_matched (mi 43 rfl) (fk (MI_s J1) 7 rfl) (fn (MI_s J1) 7 rfl) rfl (by omega) (by decide) (by decide) (by decide) (by decide) (fun g10 J11 K12 => ?_)
        have mk13 := KK_mk K12 hmk
        refine ex_aload_n ok_X12_matched (mi 44 rfl) rfl ?_
        refine ex_getRx ok_X12_matched (mi 45 rfl) rfl rfl (fk (MI_s J11) 0 rfl) (fr (MI_s J11) 7 rfl) (fk (MI_s J11) 8 rfl) (by decide) ?_
        refine ex_iload_n ok_X12_matched (mi 46 rfl) rfl ?_
        refine ex_aload_n ok_X12_matched (mi 47 rfl) rfl ?_
        refine ex_getRx ok_X12_matched (mi 48 rfl) rfl rfl (fk (MI_s J11) 0 rfl) (fr (MI_s J11) 52 rfl) (fk (MI_s J11) 53 rfl) (by decide) ?_
        refine ex_iconst ok_X12_matched (mi 49 rfl) ?_
        refine ex_iload_n ok_X12_matched (mi 50 rfl) rfl ?_
        refine ex_imul ok_X12_matched (mi 51 rfl) ?_
        refine ex_top (w := (nI (3 * a1))) (nI_mulc rfl) ?_
        refine ex_iconst ok_X12_matched (mi 52 rfl) ?_
        refine ex_iadd ok_X12_matched (mi 53 rfl) ?_
        refine ex_top (w := (nI (3 * a1 + 2))) (nI_add _ 2) ?_
        refine sm_iald ok_X12_matched (mi 54 rfl) (fk (MI_s J11) 53 rfl) (fn (MI_s J11) 53 rfl) rfl (by omega) (by decide) ?_
        obtain ⟨v14, hv14, ev14⟩ := vp_in_of (n := 300) (vb_in mk13.2.2.2.2.2.1 (by decide)) (by decide)
        refine ex_top (w := nI v14) ev14 ?_
        refine ex_aload_n ok_X12_matched (mi 55 rfl) rfl ?_
        refine ex_getRx ok_X12_matched (mi 56 rfl) rfl rfl (fk (MI_s J11) 0 rfl) (fr (MI_s J11) 7 rfl) (fk (MI_s J11) 8 rfl) (by decide) ?_
        refine ex_iload_n ok_X12_matched (mi 57 rfl) rfl ?_
        refine sm_iald ok_X12_matched (mi 58 rfl) (fk (MI_s J11) 8 rfl) (fn (MI_s J11) 8 rfl) rfl (by omega) (by decide) ?_
        obtain ⟨v15, hv15, ev15⟩ := vp_in_of (n := 300) (MI_bd J11 1 rfl (i := a0) (by omega)) (by decide)
        refine ex_top (w := nI v15) ev15 ?_
        refine ex_icmp_le (tgt := 101) ok_X12_matched (mi 59 rfl) rfl (fun h85 => ?_) (fun h85 => ?_)
        · skip
          refine ex_aload_n ok_X12_matched (mi 69 rfl) rfl ?_
          refine ex_getRx ok_X12_matched (mi 70 rfl) rfl rfl (fk (MI_s J11) 0 rfl) (fr (MI_s J11) 7 rfl) (fk (MI_s J11) 8 rfl) (by decide) ?_
          refine ex_iload_n ok_X12_matched (mi 71 rfl) rfl ?_
          refine sm_iald ok_X12_matched (mi 72 rfl) (fk (MI_s J11) 8 rfl) (fn (MI_s J11) 8 rfl) rfl (by omega) (by decide) ?_
          refine ex_top (w := nI v15) ev15 ?_
          refine mf_B J11 ok_X12_matched (mi 73 rfl) (fk (MI_s J11) 8 rfl) (fn (MI_s J11) 8 rfl) rfl (by omega) (by decide) (B := 300) (by decide) (by decide) (by decide) (vp_in_nI (N := 300) (by omega) (by decide)) (fun g16 J17 K18 => ?_)
          have mk19 := KK_mk K18 mk13
          refine ex_iconst ok_X12_matched (mi 74 rfl) ?_
          refine ex_istore_n ok_X12_matched (mi 75 rfl) ?_
          have lp110 : ∀ n110 k110 : Nat, k110 + n110 = 300 → ∀ (g20 : GT), MI y D c (fun j => R j ∨ j = a0) g20 → MK y g20 a1 2 m → ex_W G 5 0 0 M_X12_matched 110 [(0, .ref y), (1, .int (nI (a0))), (2, .int (nI (a1))), (3, .int (nI (k110)))] [] g20 (SM y D c R pN) := by
            intro n110
            induction n110 with
            | zero =>
              intro k110 he110  g20 J21 mk110_0
              obtain rfl : k110 = 300 := by omega
              refine ex_iload_n ok_X12_matched (mi 76 rfl) rfl ?_
              refine ex_aload_n ok_X12_matched (mi 77 rfl) rfl ?_
              refine ex_getRx ok_X12_matched (mi 78 rfl) rfl rfl (fk (MI_s J21) 0 rfl) (fr (MI_s J21) 53 rfl) (fk (MI_s J21) 54 rfl) (by decide) ?_
              refine ex_iload_n ok_X12_matched (mi 79 rfl) rfl ?_
              refine sm_iald ok_X12_matched (mi 80 rfl) (fk (MI_s J21) 54 rfl) (fn (MI_s J21) 54 rfl) rfl (by omega) (by decide) ?_
              refine ex_top (w := nI m) mk110_0.2.2.2.2.2.2.2.2.1 ?_
              refine ex_icmp_ge (tgt := 149) ok_X12_matched (mi 81 rfl) rfl (fun _ => ?_) (fun hn => absurd (nI_le (b := 300) (a := m) (by omega) (by omega)) hn)
              refine ex_aload_n ok_X12_matched (mi 99 rfl) rfl ?_
              refine ex_getRx ok_X12_matched (mi 100 rfl) rfl rfl (fk (MI_s J21) 0 rfl) (fr (MI_s J21) 6 rfl) (fk (MI_s J21) 7 rfl) (by decide) ?_
              refine ex_iload_n ok_X12_matched (mi 101 rfl) rfl ?_
              refine sm_iald ok_X12_matched (mi 102 rfl) (fk (MI_s J21) 7 rfl) (fn (MI_s J21) 7 rfl) rfl (by omega) (by decide) ?_
              refine ex_gen (fun w22 => ?_)
              refine ex_aload_n ok_X12_matched (mi 103 rfl) rfl ?_
              refine ex_getRx ok_X12_matched (mi 104 rfl) rfl rfl (fk (MI_s J21) 0 rfl) (fr (MI_s J21) 5 rfl) (fk (MI_s J21) 6 rfl) (by decide) ?_
              refine ex_iload_n ok_X12_matched (mi 105 rfl) rfl ?_
              refine sm_iald ok_X12_matched (mi 106 rfl) (fk (MI_s J21) 6 rfl) (fn (MI_s J21) 6 rfl) rfl (by omega) (by decide) ?_
              obtain ⟨v23, hv23, ev23⟩ := vp_in_of (n := 512) (MI_bd J21 0 rfl (i := a0) (by omega)) (by decide)
              refine ex_top (w := nI v23) ev23 ?_
              refine ex_iand ok_X12_matched (mi 107 rfl) ?_
              refine ex_gen (fun w24 => ?_)
              refine sf_Sp (As := [_]) ok_X12_matched (mi 108 rfl) rfl (s_X12_bits hst (MI_s J21)) rfl rfl rfl (by decide) (Nat.le_of_ble_eq_true rfl) (by decide) (fun z25 p26 => ?_)
              obtain ⟨v29, rfl⟩ := p26
              refine ex_iconst ok_X12_matched (mi 109 rfl) ?_
              refine ex_icmp_ge (tgt := 170) ok_X12_matched (mi 110 rfl) rfl (fun h166 => ?_) (fun h166 => ?_)
              · skip
                refine ex_iconst ok_X12_matched (mi 112 rfl) ?_
                refine ex_istore_n ok_X12_matched (mi 113 rfl) ?_
                have lp172 : ∀ n172 k172 : Nat, k172 + n172 = 300 → ∀ (g30 : GT), MI y D c (fun j => R j ∨ j = a0) g30 → MK y g30 a1 2 m → ex_W G 5 0 0 M_X12_matched 172 [(0, .ref y), (1, .int (nI (a0))), (2, .int (nI (a1))), (3, .int (nI (k172)))] [] g30 (SM y D c R pN) := by
                  intro n172
                  induction n172 with
                  | zero =>
                    intro k172 he172  g30 J31 mk172_0
                    obtain rfl : k172 = 300 := by omega
                    refine ex_iload_n ok_X12_matched (mi 114 rfl) rfl ?_
                    refine ex_aload_n ok_X12_matched (mi 115 rfl) rfl ?_
                    refine ex_getRx ok_X12_matched (mi 116 rfl) rfl rfl (fk (MI_s J31) 0 rfl) (fr (MI_s J31) 7 rfl) (fk (MI_s J31) 8 rfl) (by decide) ?_
                    refine ex_iload_n ok_X12_matched (mi 117 rfl) rfl ?_
                    refine sm_iald ok_X12_matched (mi 118 rfl) (fk (MI_s J31) 8 rfl) (fn (MI_s J31) 8 rfl) rfl (by omega) (by decide) ?_
                    obtain ⟨v32, hv32, ev32⟩ := vp_in_of (n := 300) (MI_bd J31 1 rfl (i := a0) (by omega)) (by decide)
                    refine ex_top (w := nI v32) ev32 ?_
                    refine ex_icmp_ge (tgt := 201) ok_X12_matched (mi 119 rfl) rfl (fun _ => ?_) (fun hn => absurd (nI_le (b := 300) (a := v32) (by omega) (by omega)) hn)
                    refine ex_aload_n ok_X12_matched (mi 131 rfl) rfl ?_
                    refine ex_getRx ok_X12_matched (mi 132 rfl) rfl rfl (fk (MI_s J31) 0 rfl) (fr (MI_s J31) 1 rfl) (fk (MI_s J31) 2 rfl) (by decide) ?_
                    refine ex_iload_n ok_X12_matched (mi 133 rfl) rfl ?_
                    refine ex_iconst ok_X12_matched (mi 134 rfl) ?_
                    refine mf_ph J31 ok_X12_matched (mi 135 rfl) (fk (MI_s J31) 2 rfl) (fn (MI_s J31) 2 rfl) rfl (by omega) (Or.inr (Or.inr rfl)) (fun g33 J34 K35 => ?_)
                    have mk36 := KK_mk K35 mk172_0
                    refine ex_aload_n ok_X12_matched (mi 136 rfl) rfl ?_
                    refine ex_iload_n ok_X12_matched (mi 137 rfl) rfl ?_
                    refine sf_Vp (As := [_]) ok_X12_matched (mi 138 rfl) rfl (s_X12_votersOfHistory hst (MI_s J34) (vp_in_nI (N := 3) (by omega) (by decide))) rfl (fk (MI_s J34) 0 rfl) rfl rfl (by decide) (by decide) (Nat.le_of_ble_eq_true rfl) (by decide) (fun z37 p38 => ?_)
                    obtain ⟨v41, rfl⟩ := p38
                    refine ex_istore_n ok_X12_matched (mi 139 rfl) ?_
                    refine ex_aload_n ok_X12_matched (mi 140 rfl) rfl ?_
                    refine ex_iconst ok_X12_matched (mi 141 rfl) ?_
                    refine ex_iload_n ok_X12_matched (mi 142 rfl) rfl ?_
                    refine ex_iload_n ok_X12_matched (mi 143 rfl) rfl ?_
                    refine ex_aload_n ok_X12_matched (mi 144 rfl) rfl ?_
                    refine ex_getRx ok_X12_matched (mi 145 rfl) rfl rfl (fk (MI_s J34) 0 rfl) (fr (MI_s J34) 2 rfl) (fk (MI_s J34) 3 rfl) (by decide) ?_
                    refine ex_iload_n ok_X12_matched (mi 146 rfl) rfl ?_
                    refine sm_iald ok_X12_matched (mi 147 rfl) (fk (MI_s J34) 3 rfl) (fn (MI_s J34) 3 rfl) rfl (by omega) (by decide) ?_
                    obtain ⟨v42, hv42, ev42⟩ := vp_in_of (n := 300) (MI_rd J34 (i := a0) (by omega) (Or.inr rfl)) (by decide)
                    refine ex_top (w := nI v42) ev42 ?_
                    refine ex_iconst ok_X12_matched (mi 148 rfl) ?_
                    refine ex_iconst ok_X12_matched (mi 149 rfl) ?_
                    refine sm_V (As := [_, _, _, _, _, _]) ok_X12_matched (mi 150 rfl) rfl (s_X12_layAll hst J34 (κ := 3) (by decide) (Or.inr (vp_in_nI (N := 3) (by omega) (by decide))) (TO12 rfl) (Or.inl rfl) (Or.inl rfl) (Or.inl rfl)) rfl (fk (MI_s J34) 0 rfl) rfl rfl (by decide) (by decide) (Nat.le_of_ble_eq_true rfl) (by decide) SM_no (fun z43 g45 p44 => ?_)
                    obtain ⟨u47, eu47, u47p, J46⟩ := p44
                    cases eu47
                    obtain ⟨v48, rfl⟩ := u47p
                    refine ex_istore ok_X12_matched (mi 151 rfl) ?_
                    refine ex_iload_n ok_X12_matched (mi 152 rfl) rfl ?_
                    refine ex_if_ne (tgt := 240) ok_X12_matched (mi 153 rfl) rfl (fun h232 => ?_) (fun h232 => ?_)
                    · skip
                      refine ex_vret ok_X12_matched (mi 157 rfl) rfl ?_
                      exact ⟨_, rfl, rfl, (MI_Rw J46 (fun l k => (Or.inl k)))⟩
                    · skip
                      refine ex_aload_n ok_X12_matched (mi 154 rfl) rfl ?_
                      refine ex_iload_n ok_X12_matched (mi 155 rfl) rfl ?_
                      refine sm_V (As := [_]) ok_X12_matched (mi 156 rfl) rfl (s_X12_lead hst J46 (by omega) (Or.inr rfl)) rfl (fk (MI_s J46) 0 rfl) rfl rfl (by decide) (by decide) (Nat.le_of_ble_eq_true rfl) (by decide) SM_no (fun z49 g51 p50 => ?_)
                      obtain ⟨u53, eu53, u53p, J52⟩ := p50
                      cases eu53
                      obtain rfl : z49 = none := u53p
                      refine ex_vret ok_X12_matched (mi 157 rfl) rfl ?_
                      exact ⟨_, rfl, rfl, (MI_Rw J52 (fun l k => (Or.inl k)))⟩
                  | succ n172 ih172 =>
                    intro k172 he172  g30 J31 mk172_0
                    have hr172 : k172 < 300 := by omega
                    refine ex_iload_n ok_X12_matched (mi 114 rfl) rfl ?_
                    refine ex_aload_n ok_X12_matched (mi 115 rfl) rfl ?_
                    refine ex_getRx ok_X12_matched (mi 116 rfl) rfl rfl (fk (MI_s J31) 0 rfl) (fr (MI_s J31) 7 rfl) (fk (MI_s J31) 8 rfl) (by decide) ?_
                    refine ex_iload_n ok_X12_matched (mi 117 rfl) rfl ?_
                    refine sm_iald ok_X12_matched (mi 118 rfl) (fk (MI_s J31) 8 rfl) (fn (MI_s J31) 8 rfl) rfl (by omega) (by decide) ?_
                    obtain ⟨v54, hv54, ev54⟩ := vp_in_of (n := 300) (MI_bd J31 1 rfl (i := a0) (by omega)) (by decide)
                    refine ex_top (w := nI v54) ev54 ?_
                    refine ex_icmp_ge (tgt := 201) ok_X12_matched (mi 119 rfl) rfl (fun h179 => ?_) (fun h179 => ?_)
                    · skip
                      refine ex_aload_n ok_X12_matched (mi 131 rfl) rfl ?_
                      refine ex_getRx ok_X12_matched (mi 132 rfl) rfl rfl (fk (MI_s J31) 0 rfl) (fr (MI_s J31) 1 rfl) (fk (MI_s J31) 2 rfl) (by decide) ?_
                      refine ex_iload_n ok_X12_matched (mi 133 rfl) rfl ?_
                      refine ex_iconst ok_X12_matched (mi 134 rfl) ?_
                      refine mf_ph J31 ok_X12_matched (mi 135 rfl) (fk (MI_s J31) 2 rfl) (fn (MI_s J31) 2 rfl) rfl (by omega) (Or.inr (Or.inr rfl)) (fun g55 J56 K57 => ?_)
                      have mk58 := KK_mk K57 mk172_0
                      refine ex_aload_n ok_X12_matched (mi 136 rfl) rfl ?_
                      refine ex_iload_n ok_X12_matched (mi 137 rfl) rfl ?_
                      refine sf_Vp (As := [_]) ok_X12_matched (mi 138 rfl) rfl (s_X12_votersOfHistory hst (MI_s J56) (vp_in_nI (N := 3) (by omega) (by decide))) rfl (fk (MI_s J56) 0 rfl) rfl rfl (by decide) (by decide) (Nat.le_of_ble_eq_true rfl) (by decide) (fun z59 p60 => ?_)
                      obtain ⟨v63, rfl⟩ := p60
                      refine ex_istore_n ok_X12_matched (mi 139 rfl) ?_
                      refine ex_aload_n ok_X12_matched (mi 140 rfl) rfl ?_
                      refine ex_iconst ok_X12_matched (mi 141 rfl) ?_
                      refine ex_iload_n ok_X12_matched (mi 142 rfl) rfl ?_
                      refine ex_iload_n ok_X12_matched (mi 143 rfl) rfl ?_
                      refine ex_aload_n ok_X12_matched (mi 144 rfl) rfl ?_
                      refine ex_getRx ok_X12_matched (mi 145 rfl) rfl rfl (fk (MI_s J56) 0 rfl) (fr (MI_s J56) 2 rfl) (fk (MI_s J56) 3 rfl) (by decide) ?_
                      refine ex_iload_n ok_X12_matched (mi 146 rfl) rfl ?_
                      refine sm_iald ok_X12_matched (mi 147 rfl) (fk (MI_s J56) 3 rfl) (fn (MI_s J56) 3 rfl) rfl (by omega) (by decide) ?_
                      obtain ⟨v64, hv64, ev64⟩ := vp_in_of (n := 300) (MI_rd J56 (i := a0) (by omega) (Or.inr rfl)) (by decide)
                      refine ex_top (w := nI v64) ev64 ?_
                      refine ex_iconst ok_X12_matched (mi 148 rfl) ?_
                      refine ex_iconst ok_X12_matched (mi 149 rfl) ?_
                      refine sm_V (As := [_, _, _, _, _, _]) ok_X12_matched (mi 150 rfl) rfl (s_X12_layAll hst J56 (κ := 3) (by decide) (Or.inr (vp_in_nI (N := 3) (by omega) (by decide))) (TO12 rfl) (Or.inl rfl) (Or.inl rfl) (Or.inl rfl)) rfl (fk (MI_s J56) 0 rfl) rfl rfl (by decide) (by decide) (Nat.le_of_ble_eq_true rfl) (by decide) SM_no (fun z65 g67 p66 => ?_)
                      obtain ⟨u69, eu69, u69p, J68⟩ := p66
                      cases eu69
                      obtain ⟨v70, rfl⟩ := u69p
                      refine ex_istore ok_X12_matched (mi 151 rfl) ?_
                      refine ex_iload_n ok_X12_matched (mi 152 rfl) rfl ?_
                      refine ex_if_ne (tgt := 240) ok_X12_matched (mi 153 rfl) rfl (fun h232 => ?_) (fun h232 => ?_)
                      · skip
                        refine ex_vret ok_X12_matched (mi 157 rfl) rfl ?_
                        exact ⟨_, rfl, rfl, (MI_Rw J68 (fun l k => (Or.inl k)))⟩
                      · skip
                        refine ex_aload_n ok_X12_matched (mi 154 rfl) rfl ?_
                        refine ex_iload_n ok_X12_matched (mi 155 rfl) rfl ?_
                        refine sm_V (As := [_]) ok_X12_matched (mi 156 rfl) rfl (s_X12_lead hst J68 (by omega) (Or.inr rfl)) rfl (fk (MI_s J68) 0 rfl) rfl rfl (by decide) (by decide) (Nat.le_of_ble_eq_true rfl) (by decide) SM_no (fun z71 g73 p72 => ?_)
                        obtain ⟨u75, eu75, u75p, J74⟩ := p72
                        cases eu75
                        obtain rfl : z71 = none := u75p
                        refine ex_vret ok_X12_matched (mi 157 rfl) rfl ?_
                        exact ⟨_, rfl, rfl, (MI_Rw J74 (fun l k => (Or.inl k)))⟩
                    · skip
                      have l179 : k172 < v54 := Nat.lt_of_not_le (fun q => h179 (nI_le q (by omega)))
                      refine ex_aload_n ok_X12_matched (mi 120 rfl) rfl ?_
                      refine ex_getRx ok_X12_matched (mi 121 rfl) rfl rfl (fk (MI_s J31) 0 rfl) (fr (MI_s J31) 8 rfl) (fk (MI_s J31) 9 rfl) (by decide) ?_
                      refine ex_sipush ok_X12_matched (mi 122 rfl) ?_
                      refine ex_iload_n ok_X12_matched (mi 123 rfl) rfl ?_
                      refine ex_imul ok_X12_matched (mi 124 rfl) ?_
                      refine ex_top (w := (nI (300 * a0))) (nI_mulc rfl) ?_
                      refine ex_iload_n ok_X12_matched (mi 125 rfl) rfl ?_
                      refine ex_iadd ok_X12_matched (mi 126 rfl) ?_
                      refine ex_top (w := (nI (300 * a0 + k172))) (nI_add _ _) ?_
                      refine ex_iconst ok_X12_matched (mi 127 rfl) ?_
                      refine mf_A J31 ok_X12_matched (mi 128 rfl) (fk (MI_s J31) 9 rfl) (fn (MI_s J31) 9 rfl) rfl (by omega) (by decide) (by decide) (by decide) (by decide) (fun g76 J77 K78 => ?_)
                      have mk79 := KK_mk K78 mk172_0
                      refine ex_iincx (w := (nI (k172 + 1))) ok_X12_matched (mi 129 rfl) rfl (nI_1 _) ?_
                      refine ex_goto (tgt := 172) ok_X12_matched (mi 130 rfl) rfl ?_
                      exact ex_ls (ls' := [(0, .ref y), (1, .int (nI (a0))), (2, .int (nI (a1))), (3, .int (nI (k172 + 1)))]) ⟨rfl, rfl, rfl, rfl, trivial⟩ (ih172 (k172 + 1) (by omega) g76 J77 mk79)
                exact ex_ls (ls' := [(0, .ref y), (1, .int (nI (a0))), (2, .int (nI (a1))), (3, .int (nI 0))]) ⟨rfl, rfl, rfl, rfl, trivial⟩ (lp172 (300 - 0) (0) (by omega) g20 J21 mk110_0)
              · skip
                refine ex_vret ok_X12_matched (mi 111 rfl) rfl ?_
                exact ⟨_, rfl, rfl, (MI_Rw J21 (fun l k => (Or.inl k)))⟩
            | succ n110 ih110 =>
              intro k110 he110  g20 J21 mk110_0
              have hr110 : k110 < 300 := by omega
              refine ex_iload_n ok_X12_matched (mi 76 rfl) rfl ?_
              refine ex_aload_n ok_X12_matched (mi 77 rfl) rfl ?_
              refine ex_getRx ok_X12_matched (mi 78 rfl) rfl rfl (fk (MI_s J21) 0 rfl) (fr (MI_s J21) 53 rfl) (fk (MI_s J21) 54 rfl) (by decide) ?_
              refine ex_iload_n ok_X12_matched (mi 79 rfl) rfl ?_
              refine sm_iald ok_X12_matched (mi 80 rfl) (fk (MI_s J21) 54 rfl) (fn (MI_s J21) 54 rfl) rfl (by omega) (by decide) ?_
              refine ex_top (w := nI m) mk110_0.2.2.2.2.2.2.2.2.1 ?_
              refine ex_icmp_ge (tgt := 149) ok_X12_matched (mi 81 rfl) rfl (fun h117 => ?_) (fun h117 => ?_)
              · skip
                refine ex_aload_n ok_X12_matched (mi 99 rfl) rfl ?_
                refine ex_getRx ok_X12_matched (mi 100 rfl) rfl rfl (fk (MI_s J21) 0 rfl) (fr (MI_s J21) 6 rfl) (fk (MI_s J21) 7 rfl) (by decide) ?_
                refine ex_iload_n ok_X12_matched (mi 101 rfl) rfl ?_
                refine sm_iald ok_X12_matched (mi 102 rfl) (fk (MI_s J21) 7 rfl) (fn (MI_s J21) 7 rfl) rfl (by omega) (by decide) ?_
                refine ex_gen (fun w80 => ?_)
                refine ex_aload_n ok_X12_matched (mi 103 rfl) rfl ?_
                refine ex_getRx ok_X12_matched (mi 104 rfl) rfl rfl (fk (MI_s J21) 0 rfl) (fr (MI_s J21) 5 rfl) (fk (MI_s J21) 6 rfl) (by decide) ?_
                refine ex_iload_n ok_X12_matched (mi 105 rfl) rfl ?_
                refine sm_iald ok_X12_matched (mi 106 rfl) (fk (MI_s J21) 6 rfl) (fn (MI_s J21) 6 rfl) rfl (by omega) (by decide) ?_
                obtain ⟨v81, hv81, ev81⟩ := vp_in_of (n := 512) (MI_bd J21 0 rfl (i := a0) (by omega)) (by decide)
                refine ex_top (w := nI v81) ev81 ?_
                refine ex_iand ok_X12_matched (mi 107 rfl) ?_
                refine ex_gen (fun w82 => ?_)
                refine sf_Sp (As := [_]) ok_X12_matched (mi 108 rfl) rfl (s_X12_bits hst (MI_s J21)) rfl rfl rfl (by decide) (Nat.le_of_ble_eq_true rfl) (by decide) (fun z83 p84 => ?_)
                obtain ⟨v87, rfl⟩ := p84
                refine ex_iconst ok_X12_matched (mi 109 rfl) ?_
                refine ex_icmp_ge (tgt := 170) ok_X12_matched (mi 110 rfl) rfl (fun h166 => ?_) (fun h166 => ?_)
                · skip
                  refine ex_iconst ok_X12_matched (mi 112 rfl) ?_
                  refine ex_istore_n ok_X12_matched (mi 113 rfl) ?_
                  have lp172 : ∀ n172 k172 : Nat, k172 + n172 = 300 → ∀ (g88 : GT), MI y D c (fun j => R j ∨ j = a0) g88 → MK y g88 a1 2 m → ex_W G 5 0 0 M_X12_matched 172 [(0, .ref y), (1, .int (nI (a0))), (2, .int (nI (a1))), (3, .int (nI (k172)))] [] g88 (SM y D c R pN) := by
                    intro n172
                    induction n172 with
                    | zero =>
                      intro k172 he172  g88 J89 mk172_0
                      obtain rfl : k172 = 300 := by omega
                      refine ex_iload_n ok_X12_matched (mi 114 rfl) rfl ?_
                      refine ex_aload_n ok_X12_matched (mi 115 rfl) rfl ?_
                      refine ex_getRx ok_X12_matched (mi 116 rfl) rfl rfl (fk (MI_s J89) 0 rfl) (fr (MI_s J89) 7 rfl) (fk (MI_s J89) 8 rfl) (by decide) ?_
                      refine ex_iload_n ok_X12_matched (mi 117 rfl) rfl ?_
                      refine sm_iald ok_X12_matched (mi 118 rfl) (fk (MI_s J89) 8 rfl) (fn (MI_s J89) 8 rfl) rfl (by omega) (by decide) ?_
                      obtain ⟨v90, hv90, ev90⟩ := vp_in_of (n := 300) (MI_bd J89 1 rfl (i := a0) (by omega)) (by decide)
                      refine ex_top (w := nI v90) ev90 ?_
                      refine ex_icmp_ge (tgt := 201) ok_X12_matched (mi 119 rfl) rfl (fun _ => ?_) (fun hn => absurd (nI_le (b := 300) (a := v90) (by omega) (by omega)) hn)
                      refine ex_aload_n ok_X12_matched (mi 131 rfl) rfl ?_
                      refine ex_getRx ok_X12_matched (mi 132 rfl) rfl rfl (fk (MI_s J89) 0 rfl) (fr (MI_s J89) 1 rfl) (fk (MI_s J89) 2 rfl) (by decide) ?_
                      refine ex_iload_n ok_X12_matched (mi 133 rfl) rfl ?_
                      refine ex_iconst ok_X12_matched (mi 134 rfl) ?_
                      refine mf_ph J89 ok_X12_matched (mi 135 rfl) (fk (MI_s J89) 2 rfl) (fn (MI_s J89) 2 rfl) rfl (by omega) (Or.inr (Or.inr rfl)) (fun g91 J92 K93 => ?_)
                      have mk94 := KK_mk K93 mk172_0
                      refine ex_aload_n ok_X12_matched (mi 136 rfl) rfl ?_
                      refine ex_iload_n ok_X12_matched (mi 137 rfl) rfl ?_
                      refine sf_Vp (As := [_]) ok_X12_matched (mi 138 rfl) rfl (s_X12_votersOfHistory hst (MI_s J92) (vp_in_nI (N := 3) (by omega) (by decide))) rfl (fk (MI_s J92) 0 rfl) rfl rfl (by decide) (by decide) (Nat.le_of_ble_eq_true rfl) (by decide) (fun z95 p96 => ?_)
                      obtain ⟨v99, rfl⟩ := p96
                      refine ex_istore_n ok_X12_matched (mi 139 rfl) ?_
                      refine ex_aload_n ok_X12_matched (mi 140 rfl) rfl ?_
                      refine ex_iconst ok_X12_matched (mi 141 rfl) ?_
                      refine ex_iload_n ok_X12_matched (mi 142 rfl) rfl ?_
                      refine ex_iload_n ok_X12_matched (mi 143 rfl) rfl ?_
                      refine ex_aload_n ok_X12_matched (mi 144 rfl) rfl ?_
                      refine ex_getRx ok_X12_matched (mi 145 rfl) rfl rfl (fk (MI_s J92) 0 rfl) (fr (MI_s J92) 2 rfl) (fk (MI_s J92) 3 rfl) (by decide) ?_
                      refine ex_iload_n ok_X12_matched (mi 146 rfl) rfl ?_
                      refine sm_iald ok_X12_matched (mi 147 rfl) (fk (MI_s J92) 3 rfl) (fn (MI_s J92) 3 rfl) rfl (by omega) (by decide) ?_
                      obtain ⟨v100, hv100, ev100⟩ := vp_in_of (n := 300) (MI_rd J92 (i := a0) (by omega) (Or.inr rfl)) (by decide)
                      refine ex_top (w := nI v100) ev100 ?_
                      refine ex_iconst ok_X12_matched (mi 148 rfl) ?_
                      refine ex_iconst ok_X12_matched (mi 149 rfl) ?_
                      refine sm_V (As := [_, _, _, _, _, _]) ok_X12_matched (mi 150 rfl) rfl (s_X12_layAll hst J92 (κ := 3) (by decide) (Or.inr (vp_in_nI (N := 3) (by omega) (by decide))) (TO12 rfl) (Or.inl rfl) (Or.inl rfl) (Or.inl rfl)) rfl (fk (MI_s J92) 0 rfl) rfl rfl (by decide) (by decide) (Nat.le_of_ble_eq_true rfl) (by decide) SM_no (fun z101 g103 p102 => ?_)
                      obtain ⟨u105, eu105, u105p, J104⟩ := p102
                      cases eu105
                      obtain ⟨v106, rfl⟩ := u105p
                      refine ex_istore ok_X12_matched (mi 151 rfl) ?_
                      refine ex_iload_n ok_X12_matched (mi 152 rfl) rfl ?_
                      refine ex_if_ne (tgt := 240) ok_X12_matched (mi 153 rfl) rfl (fun h232 => ?_) (fun h232 => ?_)
                      · skip
                        refine ex_vret ok_X12_matched (mi 157 rfl) rfl ?_
                        exact ⟨_, rfl, rfl, (MI_Rw J104 (fun l k => (Or.inl k)))⟩
                      · skip
                        refine ex_aload_n ok_X12_matched (mi 154 rfl) rfl ?_
                        refine ex_iload_n ok_X12_matched (mi 155 rfl) rfl ?_
                        refine sm_V (As := [_]) ok_X12_matched (mi 156 rfl) rfl (s_X12_lead hst J104 (by omega) (Or.inr rfl)) rfl (fk (MI_s J104) 0 rfl) rfl rfl (by decide) (by decide) (Nat.le_of_ble_eq_true rfl) (by decide) SM_no (fun z107 g109 p108 => ?_)
                        obtain ⟨u111, eu111, u111p, J110⟩ := p108
                        cases eu111
                        obtain rfl : z107 = none := u111p
                        refine ex_vret ok_X12_matched (mi 157 rfl) rfl ?_
                        exact ⟨_, rfl, rfl, (MI_Rw J110 (fun l k => (Or.inl k)))⟩
                    | succ n172 ih172 =>
                      intro k172 he172  g88 J89 mk172_0
                      have hr172 : k172 < 300 := by omega
                      refine ex_iload_n ok_X12_matched (mi 114 rfl) rfl ?_
                      refine ex_aload_n ok_X12_matched (mi 115 rfl) rfl ?_
                      refine ex_getRx ok_X12_matched (mi 116 rfl) rfl rfl (fk (MI_s J89) 0 rfl) (fr (MI_s J89) 7 rfl) (fk (MI_s J89) 8 rfl) (by decide) ?_
                      refine ex_iload_n ok_X12_matched (mi 117 rfl) rfl ?_
                      refine sm_iald ok_X12_matched (mi 118 rfl) (fk (MI_s J89) 8 rfl) (fn (MI_s J89) 8 rfl) rfl (by omega) (by decide) ?_
                      obtain ⟨v112, hv112, ev112⟩ := vp_in_of (n := 300) (MI_bd J89 1 rfl (i := a0) (by omega)) (by decide)
                      refine ex_top (w := nI v112) ev112 ?_
                      refine ex_icmp_ge (tgt := 201) ok_X12_matched (mi 119 rfl) rfl (fun h179 => ?_) (fun h179 => ?_)
                      · skip
                        refine ex_aload_n ok_X12_matched (mi 131 rfl) rfl ?_
                        refine ex_getRx ok_X12_matched (mi 132 rfl) rfl rfl (fk (MI_s J89) 0 rfl) (fr (MI_s J89) 1 rfl) (fk (MI_s J89) 2 rfl) (by decide) ?_
                        refine ex_iload_n ok_X12_matched (mi 133 rfl) rfl ?_
                        refine ex_iconst ok_X12_matched (mi 134 rfl) ?_
                        refine mf_ph J89 ok_X12_matched (mi 135 rfl) (fk (MI_s J89) 2 rfl) (fn (MI_s J89) 2 rfl) rfl (by omega) (Or.inr (Or.inr rfl)) (fun g113 J114 K115 => ?_)
                        have mk116 := KK_mk K115 mk172_0
                        refine ex_aload_n ok_X12_matched (mi 136 rfl) rfl ?_
                        refine ex_iload_n ok_X12_matched (mi 137 rfl) rfl ?_
                        refine sf_Vp (As := [_]) ok_X12_matched (mi 138 rfl) rfl (s_X12_votersOfHistory hst (MI_s J114) (vp_in_nI (N := 3) (by omega) (by decide))) rfl (fk (MI_s J114) 0 rfl) rfl rfl (by decide) (by decide) (Nat.le_of_ble_eq_true rfl) (by decide) (fun z117 p118 => ?_)
                        obtain ⟨v121, rfl⟩ := p118
                        refine ex_istore_n ok_X12_matched (mi 139 rfl) ?_
                        refine ex_aload_n ok_X12_matched (mi 140 rfl) rfl ?_
                        refine ex_iconst ok_X12_matched (mi 141 rfl) ?_
                        refine ex_iload_n ok_X12_matched (mi 142 rfl) rfl ?_
                        refine ex_iload_n ok_X12_matched (mi 143 rfl) rfl ?_
                        refine ex_aload_n ok_X12_matched (mi 144 rfl) rfl ?_
                        refine ex_getRx ok_X12_matched (mi 145 rfl) rfl rfl (fk (MI_s J114) 0 rfl) (fr (MI_s J114) 2 rfl) (fk (MI_s J114) 3 rfl) (by decide) ?_
                        refine ex_iload_n ok_X12_matched (mi 146 rfl) rfl ?_
                        refine sm_iald ok_X12_matched (mi 147 rfl) (fk (MI_s J114) 3 rfl) (fn (MI_s J114) 3 rfl) rfl (by omega) (by decide) ?_
                        obtain ⟨v122, hv122, ev122⟩ := vp_in_of (n := 300) (MI_rd J114 (i := a0) (by omega) (Or.inr rfl)) (by decide)
                        refine ex_top (w := nI v122) ev122 ?_
                        refine ex_iconst ok_X12_matched (mi 148 rfl) ?_
                        refine ex_iconst ok_X12_matched (mi 149 rfl) ?_
                        refine sm_V (As := [_, _, _, _, _, _]) ok_X12_matched (mi 150 rfl) rfl (s_X12_layAll hst J114 (κ := 3) (by decide) (Or.inr (vp_in_nI (N := 3) (by omega) (by decide))) (TO12 rfl) (Or.inl rfl) (Or.inl rfl) (Or.inl rfl)) rfl (fk (MI_s J114) 0 rfl) rfl rfl (by decide) (by decide) (Nat.le_of_ble_eq_true rfl) (by decide) SM_no (fun z123 g125 p124 => ?_)
                        obtain ⟨u127, eu127, u127p, J126⟩ := p124
                        cases eu127
                        obtain ⟨v128, rfl⟩ := u127p
                        refine ex_istore ok_X12_matched (mi 151 rfl) ?_
                        refine ex_iload_n ok_X12_matched (mi 152 rfl) rfl ?_
                        refine ex_if_ne (tgt := 240) ok_X12_matched (mi 153 rfl) rfl (fun h232 => ?_) (fun h232 => ?_)
                        · skip
                          refine ex_vret ok_X12_matched (mi 157 rfl) rfl ?_
                          exact ⟨_, rfl, rfl, (MI_Rw J126 (fun l k => (Or.inl k)))⟩
                        · skip
                          refine ex_aload_n ok_X12_matched (mi 154 rfl) rfl ?_
                          refine ex_iload_n ok_X12_matched (mi 155 rfl) rfl ?_
                          refine sm_V (As := [_]) ok_X12_matched (mi 156 rfl) rfl (s_X12_lead hst J126 (by omega) (Or.inr rfl)) rfl (fk (MI_s J126) 0 rfl) rfl rfl (by decide) (by decide) (Nat.le_of_ble_eq_true rfl) (by decide) SM_no (fun z129 g131 p130 => ?_)
                          obtain ⟨u133, eu133, u133p, J132⟩ := p130
                          cases eu133
                          obtain rfl : z129 = none := u133p
                          refine ex_vret ok_X12_matched (mi 157 rfl) rfl ?_
                          exact ⟨_, rfl, rfl, (MI_Rw J132 (fun l k => (Or.inl k)))⟩
                      · skip
                        have l179 : k172 < v112 := Nat.lt_of_not_le (fun q => h179 (nI_le q (by omega)))
                        refine ex_aload_n ok_X12_matched (mi 120 rfl) rfl ?_
                        refine ex_getRx ok_X12_matched (mi 121 rfl) rfl rfl (fk (MI_s J89) 0 rfl) (fr (MI_s J89) 8 rfl) (fk (MI_s J89) 9 rfl) (by decide) ?_
                        refine ex_sipush ok_X12_matched (mi 122 rfl) ?_
                        refine ex_iload_n ok_X12_matched (mi 123 rfl) rfl ?_
                        refine ex_imul ok_X12_matched (mi 124 rfl) ?_
                        refine ex_top (w := (nI (300 * a0))) (nI_mulc rfl) ?_
                        refine ex_iload_n ok_X12_matched (mi 125 rfl) rfl ?_
                        refine ex_iadd ok_X12_matched (mi 126 rfl) ?_
                        refine ex_top (w := (nI (300 * a0 + k172))) (nI_add _ _) ?_
                        refine ex_iconst ok_X12_matched (mi 127 rfl) ?_
                        refine mf_A J89 ok_X12_matched (mi 128 rfl) (fk (MI_s J89) 9 rfl) (fn (MI_s J89) 9 rfl) rfl (by omega) (by decide) (by decide) (by decide) (by decide) (fun g134 J135 K136 => ?_)
                        have mk137 := KK_mk K136 mk172_0
                        refine ex_iincx (w := (nI (k172 + 1))) ok_X12_matched (mi 129 rfl) rfl (nI_1 _) ?_
                        refine ex_goto (tgt := 172) ok_X12_matched (mi 130 rfl) rfl ?_
                        exact ex_ls (ls' := [(0, .ref y), (1, .int (nI (a0))), (2, .int (nI (a1))), (3, .int (nI (k172 + 1)))]) ⟨rfl, rfl, rfl, rfl, trivial⟩ (ih172 (k172 + 1) (by omega) g134 J135 mk137)
                  exact ex_ls (ls' := [(0, .ref y), (1, .int (nI (a0))), (2, .int (nI (a1))), (3, .int (nI 0))]) ⟨rfl, rfl, rfl, rfl, trivial⟩ (lp172 (300 - 0) (0) (by omega) g20 J21 mk110_0)
                · skip
                  refine ex_vret ok_X12_matched (mi 111 rfl) rfl ?_
                  exact ⟨_, rfl, rfl, (MI_Rw J21 (fun l k => (Or.inl k)))⟩
              · skip
                have l117 : k110 < m := Nat.lt_of_not_le (fun q => h117 (nI_le q (by omega)))
                refine ex_aload_n ok_X12_matched (mi 82 rfl) rfl ?_
                refine ex_getRx ok_X12_matched (mi 83 rfl) rfl rfl (fk (MI_s J21) 0 rfl) (fr (MI_s J21) 8 rfl) (fk (MI_s J21) 9 rfl) (by decide) ?_
                refine ex_sipush ok_X12_matched (mi 84 rfl) ?_
                refine ex_iload_n ok_X12_matched (mi 85 rfl) rfl ?_
                refine ex_imul ok_X12_matched (mi 86 rfl) ?_
                refine ex_top (w := (nI (300 * a0))) (nI_mulc rfl) ?_
                refine ex_aload_n ok_X12_matched (mi 87 rfl) rfl ?_
                refine ex_iload_n ok_X12_matched (mi 88 rfl) rfl ?_
                refine ex_iload_n ok_X12_matched (mi 89 rfl) rfl ?_
                refine sf_Vp (As := [_, _]) ok_X12_matched (mi 90 rfl) rfl (s_entryRound hst (MI_s J21) (m := m) (by omega) (by omega) (by omega) (mk110_0.2.2.2.2.2.2.2.2.2.1 (by decide))) rfl (fk (MI_s J21) 0 rfl) rfl rfl (by decide) (by decide) (Nat.le_of_ble_eq_true rfl) (by decide) (fun z138 p139 => ?_)
                obtain ⟨v142, hv142, rfl⟩ := p139
                refine ex_iadd ok_X12_matched (mi 91 rfl) ?_
                refine ex_top (w := (nI (300 * a0 + v142))) (nI_add _ _) ?_
                refine ex_aload_n ok_X12_matched (mi 92 rfl) rfl ?_
                refine ex_iload_n ok_X12_matched (mi 93 rfl) rfl ?_
                refine ex_iload_n ok_X12_matched (mi 94 rfl) rfl ?_
                refine sf_Vp (As := [_, _]) ok_X12_matched (mi 95 rfl) rfl (s_entryGroup hst (MI_s J21) (m := m) (by omega) (by omega) (by omega)) rfl (fk (MI_s J21) 0 rfl) rfl rfl (by decide) (by decide) (Nat.le_of_ble_eq_true rfl) (by decide) (fun z143 p144 => ?_)
                obtain ⟨v147, rfl⟩ := p144
                refine mf_A J21 ok_X12_matched (mi 96 rfl) (fk (MI_s J21) 9 rfl) (fn (MI_s J21) 9 rfl) rfl (by omega) (by decide) (by decide) (by decide) (by decide) (fun g148 J149 K150 => ?_)
                have mk151 := KK_mk K150 mk110_0
                refine ex_iincx (w := (nI (k110 + 1))) ok_X12_matched (mi 97 rfl) rfl (nI_1 _) ?_
                refine ex_goto (tgt := 110) ok_X12_matched (mi 98 rfl) rfl ?_
                exact ex_ls (ls' := [(0, .ref y), (1, .int (nI (a0))), (2, .int (nI (a1))), (3, .int (nI (k110 + 1)))]) ⟨rfl, rfl, rfl, rfl, trivial⟩ (ih110 (k110 + 1) (by omega) g148 J149 mk151)
          exact ex_ls (ls' := [(0, .ref y), (1, .int (nI (a0))), (2, .int (nI (a1))), (3, .int (nI 0))]) ⟨rfl, rfl, rfl, rfl, trivial⟩ (lp110 (300 - 0) (0) (by omega) g16 J17 mk19)
        · skip
          refine ex_aload_n ok_X12_matched (mi 60 rfl) rfl ?_
          refine ex_getRx ok_X12_matched (mi 61 rfl) rfl rfl (fk (MI_s J11) 0 rfl) (fr (MI_s J11) 52 rfl) (fk (MI_s J11) 53 rfl) (by decide) ?_
          refine ex_iconst ok_X12_matched (mi 62 rfl) ?_
          refine ex_iload_n ok_X12_matched (mi 63 rfl) rfl ?_
          refine ex_imul ok_X12_matched (mi 64 rfl) ?_
          refine ex_top (w := (nI (3 * a1))) (nI_mulc rfl) ?_
          refine ex_iconst ok_X12_matched (mi 65 rfl) ?_
          refine ex_iadd ok_X12_matched (mi 66 rfl) ?_
          refine ex_top (w := (nI (3 * a1 + 2))) (nI_add _ 2) ?_
          refine sm_iald ok_X12_matched (mi 67 rfl) (fk (MI_s J11) 53 rfl) (fn (MI_s J11) 53 rfl) rfl (by omega) (by decide) ?_
          obtain ⟨v152, hv152, ev152⟩ := vp_in_of (n := 300) (vb_in mk13.2.2.2.2.2.1 (by decide)) (by decide)
          refine ex_top (w := nI v152) ev152 ?_
          refine ex_goto (tgt := 107) ok_X12_matched (mi 68 rfl) rfl ?_
          refine mf_B J11 ok_X12_matched (mi 73 rfl) (fk (MI_s J11) 8 rfl) (fn (MI_s J11) 8 rfl) rfl (by omega) (by decide) (B := 300) (by decide) (by decide) (by decide) (vp_in_nI (N := 300) (by omega) (by decide)) (fun g153 J154 K155 => ?_)
          have mk156 := KK_mk K155 mk13
          refine ex_iconst ok_X12_matched (mi 74 rfl) ?_
          refine ex_istore_n ok_X12_matched (mi 75 rfl) ?_
          have lp110 : ∀ n110 k110 : Nat, k110 + n110 = 300 → ∀ (g157 : GT), MI y D c (fun j => R j ∨ j = a0) g157 → MK y g157 a1 2 m → ex_W G 5 0 0 M_X12_matched 110 [(0, .ref y), (1, .int (nI (a0))), (2, .int (nI (a1))), (3, .int (nI (k110)))] [] g157 (SM y D c R pN) := by
            intro n110
            induction n110 with
            | zero =>
              intro k110 he110  g157 J158 mk110_0
              obtain rfl : k110 = 300 := by omega
              refine ex_iload_n ok_X12_matched (mi 76 rfl) rfl ?_
              refine ex_aload_n ok_X12_matched (mi 77 rfl) rfl ?_
              refine ex_getRx ok_X12_matched (mi 78 rfl) rfl rfl (fk (MI_s J158) 0 rfl) (fr (MI_s J158) 53 rfl) (fk (MI_s J158) 54 rfl) (by decide) ?_
              refine ex_iload_n ok_X12_matched (mi 79 rfl) rfl ?_
              refine sm_iald ok_X12_matched (mi 80 rfl) (fk (MI_s J158) 54 rfl) (fn (MI_s J158) 54 rfl) rfl (by omega) (by decide) ?_
              refine ex_top (w := nI m) mk110_0.2.2.2.2.2.2.2.2.1 ?_
              refine ex_icmp_ge (tgt := 149) ok_X12_matched (mi 81 rfl) rfl (fun _ => ?_) (fun hn => absurd (nI_le (b := 300) (a := m) (by omega) (by omega)) hn)
              refine ex_aload_n ok_X12_matched (mi 99 rfl) rfl ?_
              refine ex_getRx ok_X12_matched (mi 100 rfl) rfl rfl (fk (MI_s J158) 0 rfl) (fr (MI_s J158) 6 rfl) (fk (MI_s J158) 7 rfl) (by decide) ?_
              refine ex_iload_n ok_X12_matched (mi 101 rfl) rfl ?_
              refine sm_iald ok_X12_matched (mi 102 rfl) (fk (MI_s J158) 7 rfl) (fn (MI_s J158) 7 rfl) rfl (by omega) (by decide) ?_
              refine ex_gen (fun w159 => ?_)
              refine ex_aload_n ok_X12_matched (mi 103 rfl) rfl ?_
              refine ex_getRx ok_X12_matched (mi 104 rfl) rfl rfl (fk (MI_s J158) 0 rfl) (fr (MI_s J158) 5 rfl) (fk (MI_s J158) 6 rfl) (by decide) ?_
              refine ex_iload_n ok_X12_matched (mi 105 rfl) rfl ?_
              refine sm_iald ok_X12_matched (mi 106 rfl) (fk (MI_s J158) 6 rfl) (fn (MI_s J158) 6 rfl) rfl (by omega) (by decide) ?_
              obtain ⟨v160, hv160, ev160⟩ := vp_in_of (n := 512) (MI_bd J158 0 rfl (i := a0) (by omega)) (by decide)
              refine ex_top (w := nI v160) ev160 ?_
              refine ex_iand ok_X12_matched (mi 107 rfl) ?_
              refine ex_gen (fun w161 => ?_)
              refine sf_Sp (As := [_]) ok_X12_matched (mi 108 rfl) rfl (s_X12_bits hst (MI_s J158)) rfl rfl rfl (by decide) (Nat.le_of_ble_eq_true rfl) (by decide) (fun z162 p163 => ?_)
              obtain ⟨v166, rfl⟩ := p163
              refine ex_iconst ok_X12_matched (mi 109 rfl) ?_
              refine ex_icmp_ge (tgt := 170) ok_X12_matched (mi 110 rfl) rfl (fun h166 => ?_) (fun h166 => ?_)
              · skip
                refine ex_iconst ok_X12_matched (mi 112 rfl) ?_
                refine ex_istore_n ok_X12_matched (mi 113 rfl) ?_
                have lp172 : ∀ n172 k172 : Nat, k172 + n172 = 300 → ∀ (g167 : GT), MI y D c (fun j => R j ∨ j = a0) g167 → MK y g167 a1 2 m → ex_W G 5 0 0 M_X12_matched 172 [(0, .ref y), (1, .int (nI (a0))), (2, .int (nI (a1))), (3, .int (nI (k172)))] [] g167 (SM y D c R pN) := by
                  intro n172
                  induction n172 with
                  | zero =>
                    intro k172 he172  g167 J168 mk172_0
                    obtain rfl : k172 = 300 := by omega
                    refine ex_iload_n ok_X12_matched (mi 114 rfl) rfl ?_
                    refine ex_aload_n ok_X12_matched (mi 115 rfl) rfl ?_
                    refine ex_getRx ok_X12_matched (mi 116 rfl) rfl rfl (fk (MI_s J168) 0 rfl) (fr (MI_s J168) 7 rfl) (fk (MI_s J168) 8 rfl) (by decide) ?_
                    refine ex_iload_n ok_X12_matched (mi 117 rfl) rfl ?_
                    refine sm_iald ok_X12_matched (mi 118 rfl) (fk (MI_s J168) 8 rfl) (fn (MI_s J168) 8 rfl) rfl (by omega) (by decide) ?_
                    obtain ⟨v169, hv169, ev169⟩ := vp_in_of (n := 300) (MI_bd J168 1 rfl (i := a0) (by omega)) (by decide)
                    refine ex_top (w := nI v169) ev169 ?_
                    refine ex_icmp_ge (tgt := 201) ok_X12_matched (mi 119 rfl) rfl (fun _ => ?_) (fun hn => absurd (nI_le (b := 300) (a := v169) (by omega) (by omega)) hn)
                    refine ex_aload_n ok_X12_matched (mi 131 rfl) rfl ?_
                    refine ex_getRx ok_X12_matched (mi 132 rfl) rfl rfl (fk (MI_s J168) 0 rfl) (fr (MI_s J168) 1 rfl) (fk (MI_s J168) 2 rfl) (by decide) ?_
                    refine ex_iload_n ok_X12_matched (mi 133 rfl) rfl ?_
                    refine ex_iconst ok_X12_matched (mi 134 rfl) ?_
                    refine mf_ph J168 ok_X12_matched (mi 135 rfl) (fk (MI_s J168) 2 rfl) (fn (MI_s J168) 2 rfl) rfl (by omega) (Or.inr (Or.inr rfl)) (fun g170 J171 K172 => ?_)
                    have mk173 := KK_mk K172 mk172_0
                    refine ex_aload_n ok_X12_matched (mi 136 rfl) rfl ?_
                    refine ex_iload_n ok_X12_matched (mi 137 rfl) rfl ?_
                    refine sf_Vp (As := [_]) ok_X12_matched (mi 138 rfl) rfl (s_X12_votersOfHistory hst (MI_s J171) (vp_in_nI (N := 3) (by omega) (by decide))) rfl (fk (MI_s J171) 0 rfl) rfl rfl (by decide) (by decide) (Nat.le_of_ble_eq_true rfl) (by decide) (fun z174 p175 => ?_)
                    obtain ⟨v178, rfl⟩ := p175
                    refine ex_istore_n ok_X12_matched (mi 139 rfl) ?_
                    refine ex_aload_n ok_X12_matched (mi 140 rfl) rfl ?_
                    refine ex_iconst ok_X12_matched (mi 141 rfl) ?_
                    refine ex_iload_n ok_X12_matched (mi 142 rfl) rfl ?_
                    refine ex_iload_n ok_X12_matched (mi 143 rfl) rfl ?_
                    refine ex_aload_n ok_X12_matched (mi 144 rfl) rfl ?_
                    refine ex_getRx ok_X12_matched (mi 145 rfl) rfl rfl (fk (MI_s J171) 0 rfl) (fr (MI_s J171) 2 rfl) (fk (MI_s J171) 3 rfl) (by decide) ?_
                    refine ex_iload_n ok_X12_matched (mi 146 rfl) rfl ?_
                    refine sm_iald ok_X12_matched (mi 147 rfl) (fk (MI_s J171) 3 rfl) (fn (MI_s J171) 3 rfl) rfl (by omega) (by decide) ?_
                    obtain ⟨v179, hv179, ev179⟩ := vp_in_of (n := 300) (MI_rd J171 (i := a0) (by omega) (Or.inr rfl)) (by decide)
                    refine ex_top (w := nI v179) ev179 ?_
                    refine ex_iconst ok_X12_matched (mi 148 rfl) ?_
                    refine ex_iconst ok_X12_matched (mi 149 rfl) ?_
                    refine sm_V (As := [_, _, _, _, _, _]) ok_X12_matched (mi 150 rfl) rfl (s_X12_layAll hst J171 (κ := 3) (by decide) (Or.inr (vp_in_nI (N := 3) (by omega) (by decide))) (TO12 rfl) (Or.inl rfl) (Or.inl rfl) (Or.inl rfl)) rfl (fk (MI_s J171) 0 rfl) rfl rfl (by decide) (by decide) (Nat.le_of_ble_eq_true rfl) (by decide) SM_no (fun z180 g182 p181 => ?_)
                    obtain ⟨u184, eu184, u184p, J183⟩ := p181
                    cases eu184
                    obtain ⟨v185, rfl⟩ := u184p
                    refine ex_istore ok_X12_matched (mi 151 rfl) ?_
                    refine ex_iload_n ok_X12_matched (mi 152 rfl) rfl ?_
                    refine ex_if_ne (tgt := 240) ok_X12_matched (mi 153 rfl) rfl (fun h232 => ?_) (fun h232 => ?_)
                    · skip
                      refine ex_vret ok_X12_matched (mi 157 rfl) rfl ?_
                      exact ⟨_, rfl, rfl, (MI_Rw J183 (fun l k => (Or.inl k)))⟩
                    · skip
                      refine ex_aload_n ok_X12_matched (mi 154 rfl) rfl ?_
                      refine ex_iload_n ok_X12_matched (mi 155 rfl) rfl ?_
                      refine sm_V (As := [_]) ok_X12_matched (mi 156 rfl) rfl (s_X12_lead hst J183 (by omega) (Or.inr rfl)) rfl (fk (MI_s J183) 0 rfl) rfl rfl (by decide) (by decide) (Nat.le_of_ble_eq_true rfl) (by decide) SM_no (fun z186 g188 p187 => ?_)
                      obtain ⟨u190, eu190, u190p, J189⟩ := p187
                      cases eu190
                      obtain rfl : z186 = none := u190p
                      refine ex_vret ok_X12_matched (mi 157 rfl) rfl ?_
                      exact ⟨_, rfl, rfl, (MI_Rw J189 (fun l k => (Or.inl k)))⟩
                  | succ n172 ih172 =>
                    intro k172 he172  g167 J168 mk172_0
                    have hr172 : k172 < 300 := by omega
                    refine ex_iload_n ok_X12_matched (mi 114 rfl) rfl ?_
                    refine ex_aload_n ok_X12_matched (mi 115 rfl) rfl ?_
                    refine ex_getRx ok_X12_matched (mi 116 rfl) rfl rfl (fk (MI_s J168) 0 rfl) (fr (MI_s J168) 7 rfl) (fk (MI_s J168) 8 rfl) (by decide) ?_
                    refine ex_iload_n ok_X12_matched (mi 117 rfl) rfl ?_
                    refine sm_iald ok_X12_matched (mi 118 rfl) (fk (MI_s J168) 8 rfl) (fn (MI_s J168) 8 rfl) rfl (by omega) (by decide) ?_
                    obtain ⟨v191, hv191, ev191⟩ := vp_in_of (n := 300) (MI_bd J168 1 rfl (i := a0) (by omega)) (by decide)
                    refine ex_top (w := nI v191) ev191 ?_
                    refine ex_icmp_ge (tgt := 201) ok_X12_matched (mi 119 rfl) rfl (fun h179 => ?_) (fun h179 => ?_)
                    · skip
                      refine ex_aload_n ok_X12_matched (mi 131 rfl) rfl ?_
                      refine ex_getRx ok_X12_matched (mi 132 rfl) rfl rfl (fk (MI_s J168) 0 rfl) (fr (MI_s J168) 1 rfl) (fk (MI_s J168) 2 rfl) (by decide) ?_
                      refine ex_iload_n ok_X12_matched (mi 133 rfl) rfl ?_
                      refine ex_iconst ok_X12_matched (mi 134 rfl) ?_
                      refine mf_ph J168 ok_X12_matched (mi 135 rfl) (fk (MI_s J168) 2 rfl) (fn (MI_s J168) 2 rfl) rfl (by omega) (Or.inr (Or.inr rfl)) (fun g192 J193 K194 => ?_)
                      have mk195 := KK_mk K194 mk172_0
                      refine ex_aload_n ok_X12_matched (mi 136 rfl) rfl ?_
                      refine ex_iload_n ok_X12_matched (mi 137 rfl) rfl ?_
                      refine sf_Vp (As := [_]) ok_X12_matched (mi 138 rfl) rfl (s_X12_votersOfHistory hst (MI_s J193) (vp_in_nI (N := 3) (by omega) (by decide))) rfl (fk (MI_s J193) 0 rfl) rfl rfl (by decide) (by decide) (Nat.le_of_ble_eq_true rfl) (by decide) (fun z196 p197 => ?_)
                      obtain ⟨v200, rfl⟩ := p197
                      refine ex_istore_n ok_X12_matched (mi 139 rfl) ?_
                      refine ex_aload_n ok_X12_matched (mi 140 rfl) rfl ?_
                      refine ex_iconst ok_X12_matched (mi 141 rfl) ?_
                      refine ex_iload_n ok_X12_matched (mi 142 rfl) rfl ?_
                      refine ex_iload_n ok_X12_matched (mi 143 rfl) rfl ?_
                      refine ex_aload_n ok_X12_matched (mi 144 rfl) rfl ?_
                      refine ex_getRx ok_X12_matched (mi 145 rfl) rfl rfl (fk (MI_s J193) 0 rfl) (fr (MI_s J193) 2 rfl) (fk (MI_s J193) 3 rfl) (by decide) ?_
                      refine ex_iload_n ok_X12_matched (mi 146 rfl) rfl ?_
                      refine sm_iald ok_X12_matched (mi 147 rfl) (fk (MI_s J193) 3 rfl) (fn (MI_s J193) 3 rfl) rfl (by omega) (by decide) ?_
                      obtain ⟨v201, hv201, ev201⟩ := vp_in_of (n := 300) (MI_rd J193 (i := a0) (by omega) (Or.inr rfl)) (by decide)
                      refine ex_top (w := nI v201) ev201 ?_
                      refine ex_iconst ok_X12_matched (mi 148 rfl) ?_
                      refine ex_iconst ok_X12_matched (mi 149 rfl) ?_
                      refine sm_V (As := [_, _, _, _, _, _]) ok_X12_matched (mi 150 rfl) rfl (s_X12_layAll hst J193 (κ := 3) (by decide) (Or.inr (vp_in_nI (N := 3) (by omega) (by decide))) (TO12 rfl) (Or.inl rfl) (Or.inl rfl) (Or.inl rfl)) rfl (fk (MI_s J193) 0 rfl) rfl rfl (by decide) (by decide) (Nat.le_of_ble_eq_true rfl) (by decide) SM_no (fun z202 g204 p203 => ?_)
                      obtain ⟨u206, eu206, u206p, J205⟩ := p203
                      cases eu206
                      obtain ⟨v207, rfl⟩ := u206p
                      refine ex_istore ok_X12_matched (mi 151 rfl) ?_
                      refine ex_iload_n ok_X12_matched (mi 152 rfl) rfl ?_
                      refine ex_if_ne (tgt := 240) ok_X12_matched (mi 153 rfl) rfl (fun h232 => ?_) (fun h232 => ?_)
                      · skip
                        refine ex_vret ok_X12_matched (mi 157 rfl) rfl ?_
                        exact ⟨_, rfl, rfl, (MI_Rw J205 (fun l k => (Or.inl k)))⟩
                      · skip
                        refine ex_aload_n ok_X12_matched (mi 154 rfl) rfl ?_
                        refine ex_iload_n ok_X12_matched (mi 155 rfl) rfl ?_
                        refine sm_V (As := [_]) ok_X12_matched (mi 156 rfl) rfl (s_X12_lead hst J205 (by omega) (Or.inr rfl)) rfl (fk (MI_s J205) 0 rfl) rfl rfl (by decide) (by decide) (Nat.le_of_ble_eq_true rfl) (by decide) SM_no (fun z208 g210 p209 => ?_)
                        obtain ⟨u212, eu212, u212p, J211⟩ := p209
                        cases eu212
                        obtain rfl : z208 = none := u212p
                        refine ex_vret ok_X12_matched (mi 157 rfl) rfl ?_
                        exact ⟨_, rfl, rfl, (MI_Rw J211 (fun l k => (Or.inl k)))⟩
                    · skip
                      have l179 : k172 < v191 := Nat.lt_of_not_le (fun q => h179 (nI_le q (by omega)))
                      refine ex_aload_n ok_X12_matched (mi 120 rfl) rfl ?_
                      refine ex_getRx ok_X12_matched (mi 121 rfl) rfl rfl (fk (MI_s J168) 0 rfl) (fr (MI_s J168) 8 rfl) (fk (MI_s J168) 9 rfl) (by decide) ?_
                      refine ex_sipush ok_X12_matched (mi 122 rfl) ?_
                      refine ex_iload_n ok_X12_matched (mi 123 rfl) rfl ?_
                      refine ex_imul ok_X12_matched (mi 124 rfl) ?_
                      refine ex_top (w := (nI (300 * a0))) (nI_mulc rfl) ?_
                      refine ex_iload_n ok_X12_matched (mi 125 rfl) rfl ?_
                      refine ex_iadd ok_X12_matched (mi 126 rfl) ?_
                      refine ex_top (w := (nI (300 * a0 + k172))) (nI_add _ _) ?_
                      refine ex_iconst ok_X12_matched (mi 127 rfl) ?_
                      refine mf_A J168 ok_X12_matched (mi 128 rfl) (fk (MI_s J168) 9 rfl) (fn (MI_s J168) 9 rfl) rfl (by omega) (by decide) (by decide) (by decide) (by decide) (fun g213 J214 K215 => ?_)
                      have mk216 := KK_mk K215 mk172_0
                      refine ex_iincx (w := (nI (k172 + 1))) ok_X12_matched (mi 129 rfl) rfl (nI_1 _) ?_
                      refine ex_goto (tgt := 172) ok_X12_matched (mi 130 rfl) rfl ?_
                      exact ex_ls (ls' := [(0, .ref y), (1, .int (nI (a0))), (2, .int (nI (a1))), (3, .int (nI (k172 + 1)))]) ⟨rfl, rfl, rfl, rfl, trivial⟩ (ih172 (k172 + 1) (by omega) g213 J214 mk216)
                exact ex_ls (ls' := [(0, .ref y), (1, .int (nI (a0))), (2, .int (nI (a1))), (3, .int (nI 0))]) ⟨rfl, rfl, rfl, rfl, trivial⟩ (lp172 (300 - 0) (0) (by omega) g157 J158 mk110_0)
              · skip
                refine ex_vret ok_X12_matched (mi 111 rfl) rfl ?_
                exact ⟨_, rfl, rfl, (MI_Rw J158 (fun l k => (Or.inl k)))⟩
            | succ n110 ih110 =>
              intro k110 he110  g157 J158 mk110_0
              have hr110 : k110 < 300 := by omega
              refine ex_iload_n ok_X12_matched (mi 76 rfl) rfl ?_
              refine ex_aload_n ok_X12_matched (mi 77 rfl) rfl ?_
              refine ex_getRx ok_X12_matched (mi 78 rfl) rfl rfl (fk (MI_s J158) 0 rfl) (fr (MI_s J158) 53 rfl) (fk (MI_s J158) 54 rfl) (by decide) ?_
              refine ex_iload_n ok_X12_matched (mi 79 rfl) rfl ?_
              refine sm_iald ok_X12_matched (mi 80 rfl) (fk (MI_s J158) 54 rfl) (fn (MI_s J158) 54 rfl) rfl (by omega) (by decide) ?_
              refine ex_top (w := nI m) mk110_0.2.2.2.2.2.2.2.2.1 ?_
              refine ex_icmp_ge (tgt := 149) ok_X12_matched (mi 81 rfl) rfl (fun h117 => ?_) (fun h117 => ?_)
              · skip
                refine ex_aload_n ok_X12_matched (mi 99 rfl) rfl ?_
                refine ex_getRx ok_X12_matched (mi 100 rfl) rfl rfl (fk (MI_s J158) 0 rfl) (fr (MI_s J158) 6 rfl) (fk (MI_s J158) 7 rfl) (by decide) ?_
                refine ex_iload_n ok_X12_matched (mi 101 rfl) rfl ?_
                refine sm_iald ok_X12_matched (mi 102 rfl) (fk (MI_s J158) 7 rfl) (fn (MI_s J158) 7 rfl) rfl (by omega) (by decide) ?_
                refine ex_gen (fun w217 => ?_)
                refine ex_aload_n ok_X12_matched (mi 103 rfl) rfl ?_
                refine ex_getRx ok_X12_matched (mi 104 rfl) rfl rfl (fk (MI_s J158) 0 rfl) (fr (MI_s J158) 5 rfl) (fk (MI_s J158) 6 rfl) (by decide) ?_
                refine ex_iload_n ok_X12_matched (mi 105 rfl) rfl ?_
                refine sm_iald ok_X12_matched (mi 106 rfl) (fk (MI_s J158) 6 rfl) (fn (MI_s J158) 6 rfl) rfl (by omega) (by decide) ?_
                obtain ⟨v218, hv218, ev218⟩ := vp_in_of (n := 512) (MI_bd J158 0 rfl (i := a0) (by omega)) (by decide)
                refine ex_top (w := nI v218) ev218 ?_
                refine ex_iand ok_X12_matched (mi 107 rfl) ?_
                refine ex_gen (fun w219 => ?_)
                refine sf_Sp (As := [_]) ok_X12_matched (mi 108 rfl) rfl (s_X12_bits hst (MI_s J158)) rfl rfl rfl (by decide) (Nat.le_of_ble_eq_true rfl) (by decide) (fun z220 p221 => ?_)
                obtain ⟨v224, rfl⟩ := p221
                refine ex_iconst ok_X12_matched (mi 109 rfl) ?_
                refine ex_icmp_ge (tgt := 170) ok_X12_matched (mi 110 rfl) rfl (fun h166 => ?_) (fun h166 => ?_)
                · skip
                  refine ex_iconst ok_X12_matched (mi 112 rfl) ?_
                  refine ex_istore_n ok_X12_matched (mi 113 rfl) ?_
                  have lp172 : ∀ n172 k172 : Nat, k172 + n172 = 300 → ∀ (g225 : GT), MI y D c (fun j => R j ∨ j = a0) g225 → MK y g225 a1 2 m → ex_W G 5 0 0 M_X12_matched 172 [(0, .ref y), (1, .int (nI (a0))), (2, .int (nI (a1))), (3, .int (nI (k172)))] [] g225 (SM y D c R pN) := by
                    intro n172
                    induction n172 with
                    | zero =>
                      intro k172 he172  g225 J226 mk172_0
                      obtain rfl : k172 = 300 := by omega
                      refine ex_iload_n ok_X12_matched (mi 114 rfl) rfl ?_
                      refine ex_aload_n ok_X12_matched (mi 115 rfl) rfl ?_
                      refine ex_getRx ok_X12_matched (mi 116 rfl) rfl rfl (fk (MI_s J226) 0 rfl) (fr (MI_s J226) 7 rfl) (fk (MI_s J226) 8 rfl) (by decide) ?_
                      refine ex_iload_n ok_X12_matched (mi 117 rfl) rfl ?_
                      refine sm_iald ok_X12_matched (mi 118 rfl) (fk (MI_s J226) 8 rfl) (fn (MI_s J226) 8 rfl) rfl (by omega) (by decide) ?_
                      obtain ⟨v227, hv227, ev227⟩ := vp_in_of (n := 300) (MI_bd J226 1 rfl (i := a0) (by omega)) (by decide)
                      refine ex_top (w := nI v227) ev227 ?_
                      refine ex_icmp_ge (tgt := 201) ok_X12_matched (mi 119 rfl) rfl (fun _ => ?_) (fun hn => absurd (nI_le (b := 300) (a := v227) (by omega) (by omega)) hn)
                      refine ex_aload_n ok_X12_matched (mi 131 rfl) rfl ?_
                      refine ex_getRx ok_X12_matched (mi 132 rfl) rfl rfl (fk (MI_s J226) 0 rfl) (fr (MI_s J226) 1 rfl) (fk (MI_s J226) 2 rfl) (by decide) ?_
                      refine ex_iload_n ok_X12_matched (mi 133 rfl) rfl ?_
                      refine ex_iconst ok_X12_matched (mi 134 rfl) ?_
                      refine mf_ph J226 ok_X12_matched (mi 135 rfl) (fk (MI_s J226) 2 rfl) (fn (MI_s J226) 2 rfl) rfl (by omega) (Or.inr (Or.inr rfl)) (fun g228 J229 K230 => ?_)
                      have mk231 := KK_mk K230 mk172_0
                      refine ex_aload_n ok_X12_matched (mi 136 rfl) rfl ?_
                      refine ex_iload_n ok_X12_matched (mi 137 rfl) rfl ?_
                      refine sf_Vp (As := [_]) ok_X12_matched (mi 138 rfl) rfl (s_X12_votersOfHistory hst (MI_s J229) (vp_in_nI (N := 3) (by omega) (by decide))) rfl (fk (MI_s J229) 0 rfl) rfl rfl (by decide) (by decide) (Nat.le_of_ble_eq_true rfl) (by decide) (fun z232 p233 => ?_)
                      obtain ⟨v236, rfl⟩ := p233
                      refine ex_istore_n ok_X12_matched (mi 139 rfl) ?_
                      refine ex_aload_n ok_X12_matched (mi 140 rfl) rfl ?_
                      refine ex_iconst ok_X12_matched (mi 141 rfl) ?_
                      refine ex_iload_n ok_X12_matched (mi 142 rfl) rfl ?_
                      refine ex_iload_n ok_X12_matched (mi 143 rfl) rfl ?_
                      refine ex_aload_n ok_X12_matched (mi 144 rfl) rfl ?_
                      refine ex_getRx ok_X12_matched (mi 145 rfl) rfl rfl (fk (MI_s J229) 0 rfl) (fr (MI_s J229) 2 rfl) (fk (MI_s J229) 3 rfl) (by decide) ?_
                      refine ex_iload_n ok_X12_matched (mi 146 rfl) rfl ?_
                      refine sm_iald ok_X12_matched (mi 147 rfl) (fk (MI_s J229) 3 rfl) (fn (MI_s J229) 3 rfl) rfl (by omega) (by decide) ?_
                      obtain ⟨v237, hv237, ev237⟩ := vp_in_of (n := 300) (MI_rd J229 (i := a0) (by omega) (Or.inr rfl)) (by decide)
                      refine ex_top (w := nI v237) ev237 ?_
                      refine ex_iconst ok_X12_matched (mi 148 rfl) ?_
                      refine ex_iconst ok_X12_matched (mi 149 rfl) ?_
                      refine sm_V (As := [_, _, _, _, _, _]) ok_X12_matched (mi 150 rfl) rfl (s_X12_layAll hst J229 (κ := 3) (by decide) (Or.inr (vp_in_nI (N := 3) (by omega) (by decide))) (TO12 rfl) (Or.inl rfl) (Or.inl rfl) (Or.inl rfl)) rfl (fk (MI_s J229) 0 rfl) rfl rfl (by decide) (by decide) (Nat.le_of_ble_eq_true rfl) (by decide) SM_no (fun z238 g240 p239 => ?_)
                      obtain ⟨u242, eu242, u242p, J241⟩ := p239
                      cases eu242
                      obtain ⟨v243, rfl⟩ := u242p
                      refine ex_istore ok_X12_matched (mi 151 rfl) ?_
                      refine ex_iload_n ok_X12_matched (mi 152 rfl) rfl ?_
                      refine ex_if_ne (tgt := 240) ok_X12_matched (mi 153 rfl) rfl (fun h232 => ?_) (fun h232 => ?_)
                      · skip
                        refine ex_vret ok_X12_matched (mi 157 rfl) rfl ?_
                        exact ⟨_, rfl, rfl, (MI_Rw J241 (fun l k => (Or.inl k)))⟩
                      · skip
                        refine ex_aload_n ok_X12_matched (mi 154 rfl) rfl ?_
                        refine ex_iload_n ok_X12_matched (mi 155 rfl) rfl ?_
                        refine sm_V (As := [_]) ok_X12_matched (mi 156 rfl) rfl (s_X12_lead hst J241 (by omega) (Or.inr rfl)) rfl (fk (MI_s J241) 0 rfl) rfl rfl (by decide) (by decide) (Nat.le_of_ble_eq_true rfl) (by decide) SM_no (fun z244 g246 p245 => ?_)
                        obtain ⟨u248, eu248, u248p, J247⟩ := p245
                        cases eu248
                        obtain rfl : z244 = none := u248p
                        refine ex_vret ok_X12_matched (mi 157 rfl) rfl ?_
                        exact ⟨_, rfl, rfl, (MI_Rw J247 (fun l k => (Or.inl k)))⟩
                    | succ n172 ih172 =>
                      intro k172 he172  g225 J226 mk172_0
                      have hr172 : k172 < 300 := by omega
                      refine ex_iload_n ok_X12_matched (mi 114 rfl) rfl ?_
                      refine ex_aload_n ok_X12_matched (mi 115 rfl) rfl ?_
                      refine ex_getRx ok_X12_matched (mi 116 rfl) rfl rfl (fk (MI_s J226) 0 rfl) (fr (MI_s J226) 7 rfl) (fk (MI_s J226) 8 rfl) (by decide) ?_
                      refine ex_iload_n ok_X12_matched (mi 117 rfl) rfl ?_
                      refine sm_iald ok_X12_matched (mi 118 rfl) (fk (MI_s J226) 8 rfl) (fn (MI_s J226) 8 rfl) rfl (by omega) (by decide) ?_
                      obtain ⟨v249, hv249, ev249⟩ := vp_in_of (n := 300) (MI_bd J226 1 rfl (i := a0) (by omega)) (by decide)
                      refine ex_top (w := nI v249) ev249 ?_
                      refine ex_icmp_ge (tgt := 201) ok_X12_matched (mi 119 rfl) rfl (fun h179 => ?_) (fun h179 => ?_)
                      · skip
                        refine ex_aload_n ok_X12_matched (mi 131 rfl) rfl ?_
                        refine ex_getRx ok_X12_matched (mi 132 rfl) rfl rfl (fk (MI_s J226) 0 rfl) (fr (MI_s J226) 1 rfl) (fk (MI_s J226) 2 rfl) (by decide) ?_
                        refine ex_iload_n ok_X12_matched (mi 133 rfl) rfl ?_
                        refine ex_iconst ok_X12_matched (mi 134 rfl) ?_
                        refine mf_ph J226 ok_X12_matched (mi 135 rfl) (fk (MI_s J226) 2 rfl) (fn (MI_s J226) 2 rfl) rfl (by omega) (Or.inr (Or.inr rfl)) (fun g250 J251 K252 => ?_)
                        have mk253 := KK_mk K252 mk172_0
                        refine ex_aload_n ok_X12_matched (mi 136 rfl) rfl ?_
                        refine ex_iload_n ok_X12_matched (mi 137 rfl) rfl ?_
                        refine sf_Vp (As := [_]) ok_X12_matched (mi 138 rfl) rfl (s_X12_votersOfHistory hst (MI_s J251) (vp_in_nI (N := 3) (by omega) (by decide))) rfl (fk (MI_s J251) 0 rfl) rfl rfl (by decide) (by decide) (Nat.le_of_ble_eq_true rfl) (by decide) (fun z254 p255 => ?_)
                        obtain ⟨v258, rfl⟩ := p255
                        refine ex_istore_n ok_X12_matched (mi 139 rfl) ?_
                        refine ex_aload_n ok_X12_matched (mi 140 rfl) rfl ?_
                        refine ex_iconst ok_X12_matched (mi 141 rfl) ?_
                        refine ex_iload_n ok_X12_matched (mi 142 rfl) rfl ?_
                        refine ex_iload_n ok_X12_matched (mi 143 rfl) rfl ?_
                        refine ex_aload_n ok_X12_matched (mi 144 rfl) rfl ?_
                        refine ex_getRx ok_X12_matched (mi 145 rfl) rfl rfl (fk (MI_s J251) 0 rfl) (fr (MI_s J251) 2 rfl) (fk (MI_s J251) 3 rfl) (by decide) ?_
                        refine ex_iload_n ok_X12_matched (mi 146 rfl) rfl ?_
                        refine sm_iald ok_X12_matched (mi 147 rfl) (fk (MI_s J251) 3 rfl) (fn (MI_s J251) 3 rfl) rfl (by omega) (by decide) ?_
                        obtain ⟨v259, hv259, ev259⟩ := vp_in_of (n := 300) (MI_rd J251 (i := a0) (by omega) (Or.inr rfl)) (by decide)
                        refine ex_top (w := nI v259) ev259 ?_
                        refine ex_iconst ok_X12_matched (mi 148 rfl) ?_
                        refine ex_iconst ok_X12_matched (mi 149 rfl) ?_
                        refine sm_V (As := [_, _, _, _, _, _]) ok_X12_matched (mi 150 rfl) rfl (s_X12_layAll hst J251 (κ := 3) (by decide) (Or.inr (vp_in_nI (N := 3) (by omega) (by decide))) (TO12 rfl) (Or.inl rfl) (Or.inl rfl) (Or.inl rfl)) rfl (fk (MI_s J251) 0 rfl) rfl rfl (by decide) (by decide) (Nat.le_of_ble_eq_true rfl) (by decide) SM_no (fun z260 g262 p261 => ?_)
                        obtain ⟨u264, eu264, u264p, J263⟩ := p261
                        cases eu264
                        obtain ⟨v265, rfl⟩ := u264p
                        refine ex_istore ok_X12_matched (mi 151 rfl) ?_
                        refine ex_iload_n ok_X12_matched (mi 152 rfl) rfl ?_
                        refine ex_if_ne (tgt := 240) ok_X12_matched (mi 153 rfl) rfl (fun h232 => ?_) (fun h232 => ?_)
                        · skip
                          refine ex_vret ok_X12_matched (mi 157 rfl) rfl ?_
                          exact ⟨_, rfl, rfl, (MI_Rw J263 (fun l k => (Or.inl k)))⟩
                        · skip
                          refine ex_aload_n ok_X12_matched (mi 154 rfl) rfl ?_
                          refine ex_iload_n ok_X12_matched (mi 155 rfl) rfl ?_
                          refine sm_V (As := [_]) ok_X12_matched (mi 156 rfl) rfl (s_X12_lead hst J263 (by omega) (Or.inr rfl)) rfl (fk (MI_s J263) 0 rfl) rfl rfl (by decide) (by decide) (Nat.le_of_ble_eq_true rfl) (by decide) SM_no (fun z266 g268 p267 => ?_)
                          obtain ⟨u270, eu270, u270p, J269⟩ := p267
                          cases eu270
                          obtain rfl : z266 = none := u270p
                          refine ex_vret ok_X12_matched (mi 157 rfl) rfl ?_
                          exact ⟨_, rfl, rfl, (MI_Rw J269 (fun l k => (Or.inl k)))⟩
                      · skip
                        have l179 : k172 < v249 := Nat.lt_of_not_le (fun q => h179 (nI_le q (by omega)))
                        refine ex_aload_n ok_X12_matched (mi 120 rfl) rfl ?_
                        refine ex_getRx ok_X12_matched (mi 121 rfl) rfl rfl (fk (MI_s J226) 0 rfl) (fr (MI_s J226) 8 rfl) (fk (MI_s J226) 9 rfl) (by decide) ?_
                        refine ex_sipush ok_X12_matched (mi 122 rfl) ?_
                        refine ex_iload_n ok_X12_matched (mi 123 rfl) rfl ?_
                        refine ex_imul ok_X12_matched (mi 124 rfl) ?_
                        refine ex_top (w := (nI (300 * a0))) (nI_mulc rfl) ?_
                        refine ex_iload_n ok_X12_matched (mi 125 rfl) rfl ?_
                        refine ex_iadd ok_X12_matched (mi 126 rfl) ?_
                        refine ex_top (w := (nI (300 * a0 + k172))) (nI_add _ _) ?_
                        refine ex_iconst ok_X12_matched (mi 127 rfl) ?_
                        refine mf_A J226 ok_X12_matched (mi 128 rfl) (fk (MI_s J226) 9 rfl) (fn (MI_s J226) 9 rfl) rfl (by omega) (by decide) (by decide) (by decide) (by decide) (fun g271 J272 K273 => ?_)
                        have mk274 := KK_mk K273 mk172_0
                        refine ex_iincx (w := (nI (k172 + 1))) ok_X12_matched (mi 129 rfl) rfl (nI_1 _) ?_
                        refine ex_goto (tgt := 172) ok_X12_matched (mi 130 rfl) rfl ?_
                        exact ex_ls (ls' := [(0, .ref y), (1, .int (nI (a0))), (2, .int (nI (a1))), (3, .int (nI (k172 + 1)))]) ⟨rfl, rfl, rfl, rfl, trivial⟩ (ih172 (k172 + 1) (by omega) g271 J272 mk274)
                  exact ex_ls (ls' := [(0, .ref y), (1, .int (nI (a0))), (2, .int (nI (a1))), (3, .int (nI 0))]) ⟨rfl, rfl, rfl, rfl, trivial⟩ (lp172 (300 - 0) (0) (by omega) g157 J158 mk110_0)
                · skip
                  refine ex_vret ok_X12_matched (mi 111 rfl) rfl ?_
                  exact ⟨_, rfl, rfl, (MI_Rw J158 (fun l k => (Or.inl k)))⟩
              · skip
                have l117 : k110 < m := Nat.lt_of_not_le (fun q => h117 (nI_le q (by omega)))
                refine ex_aload_n ok_X12_matched (mi 82 rfl) rfl ?_
                refine ex_getRx ok_X12_matched (mi 83 rfl) rfl rfl (fk (MI_s J158) 0 rfl) (fr (MI_s J158) 8 rfl) (fk (MI_s J158) 9 rfl) (by decide) ?_
                refine ex_sipush ok_X12_matched (mi 84 rfl) ?_
                refine ex_iload_n ok_X12_matched (mi 85 rfl) rfl ?_
                refine ex_imul ok_X12_matched (mi 86 rfl) ?_
                refine ex_top (w := (nI (300 * a0))) (nI_mulc rfl) ?_
                refine ex_aload_n ok_X12_matched (mi 87 rfl) rfl ?_
                refine ex_iload_n ok_X12_matched (mi 88 rfl) rfl ?_
                refine ex_iload_n ok_X12_matched (mi 89 rfl) rfl ?_
                refine sf_Vp (As := [_, _]) ok_X12_matched (mi 90 rfl) rfl (s_entryRound hst (MI_s J158) (m := m) (by omega) (by omega) (by omega) (mk110_0.2.2.2.2.2.2.2.2.2.1 (by decide))) rfl (fk (MI_s J158) 0 rfl) rfl rfl (by decide) (by decide) (Nat.le_of_ble_eq_true rfl) (by decide) (fun z275 p276 => ?_)
                obtain ⟨v279, hv279, rfl⟩ := p276
                refine ex_iadd ok_X12_matched (mi 91 rfl) ?_
                refine ex_top (w := (nI (300 * a0 + v279))) (nI_add _ _) ?_
                refine ex_aload_n ok_X12_matched (mi 92 rfl) rfl ?_
                refine ex_iload_n ok_X12_matched (mi 93 rfl) rfl ?_
                refine ex_iload_n ok_X12_matched (mi 94 rfl) rfl ?_
                refine sf_Vp (As := [_, _]) ok_X12_matched (mi 95 rfl) rfl (s_entryGroup hst (MI_s J158) (m := m) (by omega) (by omega) (by omega)) rfl (fk (MI_s J158) 0 rfl) rfl rfl (by decide) (by decide) (Nat.le_of_ble_eq_true rfl) (by decide) (fun z280 p281 => ?_)
                obtain ⟨v284, rfl⟩ := p281
                refine mf_A J158 ok_X12_matched (mi 96 rfl) (fk (MI_s J158) 9 rfl) (fn (MI_s J158) 9 rfl) rfl (by omega) (by decide) (by decide) (by decide) (by decide) (fun g285 J286 K287 => ?_)
                have mk288 := KK_mk K287 mk110_0
                refine ex_iincx (w := (nI (k110 + 1))) ok_X12_matched (mi 97 rfl) rfl (nI_1 _) ?_
                refine ex_goto (tgt := 110) ok_X12_matched (mi 98 rfl) rfl ?_
                exact ex_ls (ls' := [(0, .ref y), (1, .int (nI (a0))), (2, .int (nI (a1))), (3, .int (nI (k110 + 1)))]) ⟨rfl, rfl, rfl, rfl, trivial⟩ (ih110 (k110 + 1) (by omega) g285 J286 mk288)
          exact ex_ls (ls' := [(0, .ref y), (1, .int (nI (a0))), (2, .int (nI (a1))), (3, .int (nI 0))]) ⟨rfl, rfl, rfl, rfl, trivial⟩ (lp110 (300 - 0) (0) (by omega) g153 J154 mk156)
      · skip
        refine ex_vret ok_X12_matched (mi 30 rfl) rfl ?_
        exact ⟨_, rfl, rfl, (MI_Rw J1 (fun l k => (Or.inl k)))⟩
