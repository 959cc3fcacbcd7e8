theorem s_X12_toVoter_3 {G : GE} (hst : (ge_l G).stackTraces = false) {y c : Nat} {D : UT} {R : Nat → Prop} {g : GT} (I : MI y D c R g) {a0 : Nat} (ha0 : a0 < 12) {a1 : Nat} (ha1 : a1 < 402) {m : Nat} (hmk : MK y g a1 3 m) : ex_M G 4 0 0 my_X12_toVoter [.ref y, .int (nI (a0)), .int (nI (a1))] g (SM y D c R pN) := by
  refine ex_M_of ok_X12_toVoter cw_X12_toVoter rfl hst (Nat.le_of_ble_eq_true rfl) ?_
  have hm3 : m < 301 := hmk.2.2.2.2.2.2.2.1
  refine ex_aload_n ok_X12_toVoter (mi 0 rfl) rfl ?_
  refine ex_getRx ok_X12_toVoter (mi 1 rfl) rfl rfl (fk (MI_s I) 0 rfl) (fr (MI_s I) 50 rfl) (fk (MI_s I) 51 rfl) (by decide) ?_
  refine ex_iload_n ok_X12_toVoter (mi 2 rfl) rfl ?_
  refine sm_iald ok_X12_toVoter (mi 3 rfl) (fk (MI_s I) 51 rfl) (fn (MI_s I) 51 rfl) rfl (by omega) (by decide) ?_
  obtain ⟨v1, hv1, ev1⟩ := vp_in_of (n := 3) (vb_in hmk.2.2.1 (by decide)) (by decide)
  refine ex_top (w := nI v1) ev1 ?_
  refine ex_istore_n ok_X12_toVoter (mi 4 rfl) ?_
  refine ex_aload_n ok_X12_toVoter (mi 5 rfl) rfl ?_
  refine ex_getRx ok_X12_toVoter (mi 6 rfl) rfl rfl (fk (MI_s I) 0 rfl) (fr (MI_s I) 52 rfl) (fk (MI_s I) 53 rfl) (by decide) ?_
  refine ex_iconst ok_X12_toVoter (mi 7 rfl) ?_
  refine ex_iload_n ok_X12_toVoter (mi 8 rfl) rfl ?_
  refine ex_imul ok_X12_toVoter (mi 9 rfl) ?_
  refine ex_top (w := (nI (3 * a1))) (nI_mulc rfl) ?_
  refine sm_iald ok_X12_toVoter (mi 10 rfl) (fk (MI_s I) 53 rfl) (fn (MI_s I) 53 rfl) rfl (by omega) (by decide) ?_
  refine ex_gen (fun w2 => ?_)
  refine ex_istore ok_X12_toVoter (mi 11 rfl) ?_
  refine ex_aload_n ok_X12_toVoter (mi 12 rfl) rfl ?_
  refine ex_getRx ok_X12_toVoter (mi 13 rfl) rfl rfl (fk (MI_s I) 0 rfl) (fr (MI_s I) 49 rfl) (fk (MI_s I) 50 rfl) (by decide) ?_
  refine ex_iload_n ok_X12_toVoter (mi 14 rfl) rfl ?_
  refine sm_iald ok_X12_toVoter (mi 15 rfl) (fk (MI_s I) 50 rfl) (fn (MI_s I) 50 rfl) rfl (by omega) (by decide) ?_
  refine ex_top (w := nI 3) hmk.1 ?_
  refine ex_bipush ok_X12_toVoter (mi 16 rfl) ?_
  refine ex_icmp_ne (tgt := 104) ok_X12_toVoter (mi 17 rfl) rfl (fun _ => ?_) (fun hn => absurd hn (by decide))
  refine ex_iload ok_X12_toVoter (mi 63 rfl) rfl ?_
  refine ex_aload_n ok_X12_toVoter (mi 64 rfl) rfl ?_
  refine ex_getRx ok_X12_toVoter (mi 65 rfl) rfl rfl (fk (MI_s I) 0 rfl) (fr (MI_s I) 42 rfl) (fk (MI_s I) 43 rfl) (by decide) ?_
  refine ex_iload_n ok_X12_toVoter (mi 66 rfl) rfl ?_
  refine sm_iald ok_X12_toVoter (mi 67 rfl) (fk (MI_s I) 43 rfl) (fn (MI_s I) 43 rfl) rfl (by omega) (by decide) ?_
  refine ex_gen (fun w3 => ?_)
  refine ex_icmp_ge (tgt := 135) ok_X12_toVoter (mi 68 rfl) rfl (fun h112 => ?_) (fun h112 => ?_)
  · skip
    refine ex_aload_n ok_X12_toVoter (mi 82 rfl) rfl ?_
    refine ex_getRx ok_X12_toVoter (mi 83 rfl) rfl rfl (fk (MI_s I) 0 rfl) (fr (MI_s I) 42 rfl) (fk (MI_s I) 43 rfl) (by decide) ?_
    refine ex_iload_n ok_X12_toVoter (mi 84 rfl) rfl ?_
    refine ex_iload ok_X12_toVoter (mi 85 rfl) rfl ?_
    refine mf_A I ok_X12_toVoter (mi 86 rfl) (fk (MI_s I) 43 rfl) (fn (MI_s I) 43 rfl) rfl (by omega) (by decide) (by decide) (by decide) (by decide) (fun g4 J5 K6 => ?_)
    have mk7 := KK_mk K6 hmk
    refine ex_aload_n ok_X12_toVoter (mi 87 rfl) rfl ?_
    refine ex_getRx ok_X12_toVoter (mi 88 rfl) rfl rfl (fk (MI_s J5) 0 rfl) (fr (MI_s J5) 49 rfl) (fk (MI_s J5) 50 rfl) (by decide) ?_
    refine ex_iload_n ok_X12_toVoter (mi 89 rfl) rfl ?_
    refine sm_iald ok_X12_toVoter (mi 90 rfl) (fk (MI_s J5) 50 rfl) (fn (MI_s J5) 50 rfl) rfl (by omega) (by decide) ?_
    refine ex_top (w := nI 3) mk7.1 ?_
    refine ex_iconst ok_X12_toVoter (mi 91 rfl) ?_
    refine ex_icmp_ne (tgt := 164) ok_X12_toVoter (mi 92 rfl) rfl (fun hn => absurd (by decide) hn) (fun _ => ?_)
    refine ex_aload_n ok_X12_toVoter (mi 93 rfl) rfl ?_
    refine ex_iload_n ok_X12_toVoter (mi 94 rfl) rfl ?_
    refine ex_iload_n ok_X12_toVoter (mi 95 rfl) rfl ?_
    refine ex_iload ok_X12_toVoter (mi 96 rfl) rfl ?_
    refine sm_V (As := [_, _, _]) ok_X12_toVoter (mi 97 rfl) rfl (s_X12_ask hst J5 (by omega) (by omega)) rfl (fk (MI_s J5) 0 rfl) rfl rfl (by decide) (by decide) (Nat.le_of_ble_eq_true rfl) (by decide) SM_no (fun z8 g10 p9 => ?_)
    obtain ⟨u12, eu12, u12p, J11⟩ := p9
    cases eu12
    obtain rfl : z8 = none := u12p
    refine ex_goto (tgt := 314) ok_X12_toVoter (mi 98 rfl) rfl ?_
    refine ex_vret ok_X12_toVoter (mi 196 rfl) rfl ?_
    exact ⟨_, rfl, rfl, J11⟩
  · skip
    refine ex_aload_n ok_X12_toVoter (mi 69 rfl) rfl ?_
    refine ex_bipush ok_X12_toVoter (mi 70 rfl) ?_
    refine ex_iload_n ok_X12_toVoter (mi 71 rfl) rfl ?_
    refine ex_iload_n ok_X12_toVoter (mi 72 rfl) rfl ?_
    refine ex_iload ok_X12_toVoter (mi 73 rfl) rfl ?_
    refine ex_aload_n ok_X12_toVoter (mi 74 rfl) rfl ?_
    refine ex_getRx ok_X12_toVoter (mi 75 rfl) rfl rfl (fk (MI_s I) 0 rfl) (fr (MI_s I) 42 rfl) (fk (MI_s I) 43 rfl) (by decide) ?_
    refine ex_iload_n ok_X12_toVoter (mi 76 rfl) rfl ?_
    refine sm_iald ok_X12_toVoter (mi 77 rfl) (fk (MI_s I) 43 rfl) (fn (MI_s I) 43 rfl) rfl (by omega) (by decide) ?_
    refine ex_gen (fun w13 => ?_)
    refine ex_iconst ok_X12_toVoter (mi 78 rfl) ?_
    refine sm_V (As := [_, _, _, _, _, _]) ok_X12_toVoter (mi 79 rfl) rfl (s_X12_lay hst I (κ := 24) (by decide) (Or.inl rfl) (Or.inr (vp_in_nI (N := 3) (by omega) (by decide))) (Or.inl rfl) (Or.inl rfl) (Or.inl rfl)) rfl (fk (MI_s I) 0 rfl) rfl rfl (by decide) (by decide) (Nat.le_of_ble_eq_true rfl) (by decide) LV_no (fun z14 g16 p15 => ?_)
    obtain ⟨b18, eb18, hb18, J17, lb18⟩ := p15
    cases eb18
    refine ex_istore ok_X12_toVoter (mi 80 rfl) ?_
    refine ex_vret ok_X12_toVoter (mi 81 rfl) rfl ?_
    exact ⟨_, rfl, rfl, J17⟩
theorem s_X12_toVoter_5 {G : GE} (hst : (ge_l G).stackTraces = false) {y c : Nat} {D : UT} {R : Nat → Prop} {g : GT} (I : MI y D c R g) {a0 : Nat} (ha0 : a0 < 12) {a1 : Nat} (ha1 : a1 < 402) {m : Nat} (hmk : MK y g a1 5 m) : ex_M G 4 0 0 my_X12_toVoter [.ref y, .int (nI (a0)), .int (nI (a1))] g (SM y D c R pN) := by
  refine ex_M_of ok_X12_toVoter cw_X12_toVoter rfl hst (Nat.le_of_ble_eq_true rfl) ?_
  have hm3 : m < 301 := hmk.2.2.2.2.2.2.2.1
  refine ex_aload_n ok_X12_toVoter (mi 0 rfl) rfl ?_
  refine ex_getRx ok_X12_toVoter (mi 1 rfl) rfl rfl (fk (MI_s I) 0 rfl) (fr (MI_s I) 50 rfl) (fk (MI_s I) 51 rfl) (by decide) ?_
  refine ex_iload_n ok_X12_toVoter (mi 2 rfl) rfl ?_
  refine sm_iald ok_X12_toVoter (mi 3 rfl) (fk (MI_s I) 51 rfl) (fn (MI_s I) 51 rfl) rfl (by omega) (by decide) ?_
  obtain ⟨v1, hv1, ev1⟩ := vp_in_of (n := 3) (vb_in hmk.2.2.1 (by decide)) (by decide)
  refine ex_top (w := nI v1) ev1 ?_
  refine ex_istore_n ok_X12_toVoter (mi 4 rfl) ?_
  refine ex_aload_n ok_X12_toVoter (mi 5 rfl) rfl ?_
  refine ex_getRx ok_X12_toVoter (mi 6 rfl) rfl rfl (fk (MI_s I) 0 rfl) (fr (MI_s I) 52 rfl) (fk (MI_s I) 53 rfl) (by decide) ?_
  refine ex_iconst ok_X12_toVoter (mi 7 rfl) ?_
  refine ex_iload_n ok_X12_toVoter (mi 8 rfl) rfl ?_
  refine ex_imul ok_X12_toVoter (mi 9 rfl) ?_
  refine ex_top (w := (nI (3 * a1))) (nI_mulc rfl) ?_
  refine sm_iald ok_X12_toVoter (mi 10 rfl) (fk (MI_s I) 53 rfl) (fn (MI_s I) 53 rfl) rfl (by omega) (by decide) ?_
  obtain ⟨v2, hv2, ev2⟩ := vp_in_of (n := 300) (vb_in hmk.2.2.2.1 (by decide)) (by decide)
  refine ex_top (w := nI v2) ev2 ?_
  refine ex_istore ok_X12_toVoter (mi 11 rfl) ?_
  refine ex_aload_n ok_X12_toVoter (mi 12 rfl) rfl ?_
  refine ex_getRx ok_X12_toVoter (mi 13 rfl) rfl rfl (fk (MI_s I) 0 rfl) (fr (MI_s I) 49 rfl) (fk (MI_s I) 50 rfl) (by decide) ?_
  refine ex_iload_n ok_X12_toVoter (mi 14 rfl) rfl ?_
  refine sm_iald ok_X12_toVoter (mi 15 rfl) (fk (MI_s I) 50 rfl) (fn (MI_s I) 50 rfl) rfl (by omega) (by decide) ?_
  refine ex_top (w := nI 5) hmk.1 ?_
  refine ex_bipush ok_X12_toVoter (mi 16 rfl) ?_
  refine ex_icmp_ne (tgt := 104) ok_X12_toVoter (mi 17 rfl) rfl (fun _ => ?_) (fun hn => absurd hn (by decide))
  refine ex_iload ok_X12_toVoter (mi 63 rfl) rfl ?_
  refine ex_aload_n ok_X12_toVoter (mi 64 rfl) rfl ?_
  refine ex_getRx ok_X12_toVoter (mi 65 rfl) rfl rfl (fk (MI_s I) 0 rfl) (fr (MI_s I) 42 rfl) (fk (MI_s I) 43 rfl) (by decide) ?_
  refine ex_iload_n ok_X12_toVoter (mi 66 rfl) rfl ?_
  refine sm_iald ok_X12_toVoter (mi 67 rfl) (fk (MI_s I) 43 rfl) (fn (MI_s I) 43 rfl) rfl (by omega) (by decide) ?_
  refine ex_gen (fun w3 => ?_)
  refine ex_icmp_ge (tgt := 135) ok_X12_toVoter (mi 68 rfl) rfl (fun h112 => ?_) (fun h112 => ?_)
  · skip
    refine ex_aload_n ok_X12_toVoter (mi 82 rfl) rfl ?_
    refine ex_getRx ok_X12_toVoter (mi 83 rfl) rfl rfl (fk (MI_s I) 0 rfl) (fr (MI_s I) 42 rfl) (fk (MI_s I) 43 rfl) (by decide) ?_
    refine ex_iload_n ok_X12_toVoter (mi 84 rfl) rfl ?_
    refine ex_iload ok_X12_toVoter (mi 85 rfl) rfl ?_
    refine mf_A I ok_X12_toVoter (mi 86 rfl) (fk (MI_s I) 43 rfl) (fn (MI_s I) 43 rfl) rfl (by omega) (by decide) (by decide) (by decide) (by decide) (fun g4 J5 K6 => ?_)
    have mk7 := KK_mk K6 hmk
    refine ex_aload_n ok_X12_toVoter (mi 87 rfl) rfl ?_
    refine ex_getRx ok_X12_toVoter (mi 88 rfl) rfl rfl (fk (MI_s J5) 0 rfl) (fr (MI_s J5) 49 rfl) (fk (MI_s J5) 50 rfl) (by decide) ?_
    refine ex_iload_n ok_X12_toVoter (mi 89 rfl) rfl ?_
    refine sm_iald ok_X12_toVoter (mi 90 rfl) (fk (MI_s J5) 50 rfl) (fn (MI_s J5) 50 rfl) rfl (by omega) (by decide) ?_
    refine ex_top (w := nI 5) mk7.1 ?_
    refine ex_iconst ok_X12_toVoter (mi 91 rfl) ?_
    refine ex_icmp_ne (tgt := 164) ok_X12_toVoter (mi 92 rfl) rfl (fun _ => ?_) (fun hn => absurd hn (by decide))
    refine ex_aload_n ok_X12_toVoter (mi 99 rfl) rfl ?_
    refine ex_getRx ok_X12_toVoter (mi 100 rfl) rfl rfl (fk (MI_s J5) 0 rfl) (fr (MI_s J5) 49 rfl) (fk (MI_s J5) 50 rfl) (by decide) ?_
    refine ex_iload_n ok_X12_toVoter (mi 101 rfl) rfl ?_
    refine sm_iald ok_X12_toVoter (mi 102 rfl) (fk (MI_s J5) 50 rfl) (fn (MI_s J5) 50 rfl) rfl (by omega) (by decide) ?_
    refine ex_top (w := nI 5) mk7.1 ?_
    refine ex_iconst ok_X12_toVoter (mi 103 rfl) ?_
    refine ex_icmp_ne (tgt := 259) ok_X12_toVoter (mi 104 rfl) rfl (fun hn => absurd (by decide) hn) (fun _ => ?_)
    refine ex_aload_n ok_X12_toVoter (mi 105 rfl) rfl ?_
    refine ex_getRx ok_X12_toVoter (mi 106 rfl) rfl rfl (fk (MI_s J5) 0 rfl) (fr (MI_s J5) 52 rfl) (fk (MI_s J5) 53 rfl) (by decide) ?_
    refine ex_iconst ok_X12_toVoter (mi 107 rfl) ?_
    refine ex_iload_n ok_X12_toVoter (mi 108 rfl) rfl ?_
    refine ex_imul ok_X12_toVoter (mi 109 rfl) ?_
    refine ex_top (w := (nI (3 * a1))) (nI_mulc rfl) ?_
    refine ex_iconst ok_X12_toVoter (mi 110 rfl) ?_
    refine ex_iadd ok_X12_toVoter (mi 111 rfl) ?_
    refine ex_top (w := (nI (3 * a1 + 1))) (nI_add _ 1) ?_
    refine sm_iald ok_X12_toVoter (mi 112 rfl) (fk (MI_s J5) 53 rfl) (fn (MI_s J5) 53 rfl) rfl (by omega) (by decide) ?_
    obtain ⟨v8, hv8, ev8⟩ := vp_in_of (n := 16) (vb_in mk7.2.2.2.2.1 (by decide)) (by decide)
    refine ex_top (w := nI v8) ev8 ?_
    refine ex_istore ok_X12_toVoter (mi 113 rfl) ?_
    refine ex_aload_n ok_X12_toVoter (mi 114 rfl) rfl ?_
    refine ex_getRx ok_X12_toVoter (mi 115 rfl) rfl rfl (fk (MI_s J5) 0 rfl) (fr (MI_s J5) 44 rfl) (fk (MI_s J5) 45 rfl) (by decide) ?_
    refine ex_bipush ok_X12_toVoter (mi 116 rfl) ?_
    refine ex_iload_n ok_X12_toVoter (mi 117 rfl) rfl ?_
    refine ex_imul ok_X12_toVoter (mi 118 rfl) ?_
    refine ex_top (w := (nI (16 * a0))) (nI_mulc rfl) ?_
    refine ex_iload ok_X12_toVoter (mi 119 rfl) rfl ?_
    refine ex_iadd ok_X12_toVoter (mi 120 rfl) ?_
    refine ex_top (w := (nI (16 * a0 + v8))) (nI_add _ _) ?_
    refine ex_iload ok_X12_toVoter (mi 121 rfl) rfl ?_
    refine mf_A J5 ok_X12_toVoter (mi 122 rfl) (fk (MI_s J5) 45 rfl) (fn (MI_s J5) 45 rfl) rfl (by omega) (by decide) (by decide) (by decide) (by decide) (fun g9 J10 K11 => ?_)
    have mk12 := KK_mk K11 mk7
    refine ex_aload_n ok_X12_toVoter (mi 123 rfl) rfl ?_
    refine ex_getRx ok_X12_toVoter (mi 124 rfl) rfl rfl (fk (MI_s J10) 0 rfl) (fr (MI_s J10) 45 rfl) (fk (MI_s J10) 46 rfl) (by decide) ?_
    refine ex_bipush ok_X12_toVoter (mi 125 rfl) ?_
    refine ex_iload_n ok_X12_toVoter (mi 126 rfl) rfl ?_
    refine ex_imul ok_X12_toVoter (mi 127 rfl) ?_
    refine ex_top (w := (nI (16 * a0))) (nI_mulc rfl) ?_
    refine ex_iload ok_X12_toVoter (mi 128 rfl) rfl ?_
    refine ex_iadd ok_X12_toVoter (mi 129 rfl) ?_
    refine ex_top (w := (nI (16 * a0 + v8))) (nI_add _ _) ?_
    refine ex_aload_n ok_X12_toVoter (mi 130 rfl) rfl ?_
    refine ex_getRx ok_X12_toVoter (mi 131 rfl) rfl rfl (fk (MI_s J10) 0 rfl) (fr (MI_s J10) 52 rfl) (fk (MI_s J10) 53 rfl) (by decide) ?_
    refine ex_iconst ok_X12_toVoter (mi 132 rfl) ?_
    refine ex_iload_n ok_X12_toVoter (mi 133 rfl) rfl ?_
    refine ex_imul ok_X12_toVoter (mi 134 rfl) ?_
    refine ex_top (w := (nI (3 * a1))) (nI_mulc rfl) ?_
    refine ex_iconst ok_X12_toVoter (mi 135 rfl) ?_
    refine ex_iadd ok_X12_toVoter (mi 136 rfl) ?_
    refine ex_top (w := (nI (3 * a1 + 2))) (nI_add _ 2) ?_
    refine sm_iald ok_X12_toVoter (mi 137 rfl) (fk (MI_s J10) 53 rfl) (fn (MI_s J10) 53 rfl) rfl (by omega) (by decide) ?_
    refine ex_gen (fun w13 => ?_)
    refine mf_A J10 ok_X12_toVoter (mi 138 rfl) (fk (MI_s J10) 46 rfl) (fn (MI_s J10) 46 rfl) rfl (by omega) (by decide) (by decide) (by decide) (by decide) (fun g14 J15 K16 => ?_)
    have mk17 := KK_mk K16 mk12
    refine ex_aload_n ok_X12_toVoter (mi 139 rfl) rfl ?_
    refine ex_iload_n ok_X12_toVoter (mi 140 rfl) rfl ?_
    refine ex_iload ok_X12_toVoter (mi 141 rfl) rfl ?_
    refine ex_iload ok_X12_toVoter (mi 142 rfl) rfl ?_
    refine ex_aload_n ok_X12_toVoter (mi 143 rfl) rfl ?_
    refine ex_getRx ok_X12_toVoter (mi 144 rfl) rfl rfl (fk (MI_s J15) 0 rfl) (fr (MI_s J15) 52 rfl) (fk (MI_s J15) 53 rfl) (by decide) ?_
    refine ex_iconst ok_X12_toVoter (mi 145 rfl) ?_
    refine ex_iload_n ok_X12_toVoter (mi 146 rfl) rfl ?_
    refine ex_imul ok_X12_toVoter (mi 147 rfl) ?_
    refine ex_top (w := (nI (3 * a1))) (nI_mulc rfl) ?_
    refine ex_iconst ok_X12_toVoter (mi 148 rfl) ?_
    refine ex_iadd ok_X12_toVoter (mi 149 rfl) ?_
    refine ex_top (w := (nI (3 * a1 + 2))) (nI_add _ 2) ?_
    refine sm_iald ok_X12_toVoter (mi 150 rfl) (fk (MI_s J15) 53 rfl) (fn (MI_s J15) 53 rfl) rfl (by omega) (by decide) ?_
    refine ex_gen (fun w18 => ?_)
    refine sm_V (As := [_, _, _, _]) ok_X12_toVoter (mi 151 rfl) rfl (s_X12_reckon hst J15 (by omega) (by omega) (by omega)) rfl (fk (MI_s J15) 0 rfl) rfl rfl (by decide) (by decide) (Nat.le_of_ble_eq_true rfl) (by decide) SM_no (fun z19 g21 p20 => ?_)
    obtain ⟨u23, eu23, u23p, J22⟩ := p20
    cases eu23
    obtain rfl : z19 = none := u23p
    refine ex_aload_n ok_X12_toVoter (mi 152 rfl) rfl ?_
    refine ex_bipush ok_X12_toVoter (mi 153 rfl) ?_
    refine ex_iload_n ok_X12_toVoter (mi 154 rfl) rfl ?_
    refine ex_iload_n ok_X12_toVoter (mi 155 rfl) rfl ?_
    refine ex_iload ok_X12_toVoter (mi 156 rfl) rfl ?_
    refine ex_iload ok_X12_toVoter (mi 157 rfl) rfl ?_
    refine ex_iconst ok_X12_toVoter (mi 158 rfl) ?_
    refine sm_V (As := [_, _, _, _, _, _]) ok_X12_toVoter (mi 159 rfl) rfl (s_X12_lay hst J22 (κ := 6) (by decide) (Or.inl rfl) (Or.inr (vp_in_nI (N := 3) (by omega) (by decide))) (Or.inl rfl) (Or.inr (vp_in_nI (N := 16) (by omega) (by decide))) (Or.inl rfl)) rfl (fk (MI_s J22) 0 rfl) rfl rfl (by decide) (by decide) (Nat.le_of_ble_eq_true rfl) (by decide) LV_no (fun z24 g26 p25 => ?_)
    obtain ⟨b28, eb28, hb28, J27, lb28⟩ := p25
    cases eb28
    refine ex_istore ok_X12_toVoter (mi 160 rfl) ?_
    refine ex_goto (tgt := 314) ok_X12_toVoter (mi 161 rfl) rfl ?_
    refine ex_vret ok_X12_toVoter (mi 196 rfl) rfl ?_
    exact ⟨_, rfl, rfl, J27⟩
  · skip
    refine ex_aload_n ok_X12_toVoter (mi 69 rfl) rfl ?_
    refine ex_bipush ok_X12_toVoter (mi 70 rfl) ?_
    refine ex_iload_n ok_X12_toVoter (mi 71 rfl) rfl ?_
    refine ex_iload_n ok_X12_toVoter (mi 72 rfl) rfl ?_
    refine ex_iload ok_X12_toVoter (mi 73 rfl) rfl ?_
    refine ex_aload_n ok_X12_toVoter (mi 74 rfl) rfl ?_
    refine ex_getRx ok_X12_toVoter (mi 75 rfl) rfl rfl (fk (MI_s I) 0 rfl) (fr (MI_s I) 42 rfl) (fk (MI_s I) 43 rfl) (by decide) ?_
    refine ex_iload_n ok_X12_toVoter (mi 76 rfl) rfl ?_
    refine sm_iald ok_X12_toVoter (mi 77 rfl) (fk (MI_s I) 43 rfl) (fn (MI_s I) 43 rfl) rfl (by omega) (by decide) ?_
    refine ex_gen (fun w29 => ?_)
    refine ex_iconst ok_X12_toVoter (mi 78 rfl) ?_
    refine sm_V (As := [_, _, _, _, _, _]) ok_X12_toVoter (mi 79 rfl) rfl (s_X12_lay hst I (κ := 24) (by decide) (Or.inl rfl) (Or.inr (vp_in_nI (N := 3) (by omega) (by decide))) (Or.inl rfl) (Or.inl rfl) (Or.inl rfl)) rfl (fk (MI_s I) 0 rfl) rfl rfl (by decide) (by decide) (Nat.le_of_ble_eq_true rfl) (by decide) LV_no (fun z30 g32 p31 => ?_)
    obtain ⟨b34, eb34, hb34, J33, lb34⟩ := p31
    cases eb34
    refine ex_istore ok_X12_toVoter (mi 80 rfl) ?_
    refine ex_vret ok_X12_toVoter (mi 81 rfl) rfl ?_
    exact ⟨_, rfl, rfl, J33⟩
theorem s_X12_toVoter_9 {G : GE} (hst : (ge_l G).stackTraces = false) {y c : Nat} {D : UT} {R : Nat → Prop} {g : GT} (I : MI y D c R g) {a0 : Nat} (ha0 : a0 < 12) {a1 : Nat} (ha1 : a1 < 402) {m : Nat} (hmk : MK y g a1 9 m) : ex_M G 4 0 0 my_X12_toVoter [.ref y, .int (nI (a0)), .int (nI (a1))] g (SM y D c R pN) := by
  refine ex_M_of ok_X12_toVoter cw_X12_toVoter rfl hst (Nat.le_of_ble_eq_true rfl) ?_
  have hm3 : m < 301 := hmk.2.2.2.2.2.2.2.1
  refine ex_aload_n ok_X12_toVoter (mi 0 rfl) rfl ?_
  refine ex_getRx ok_X12_toVoter (mi 1 rfl) rfl rfl (fk (MI_s I) 0 rfl) (fr (MI_s I) 50 rfl) (fk (MI_s I) 51 rfl) (by decide) ?_
  refine ex_iload_n ok_X12_toVoter (mi 2 rfl) rfl ?_
  refine sm_iald ok_X12_toVoter (mi 3 rfl) (fk (MI_s I) 51 rfl) (fn (MI_s I) 51 rfl) rfl (by omega) (by decide) ?_
  obtain ⟨v1, hv1, ev1⟩ := vp_in_of (n := 3) (vb_in hmk.2.2.1 (by decide)) (by decide)
  refine ex_top (w := nI v1) ev1 ?_
  refine ex_istore_n ok_X12_toVoter (mi 4 rfl) ?_
  refine ex_aload_n ok_X12_toVoter (mi 5 rfl) rfl ?_
  refine ex_getRx ok_X12_toVoter (mi 6 rfl) rfl rfl (fk (MI_s I) 0 rfl) (fr (MI_s I) 52 rfl) (fk (MI_s I) 53 rfl) (by decide) ?_
  refine ex_iconst ok_X12_toVoter (mi 7 rfl) ?_
  refine ex_iload_n ok_X12_toVoter (mi 8 rfl) rfl ?_
  refine ex_imul ok_X12_toVoter (mi 9 rfl) ?_
  refine ex_top (w := (nI (3 * a1))) (nI_mulc rfl) ?_
  refine sm_iald ok_X12_toVoter (mi 10 rfl) (fk (MI_s I) 53 rfl) (fn (MI_s I) 53 rfl) rfl (by omega) (by decide) ?_
  refine ex_gen (fun w2 => ?_)
  refine ex_istore ok_X12_toVoter (mi 11 rfl) ?_
  refine ex_aload_n ok_X12_toVoter (mi 12 rfl) rfl ?_
  refine ex_getRx ok_X12_toVoter (mi 13 rfl) rfl rfl (fk (MI_s I) 0 rfl) (fr (MI_s I) 49 rfl) (fk (MI_s I) 50 rfl) (by decide) ?_
  refine ex_iload_n ok_X12_toVoter (mi 14 rfl) rfl ?_
  refine sm_iald ok_X12_toVoter (mi 15 rfl) (fk (MI_s I) 50 rfl) (fn (MI_s I) 50 rfl) rfl (by omega) (by decide) ?_
  refine ex_top (w := nI 9) hmk.1 ?_
  refine ex_bipush ok_X12_toVoter (mi 16 rfl) ?_
  refine ex_icmp_ne (tgt := 104) ok_X12_toVoter (mi 17 rfl) rfl (fun _ => ?_) (fun hn => absurd hn (by decide))
  refine ex_iload ok_X12_toVoter (mi 63 rfl) rfl ?_
  refine ex_aload_n ok_X12_toVoter (mi 64 rfl) rfl ?_
  refine ex_getRx ok_X12_toVoter (mi 65 rfl) rfl rfl (fk (MI_s I) 0 rfl) (fr (MI_s I) 42 rfl) (fk (MI_s I) 43 rfl) (by decide) ?_
  refine ex_iload_n ok_X12_toVoter (mi 66 rfl) rfl ?_
  refine sm_iald ok_X12_toVoter (mi 67 rfl) (fk (MI_s I) 43 rfl) (fn (MI_s I) 43 rfl) rfl (by omega) (by decide) ?_
  refine ex_gen (fun w3 => ?_)
  refine ex_icmp_ge (tgt := 135) ok_X12_toVoter (mi 68 rfl) rfl (fun h112 => ?_) (fun h112 => ?_)
  · skip
    refine ex_aload_n ok_X12_toVoter (mi 82 rfl) rfl ?_
    refine ex_getRx ok_X12_toVoter (mi 83 rfl) rfl rfl (fk (MI_s I) 0 rfl) (fr (MI_s I) 42 rfl) (fk (MI_s I) 43 rfl) (by decide) ?_
    refine ex_iload_n ok_X12_toVoter (mi 84 rfl) rfl ?_
    refine ex_iload ok_X12_toVoter (mi 85 rfl) rfl ?_
    refine mf_A I ok_X12_toVoter (mi 86 rfl) (fk (MI_s I) 43 rfl) (fn (MI_s I) 43 rfl) rfl (by omega) (by decide) (by decide) (by decide) (by decide) (fun g4 J5 K6 => ?_)
    have mk7 := KK_mk K6 hmk
    refine ex_aload_n ok_X12_toVoter (mi 87 rfl) rfl ?_
    refine ex_getRx ok_X12_toVoter (mi 88 rfl) rfl rfl (fk (MI_s J5) 0 rfl) (fr (MI_s J5) 49 rfl) (fk (MI_s J5) 50 rfl) (by decide) ?_
    refine ex_iload_n ok_X12_toVoter (mi 89 rfl) rfl ?_
    refine sm_iald ok_X12_toVoter (mi 90 rfl) (fk (MI_s J5) 50 rfl) (fn (MI_s J5) 50 rfl) rfl (by omega) (by decide) ?_
    refine ex_top (w := nI 9) mk7.1 ?_
    refine ex_iconst ok_X12_toVoter (mi 91 rfl) ?_
    refine ex_icmp_ne (tgt := 164) ok_X12_toVoter (mi 92 rfl) rfl (fun _ => ?_) (fun hn => absurd hn (by decide))
    refine ex_aload_n ok_X12_toVoter (mi 99 rfl) rfl ?_
    refine ex_getRx ok_X12_toVoter (mi 100 rfl) rfl rfl (fk (MI_s J5) 0 rfl) (fr (MI_s J5) 49 rfl) (fk (MI_s J5) 50 rfl) (by decide) ?_
    refine ex_iload_n ok_X12_toVoter (mi 101 rfl) rfl ?_
    refine sm_iald ok_X12_toVoter (mi 102 rfl) (fk (MI_s J5) 50 rfl) (fn (MI_s J5) 50 rfl) rfl (by omega) (by decide) ?_
    refine ex_top (w := nI 9) mk7.1 ?_
    refine ex_iconst ok_X12_toVoter (mi 103 rfl) ?_
    refine ex_icmp_ne (tgt := 259) ok_X12_toVoter (mi 104 rfl) rfl (fun _ => ?_) (fun hn => absurd hn (by decide))
    refine ex_aload_n ok_X12_toVoter (mi 162 rfl) rfl ?_
    refine ex_getRx ok_X12_toVoter (mi 163 rfl) rfl rfl (fk (MI_s J5) 0 rfl) (fr (MI_s J5) 52 rfl) (fk (MI_s J5) 53 rfl) (by decide) ?_
    refine ex_iconst ok_X12_toVoter (mi 164 rfl) ?_
    refine ex_iload_n ok_X12_toVoter (mi 165 rfl) rfl ?_
    refine ex_imul ok_X12_toVoter (mi 166 rfl) ?_
    refine ex_top (w := (nI (3 * a1))) (nI_mulc rfl) ?_
    refine ex_iconst ok_X12_toVoter (mi 167 rfl) ?_
    refine ex_iadd ok_X12_toVoter (mi 168 rfl) ?_
    refine ex_top (w := (nI (3 * a1 + 1))) (nI_add _ 1) ?_
    refine sm_iald ok_X12_toVoter (mi 169 rfl) (fk (MI_s J5) 53 rfl) (fn (MI_s J5) 53 rfl) rfl (by omega) (by decide) ?_
    obtain ⟨v8, hv8, ev8⟩ := vp_in_of (n := 17) (vb_in mk7.2.2.2.2.1 (by decide)) (by decide)
    refine ex_top (w := nI v8) ev8 ?_
    refine ex_istore ok_X12_toVoter (mi 170 rfl) ?_
    refine ex_aload_n ok_X12_toVoter (mi 171 rfl) rfl ?_
    refine ex_getRx ok_X12_toVoter (mi 172 rfl) rfl rfl (fk (MI_s J5) 0 rfl) (fr (MI_s J5) 43 rfl) (fk (MI_s J5) 44 rfl) (by decide) ?_
    refine ex_iload_n ok_X12_toVoter (mi 173 rfl) rfl ?_
    refine ex_iload ok_X12_toVoter (mi 174 rfl) rfl ?_
    refine ex_aload_n ok_X12_toVoter (mi 175 rfl) rfl ?_
    refine ex_getRx ok_X12_toVoter (mi 176 rfl) rfl rfl (fk (MI_s J5) 0 rfl) (fr (MI_s J5) 43 rfl) (fk (MI_s J5) 44 rfl) (by decide) ?_
    refine ex_iload_n ok_X12_toVoter (mi 177 rfl) rfl ?_
    refine sm_iald ok_X12_toVoter (mi 178 rfl) (fk (MI_s J5) 44 rfl) (fn (MI_s J5) 44 rfl) rfl (by omega) (by decide) ?_
    obtain ⟨v9, hv9, ev9⟩ := vp_in_of (n := 17) (MI_bd J5 13 rfl (i := a0) (by omega)) (by decide)
    refine ex_top (w := nI v9) ev9 ?_
    refine ex_icmp_le (tgt := 292) ok_X12_toVoter (mi 179 rfl) rfl (fun h284 => ?_) (fun h284 => ?_)
    · skip
      refine ex_aload_n ok_X12_toVoter (mi 182 rfl) rfl ?_
      refine ex_getRx ok_X12_toVoter (mi 183 rfl) rfl rfl (fk (MI_s J5) 0 rfl) (fr (MI_s J5) 43 rfl) (fk (MI_s J5) 44 rfl) (by decide) ?_
      refine ex_iload_n ok_X12_toVoter (mi 184 rfl) rfl ?_
      refine sm_iald ok_X12_toVoter (mi 185 rfl) (fk (MI_s J5) 44 rfl) (fn (MI_s J5) 44 rfl) rfl (by omega) (by decide) ?_
      refine ex_top (w := nI v9) ev9 ?_
      refine mf_B J5 ok_X12_toVoter (mi 186 rfl) (fk (MI_s J5) 44 rfl) (fn (MI_s J5) 44 rfl) rfl (by omega) (by decide) (B := 17) (by decide) (by decide) (by decide) (vp_in_nI (N := 17) (by omega) (by decide)) (fun g10 J11 K12 => ?_)
      have mk13 := KK_mk K12 mk7
      refine ex_aload_n ok_X12_toVoter (mi 187 rfl) rfl ?_
      refine ex_bipush ok_X12_toVoter (mi 188 rfl) ?_
      refine ex_iload_n ok_X12_toVoter (mi 189 rfl) rfl ?_
      refine ex_iload_n ok_X12_toVoter (mi 190 rfl) rfl ?_
      refine ex_iload ok_X12_toVoter (mi 191 rfl) rfl ?_
      refine ex_iload ok_X12_toVoter (mi 192 rfl) rfl ?_
      refine ex_iconst ok_X12_toVoter (mi 193 rfl) ?_
      refine sm_V (As := [_, _, _, _, _, _]) ok_X12_toVoter (mi 194 rfl) rfl (s_X12_lay hst J11 (κ := 10) (by decide) (Or.inl rfl) (Or.inr (vp_in_nI (N := 3) (by omega) (by decide))) (Or.inl rfl) (Or.inl rfl) (Or.inl rfl)) rfl (fk (MI_s J11) 0 rfl) rfl rfl (by decide) (by decide) (Nat.le_of_ble_eq_true rfl) (by decide) LV_no (fun z14 g16 p15 => ?_)
      obtain ⟨b18, eb18, hb18, J17, lb18⟩ := p15
      cases eb18
      refine ex_istore ok_X12_toVoter (mi 195 rfl) ?_
      refine ex_vret ok_X12_toVoter (mi 196 rfl) rfl ?_
      exact ⟨_, rfl, rfl, J17⟩
    · skip
      refine ex_iload ok_X12_toVoter (mi 180 rfl) rfl ?_
      refine ex_goto (tgt := 298) ok_X12_toVoter (mi 181 rfl) rfl ?_
      refine mf_B J5 ok_X12_toVoter (mi 186 rfl) (fk (MI_s J5) 44 rfl) (fn (MI_s J5) 44 rfl) rfl (by omega) (by decide) (B := 17) (by decide) (by decide) (by decide) (vp_in_nI (N := 17) (by omega) (by decide)) (fun g19 J20 K21 => ?_)
      have mk22 := KK_mk K21 mk7
      refine ex_aload_n ok_X12_toVoter (mi 187 rfl) rfl ?_
      refine ex_bipush ok_X12_toVoter (mi 188 rfl) ?_
      refine ex_iload_n ok_X12_toVoter (mi 189 rfl) rfl ?_
      refine ex_iload_n ok_X12_toVoter (mi 190 rfl) rfl ?_
      refine ex_iload ok_X12_toVoter (mi 191 rfl) rfl ?_
      refine ex_iload ok_X12_toVoter (mi 192 rfl) rfl ?_
      refine ex_iconst ok_X12_toVoter (mi 193 rfl) ?_
      refine sm_V (As := [_, _, _, _, _, _]) ok_X12_toVoter (mi 194 rfl) rfl (s_X12_lay hst J20 (κ := 10) (by decide) (Or.inl rfl) (Or.inr (vp_in_nI (N := 3) (by omega) (by decide))) (Or.inl rfl) (Or.inl rfl) (Or.inl rfl)) rfl (fk (MI_s J20) 0 rfl) rfl rfl (by decide) (by decide) (Nat.le_of_ble_eq_true rfl) (by decide) LV_no (fun z23 g25 p24 => ?_)
      obtain ⟨b27, eb27, hb27, J26, lb27⟩ := p24
      cases eb27
      refine ex_istore ok_X12_toVoter (mi 195 rfl) ?_
      refine ex_vret ok_X12_toVoter (mi 196 rfl) rfl ?_
      exact ⟨_, rfl, rfl, J26⟩
  · skip
    refine ex_aload_n ok_X12_toVoter (mi 69 rfl) rfl ?_
    refine ex_bipush ok_X12_toVoter (mi 70 rfl) ?_
    refine ex_iload_n ok_X12_toVoter (mi 71 rfl) rfl ?_
    refine ex_iload_n ok_X12_toVoter (mi 72 rfl) rfl ?_
    refine ex_iload ok_X12_toVoter (mi 73 rfl) rfl ?_
    refine ex_aload_n ok_X12_toVoter (mi 74 rfl) rfl ?_
    refine ex_getRx ok_X12_toVoter (mi 75 rfl) rfl rfl (fk (MI_s I) 0 rfl) (fr (MI_s I) 42 rfl) (fk (MI_s I) 43 rfl) (by decide) ?_
    refine ex_iload_n ok_X12_toVoter (mi 76 rfl) rfl ?_
    refine sm_iald ok_X12_toVoter (mi 77 rfl) (fk (MI_s I) 43 rfl) (fn (MI_s I) 43 rfl) rfl (by omega) (by decide) ?_
    refine ex_gen (fun w28 => ?_)
    refine ex_iconst ok_X12_toVoter (mi 78 rfl) ?_
    refine sm_V (As := [_, _, _, _, _, _]) ok_X12_toVoter (mi 79 rfl) rfl (s_X12_lay hst I (κ := 24) (by decide) (Or.inl rfl) (Or.inr (vp_in_nI (N := 3) (by omega) (by decide))) (Or.inl rfl) (Or.inl rfl) (Or.inl rfl)) rfl (fk (MI_s I) 0 rfl) rfl rfl (by decide) (by decide) (Nat.le_of_ble_eq_true rfl) (by decide) LV_no (fun z29 g31 p30 => ?_)
    obtain ⟨b33, eb33, hb33, J32, lb33⟩ := p30
    cases eb33
    refine ex_istore ok_X12_toVoter (mi 80 rfl) ?_
    refine ex_vret ok_X12_toVoter (mi 81 rfl) rfl ?_
    exact ⟨_, rfl, rfl, J32⟩
theorem s_X12_toVoter_13 {G : GE} (hst : (ge_l G).stackTraces = false) {y c : Nat} {D : UT} {R : Nat → Prop} {g : GT} (I : MI y D c R g) {a0 : Nat} (ha0 : a0 < 12) {a1 : Nat} (ha1 : a1 < 402) {m : Nat} (hmk : MK y g a1 13 m) : ex_M G 4 0 0 my_X12_toVoter [.ref y, .int (nI (a0)), .int (nI (a1))] g (SM y D c R pN) := by
  refine ex_M_of ok_X12_toVoter cw_X12_toVoter rfl hst (Nat.le_of_ble_eq_true rfl) ?_
  have hm3 : m < 301 := hmk.2.2.2.2.2.2.2.1
  refine ex_aload_n ok_X12_toVoter (mi 0 rfl) rfl ?_
  refine ex_getRx ok_X12_toVoter (mi 1 rfl) rfl rfl (fk (MI_s I) 0 rfl) (fr (MI_s I) 50 rfl) (fk (MI_s I) 51 rfl) (by decide) ?_
  refine ex_iload_n ok_X12_toVoter (mi 2 rfl) rfl ?_
  refine sm_iald ok_X12_toVoter (mi 3 rfl) (fk (MI_s I) 51 rfl) (fn (MI_s I) 51 rfl) rfl (by omega) (by decide) ?_
  obtain ⟨v1, hv1, ev1⟩ := vp_in_of (n := 3) (vb_in hmk.2.2.1 (by decide)) (by decide)
  refine ex_top (w := nI v1) ev1 ?_
  refine ex_istore_n ok_X12_toVoter (mi 4 rfl) ?_
  refine ex_aload_n ok_X12_toVoter (mi 5 rfl) rfl ?_
  refine ex_getRx ok_X12_toVoter (mi 6 rfl) rfl rfl (fk (MI_s I) 0 rfl) (fr (MI_s I) 52 rfl) (fk (MI_s I) 53 rfl) (by decide) ?_
  refine ex_iconst ok_X12_toVoter (mi 7 rfl) ?_
  refine ex_iload_n ok_X12_toVoter (mi 8 rfl) rfl ?_
  refine ex_imul ok_X12_toVoter (mi 9 rfl) ?_
  refine ex_top (w := (nI (3 * a1))) (nI_mulc rfl) ?_
  refine sm_iald ok_X12_toVoter (mi 10 rfl) (fk (MI_s I) 53 rfl) (fn (MI_s I) 53 rfl) rfl (by omega) (by decide) ?_
  refine ex_gen (fun w2 => ?_)
  refine ex_istore ok_X12_toVoter (mi 11 rfl) ?_
  refine ex_aload_n ok_X12_toVoter (mi 12 rfl) rfl ?_
  refine ex_getRx ok_X12_toVoter (mi 13 rfl) rfl rfl (fk (MI_s I) 0 rfl) (fr (MI_s I) 49 rfl) (fk (MI_s I) 50 rfl) (by decide) ?_
  refine ex_iload_n ok_X12_toVoter (mi 14 rfl) rfl ?_
  refine sm_iald ok_X12_toVoter (mi 15 rfl) (fk (MI_s I) 50 rfl) (fn (MI_s I) 50 rfl) rfl (by omega) (by decide) ?_
  refine ex_top (w := nI 13) hmk.1 ?_
  refine ex_bipush ok_X12_toVoter (mi 16 rfl) ?_
  refine ex_icmp_ne (tgt := 104) ok_X12_toVoter (mi 17 rfl) rfl (fun hn => absurd (by decide) hn) (fun _ => ?_)
  refine ex_iconst ok_X12_toVoter (mi 18 rfl) ?_
  refine ex_istore ok_X12_toVoter (mi 19 rfl) ?_
  have lp31 : ∀ n31 k31 : Nat, k31 + n31 = 16 → ∀ (g3 : GT), MI y D c R g3 → MK y g3 a1 13 m → ex_W G 4 0 0 M_X12_toVoter 31 [(0, .ref y), (1, .int (nI (a0))), (2, .int (nI (a1))), (3, .int (nI (v1))), (4, .int w2), (5, .int (nI (k31)))] [] g3 (SM y D c R pN) := by
    intro n31
    induction n31 with
    | zero =>
      intro k31 he31  g3 J4 mk31_0
      obtain rfl : k31 = 16 := by omega
      refine ex_iload ok_X12_toVoter (mi 20 rfl) rfl ?_
      refine ex_bipush ok_X12_toVoter (mi 21 rfl) ?_
      refine ex_icmp_ge (tgt := 89) ok_X12_toVoter (mi 22 rfl) rfl (fun _ => ?_) (fun hn => absurd (by decide) hn)
      refine ex_aload_n ok_X12_toVoter (mi 53 rfl) rfl ?_
      refine ex_bipush ok_X12_toVoter (mi 54 rfl) ?_
      refine ex_iload_n ok_X12_toVoter (mi 55 rfl) rfl ?_
      refine ex_iload_n ok_X12_toVoter (mi 56 rfl) rfl ?_
      refine ex_iload ok_X12_toVoter (mi 57 rfl) rfl ?_
      refine ex_iconst ok_X12_toVoter (mi 58 rfl) ?_
      refine ex_iconst ok_X12_toVoter (mi 59 rfl) ?_
      refine sm_V (As := [_, _, _, _, _, _]) ok_X12_toVoter (mi 60 rfl) rfl (s_X12_lay hst J4 (κ := 14) (by decide) (Or.inl rfl) (Or.inr (vp_in_nI (N := 3) (by omega) (by decide))) (Or.inl rfl) (Or.inl rfl) (Or.inl rfl)) rfl (fk (MI_s J4) 0 rfl) rfl rfl (by decide) (by decide) (Nat.le_of_ble_eq_true rfl) (by decide) LV_no (fun z5 g7 p6 => ?_)
      obtain ⟨b9, eb9, hb9, J8, lb9⟩ := p6
      cases eb9
      refine ex_istore ok_X12_toVoter (mi 61 rfl) ?_
      refine ex_vret ok_X12_toVoter (mi 62 rfl) rfl ?_
      exact ⟨_, rfl, rfl, J8⟩
    | succ n31 ih31 =>
      intro k31 he31  g3 J4 mk31_0
      have hr31 : k31 < 16 := by omega
      refine ex_iload ok_X12_toVoter (mi 20 rfl) rfl ?_
      refine ex_bipush ok_X12_toVoter (mi 21 rfl) ?_
      refine ex_icmp_ge (tgt := 89) ok_X12_toVoter (mi 22 rfl) rfl (fun hn => absurd hn (nI_ge (b := 16) hr31 (by decide))) (fun _ => ?_)
      refine ex_aload_n ok_X12_toVoter (mi 23 rfl) rfl ?_
      refine ex_getRx ok_X12_toVoter (mi 24 rfl) rfl rfl (fk (MI_s J4) 0 rfl) (fr (MI_s J4) 44 rfl) (fk (MI_s J4) 45 rfl) (by decide) ?_
      refine ex_bipush ok_X12_toVoter (mi 25 rfl) ?_
      refine ex_iload_n ok_X12_toVoter (mi 26 rfl) rfl ?_
      refine ex_imul ok_X12_toVoter (mi 27 rfl) ?_
      refine ex_top (w := (nI (16 * a0))) (nI_mulc rfl) ?_
      refine ex_iload ok_X12_toVoter (mi 28 rfl) rfl ?_
      refine ex_iadd ok_X12_toVoter (mi 29 rfl) ?_
      refine ex_top (w := (nI (16 * a0 + k31))) (nI_add _ _) ?_
      refine ex_aload_n ok_X12_toVoter (mi 30 rfl) rfl ?_
      refine ex_getRx ok_X12_toVoter (mi 31 rfl) rfl rfl (fk (MI_s J4) 0 rfl) (fr (MI_s J4) 44 rfl) (fk (MI_s J4) 45 rfl) (by decide) ?_
      refine ex_bipush ok_X12_toVoter (mi 32 rfl) ?_
      refine ex_iload_n ok_X12_toVoter (mi 33 rfl) rfl ?_
      refine ex_imul ok_X12_toVoter (mi 34 rfl) ?_
      refine ex_top (w := (nI (16 * a0))) (nI_mulc rfl) ?_
      refine ex_iload ok_X12_toVoter (mi 35 rfl) rfl ?_
      refine ex_iadd ok_X12_toVoter (mi 36 rfl) ?_
      refine ex_top (w := (nI (16 * a0 + k31))) (nI_add _ _) ?_
      refine sm_iald ok_X12_toVoter (mi 37 rfl) (fk (MI_s J4) 45 rfl) (fn (MI_s J4) 45 rfl) rfl (by omega) (by decide) ?_
      refine ex_gen (fun w10 => ?_)
      refine ex_iload ok_X12_toVoter (mi 38 rfl) rfl ?_
      refine ex_icmp_ge (tgt := 70) ok_X12_toVoter (mi 39 rfl) rfl (fun h63 => ?_) (fun h63 => ?_)
      · skip
        refine ex_aload_n ok_X12_toVoter (mi 42 rfl) rfl ?_
        refine ex_getRx ok_X12_toVoter (mi 43 rfl) rfl rfl (fk (MI_s J4) 0 rfl) (fr (MI_s J4) 44 rfl) (fk (MI_s J4) 45 rfl) (by decide) ?_
        refine ex_bipush ok_X12_toVoter (mi 44 rfl) ?_
        refine ex_iload_n ok_X12_toVoter (mi 45 rfl) rfl ?_
        refine ex_imul ok_X12_toVoter (mi 46 rfl) ?_
        refine ex_top (w := (nI (16 * a0))) (nI_mulc rfl) ?_
        refine ex_iload ok_X12_toVoter (mi 47 rfl) rfl ?_
        refine ex_iadd ok_X12_toVoter (mi 48 rfl) ?_
        refine ex_top (w := (nI (16 * a0 + k31))) (nI_add _ _) ?_
        refine sm_iald ok_X12_toVoter (mi 49 rfl) (fk (MI_s J4) 45 rfl) (fn (MI_s J4) 45 rfl) rfl (by omega) (by decide) ?_
        refine ex_gen (fun w11 => ?_)
        refine mf_A J4 ok_X12_toVoter (mi 50 rfl) (fk (MI_s J4) 45 rfl) (fn (MI_s J4) 45 rfl) rfl (by omega) (by decide) (by decide) (by decide) (by decide) (fun g12 J13 K14 => ?_)
        have mk15 := KK_mk K14 mk31_0
        refine ex_iincx (w := (nI (k31 + 1))) ok_X12_toVoter (mi 51 rfl) rfl (nI_1 _) ?_
        refine ex_goto (tgt := 31) ok_X12_toVoter (mi 52 rfl) rfl ?_
        exact ex_ls (ls' := [(0, .ref y), (1, .int (nI (a0))), (2, .int (nI (a1))), (3, .int (nI (v1))), (4, .int w2), (5, .int (nI (k31 + 1)))]) ⟨rfl, rfl, rfl, rfl, rfl, rfl, trivial⟩ (ih31 (k31 + 1) (by omega) g12 J13 mk15)
      · skip
        refine ex_iconst ok_X12_toVoter (mi 40 rfl) ?_
        refine ex_goto (tgt := 82) ok_X12_toVoter (mi 41 rfl) rfl ?_
        refine mf_A J4 ok_X12_toVoter (mi 50 rfl) (fk (MI_s J4) 45 rfl) (fn (MI_s J4) 45 rfl) rfl (by omega) (by decide) (by decide) (by decide) (by decide) (fun g16 J17 K18 => ?_)
        have mk19 := KK_mk K18 mk31_0
        refine ex_iincx (w := (nI (k31 + 1))) ok_X12_toVoter (mi 51 rfl) rfl (nI_1 _) ?_
        refine ex_goto (tgt := 31) ok_X12_toVoter (mi 52 rfl) rfl ?_
        exact ex_ls (ls' := [(0, .ref y), (1, .int (nI (a0))), (2, .int (nI (a1))), (3, .int (nI (v1))), (4, .int w2), (5, .int (nI (k31 + 1)))]) ⟨rfl, rfl, rfl, rfl, rfl, rfl, trivial⟩ (ih31 (k31 + 1) (by omega) g16 J17 mk19)
  exact ex_ls (ls' := [(0, .ref y), (1, .int (nI (a0))), (2, .int (nI (a1))), (3, .int (nI (v1))), (4, .int w2), (5, .int (nI 0))]) ⟨rfl, rfl, rfl, rfl, rfl, rfl, trivial⟩ (lp31 (16 - 0) (0) (by omega) g I hmk)
