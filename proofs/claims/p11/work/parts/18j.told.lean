theorem s_X12_voted {G : GE} (hst : (ge_l G).stackTraces = false) {y c : Nat} {D : UT} {R : Nat → Prop} {g : GT} (I : MI y D c R g) {a0 : Nat} (ha0 : a0 < 3) {a1 : Nat} (ha1 : a1 < 402) {m : Nat} (hmk : MK y g a1 6 m) : ex_M G 3 0 0 my_X12_voted [.ref y, .int (nI (a0)), .int (nI (a1))] g (SM y D c R pN) := by
  refine ex_M_of ok_X12_voted cw_X12_voted rfl hst (Nat.le_of_ble_eq_true rfl) ?_
  have hm3 : m < 301 := hmk.2.2.2.2.2.2.2.1
  refine ex_bipush ok_X12_voted (mi 0 rfl) ?_
  refine ex_iload_n ok_X12_voted (mi 1 rfl) rfl ?_
  refine ex_imul ok_X12_voted (mi 2 rfl) ?_
  refine ex_top (w := (nI (16 * a0))) (nI_mulc rfl) ?_
  refine ex_aload_n ok_X12_voted (mi 3 rfl) rfl ?_
  refine ex_getRx ok_X12_voted (mi 4 rfl) rfl rfl (fk (MI_s I) 0 rfl) (fr (MI_s I) 52 rfl) (fk (MI_s I) 53 rfl) (by decide) ?_
  refine ex_iconst ok_X12_voted (mi 5 rfl) ?_
  refine ex_iload_n ok_X12_voted (mi 6 rfl) rfl ?_
  refine ex_imul ok_X12_voted (mi 7 rfl) ?_
  refine ex_top (w := (nI (3 * a1))) (nI_mulc rfl) ?_
  refine ex_iconst ok_X12_voted (mi 8 rfl) ?_
  refine ex_iadd ok_X12_voted (mi 9 rfl) ?_
  refine ex_top (w := (nI (3 * a1 + 1))) (nI_add _ 1) ?_
  refine sm_iald ok_X12_voted (mi 10 rfl) (fk (MI_s I) 53 rfl) (fn (MI_s I) 53 rfl) rfl (by omega) (by decide) ?_
  obtain ⟨v1, hv1, ev1⟩ := vp_in_of (n := 16) (vb_in hmk.2.2.2.2.1 (by decide)) (by decide)
  refine ex_top (w := nI v1) ev1 ?_
  refine ex_iadd ok_X12_voted (mi 11 rfl) ?_
  refine ex_top (w := (nI (16 * a0 + v1))) (nI_add _ _) ?_
  refine ex_istore_n ok_X12_voted (mi 12 rfl) ?_
  refine ex_aload_n ok_X12_voted (mi 13 rfl) rfl ?_
  refine ex_getRx ok_X12_voted (mi 14 rfl) rfl rfl (fk (MI_s I) 0 rfl) (fr (MI_s I) 1 rfl) (fk (MI_s I) 2 rfl) (by decide) ?_
  refine ex_iload_n ok_X12_voted (mi 15 rfl) rfl ?_
  refine sm_iald ok_X12_voted (mi 16 rfl) (fk (MI_s I) 2 rfl) (fn (MI_s I) 2 rfl) rfl (by omega) (by decide) ?_
  refine ex_iconst ok_X12_voted (mi 17 rfl) ?_
  refine ex_icmp_ne (tgt := 62) ok_X12_voted (mi 18 rfl) rfl (fun h23 => ?_) (fun h23 => ?_)
  · skip
    refine ex_vret ok_X12_voted (mi 41 rfl) rfl ?_
    exact ⟨_, rfl, rfl, I⟩
  · skip
    have J2 := MI_Ra (l := a0) I (by rw [h23]; decide)
    refine ex_aload_n ok_X12_voted (mi 19 rfl) rfl ?_
    refine ex_getRx ok_X12_voted (mi 20 rfl) rfl rfl (fk (MI_s J2) 0 rfl) (fr (MI_s J2) 52 rfl) (fk (MI_s J2) 53 rfl) (by decide) ?_
    refine ex_iconst ok_X12_voted (mi 21 rfl) ?_
    refine ex_iload_n ok_X12_voted (mi 22 rfl) rfl ?_
    refine ex_imul ok_X12_voted (mi 23 rfl) ?_
    refine ex_top (w := (nI (3 * a1))) (nI_mulc rfl) ?_
    refine sm_iald ok_X12_voted (mi 24 rfl) (fk (MI_s J2) 53 rfl) (fn (MI_s J2) 53 rfl) rfl (by omega) (by decide) ?_
    refine ex_gen (fun w3 => ?_)
    refine ex_aload_n ok_X12_voted (mi 25 rfl) rfl ?_
    refine ex_getRx ok_X12_voted (mi 26 rfl) rfl rfl (fk (MI_s J2) 0 rfl) (fr (MI_s J2) 2 rfl) (fk (MI_s J2) 3 rfl) (by decide) ?_
    refine ex_iload_n ok_X12_voted (mi 27 rfl) rfl ?_
    refine sm_iald ok_X12_voted (mi 28 rfl) (fk (MI_s J2) 3 rfl) (fn (MI_s J2) 3 rfl) rfl (by omega) (by decide) ?_
    obtain ⟨v4, hv4, ev4⟩ := vp_in_of (n := 300) (MI_rd J2 (i := a0) (by omega) (Or.inr rfl)) (by decide)
    refine ex_top (w := nI v4) ev4 ?_
    refine ex_icmp_ne (tgt := 62) ok_X12_voted (mi 29 rfl) rfl (fun h40 => ?_) (fun h40 => ?_)
    · skip
      refine ex_vret ok_X12_voted (mi 41 rfl) rfl ?_
      exact ⟨_, rfl, rfl, (MI_Rw J2 (fun l k => (Or.inl k)))⟩
    · skip
      refine ex_aload_n ok_X12_voted (mi 30 rfl) rfl ?_
      refine ex_getRx ok_X12_voted (mi 31 rfl) rfl rfl (fk (MI_s J2) 0 rfl) (fr (MI_s J2) 15 rfl) (fk (MI_s J2) 16 rfl) (by decide) ?_
      refine ex_iload_n ok_X12_voted (mi 32 rfl) rfl ?_
      refine sm_iald ok_X12_voted (mi 33 rfl) (fk (MI_s J2) 16 rfl) (fn (MI_s J2) 16 rfl) rfl (by omega) (by decide) ?_
      refine ex_gen (fun w5 => ?_)
      refine ex_if_eq (tgt := 62) ok_X12_voted (mi 34 rfl) rfl (fun h49 => ?_) (fun h49 => ?_)
      · skip
        refine ex_vret ok_X12_voted (mi 41 rfl) rfl ?_
        exact ⟨_, rfl, rfl, (MI_Rw J2 (fun l k => (Or.inl k)))⟩
      · skip
        refine ex_aload_n ok_X12_voted (mi 35 rfl) rfl ?_
        refine ex_getRx ok_X12_voted (mi 36 rfl) rfl rfl (fk (MI_s J2) 0 rfl) (fr (MI_s J2) 15 rfl) (fk (MI_s J2) 16 rfl) (by decide) ?_
        refine ex_iload_n ok_X12_voted (mi 37 rfl) rfl ?_
        refine sm_iald ok_X12_voted (mi 38 rfl) (fk (MI_s J2) 16 rfl) (fn (MI_s J2) 16 rfl) rfl (by omega) (by decide) ?_
        refine ex_gen (fun w6 => ?_)
        refine ex_iconst ok_X12_voted (mi 39 rfl) ?_
        refine ex_icmp_ne (tgt := 63) ok_X12_voted (mi 40 rfl) rfl (fun h59 => ?_) (fun h59 => ?_)
        · skip
          refine ex_aload_n ok_X12_voted (mi 42 rfl) rfl ?_
          refine ex_getRx ok_X12_voted (mi 43 rfl) rfl rfl (fk (MI_s J2) 0 rfl) (fr (MI_s J2) 17 rfl) (fk (MI_s J2) 18 rfl) (by decide) ?_
          refine ex_iload_n ok_X12_voted (mi 44 rfl) rfl ?_
          refine ex_dup2 ok_X12_voted (mi 45 rfl) rfl rfl ?_
          refine sm_iald ok_X12_voted (mi 46 rfl) (fk (MI_s J2) 18 rfl) (fn (MI_s J2) 18 rfl) rfl (by omega) (by decide) ?_
          refine ex_gen (fun w7 => ?_)
          refine ex_iconst ok_X12_voted (mi 47 rfl) ?_
          refine ex_aload_n ok_X12_voted (mi 48 rfl) rfl ?_
          refine ex_getRx ok_X12_voted (mi 49 rfl) rfl rfl (fk (MI_s J2) 0 rfl) (fr (MI_s J2) 50 rfl) (fk (MI_s J2) 51 rfl) (by decide) ?_
          refine ex_iload_n ok_X12_voted (mi 50 rfl) rfl ?_
          refine sm_iald ok_X12_voted (mi 51 rfl) (fk (MI_s J2) 51 rfl) (fn (MI_s J2) 51 rfl) rfl (by omega) (by decide) ?_
          refine ex_gen (fun w8 => ?_)
          refine ex_ishl ok_X12_voted (mi 52 rfl) ?_
          refine ex_gen (fun w9 => ?_)
          refine ex_ior ok_X12_voted (mi 53 rfl) ?_
          refine ex_gen (fun w10 => ?_)
          refine mf_A J2 ok_X12_voted (mi 54 rfl) (fk (MI_s J2) 18 rfl) (fn (MI_s J2) 18 rfl) rfl (by omega) (by decide) (by decide) (by decide) (by decide) (fun g11 J12 K13 => ?_)
          have mk14 := KK_mk K13 hmk
          refine ex_aload_n ok_X12_voted (mi 55 rfl) rfl ?_
          refine ex_getRx ok_X12_voted (mi 56 rfl) rfl rfl (fk (MI_s J12) 0 rfl) (fr (MI_s J12) 15 rfl) (fk (MI_s J12) 16 rfl) (by decide) ?_
          refine ex_iload_n ok_X12_voted (mi 57 rfl) rfl ?_
          refine sm_iald ok_X12_voted (mi 58 rfl) (fk (MI_s J12) 16 rfl) (fn (MI_s J12) 16 rfl) rfl (by omega) (by decide) ?_
          refine ex_gen (fun w15 => ?_)
          refine ex_iconst ok_X12_voted (mi 59 rfl) ?_
          refine ex_icmp_ne (tgt := 143) ok_X12_voted (mi 60 rfl) rfl (fun h87 => ?_) (fun h87 => ?_)
          · skip
            refine ex_vret ok_X12_voted (mi 95 rfl) rfl ?_
            exact ⟨_, rfl, rfl, (MI_Rw J12 (fun l k => (Or.inl k)))⟩
          · skip
            refine ex_aload_n ok_X12_voted (mi 61 rfl) rfl ?_
            refine ex_getRx ok_X12_voted (mi 62 rfl) rfl rfl (fk (MI_s J12) 0 rfl) (fr (MI_s J12) 17 rfl) (fk (MI_s J12) 18 rfl) (by decide) ?_
            refine ex_iload_n ok_X12_voted (mi 63 rfl) rfl ?_
            refine sm_iald ok_X12_voted (mi 64 rfl) (fk (MI_s J12) 18 rfl) (fn (MI_s J12) 18 rfl) rfl (by omega) (by decide) ?_
            refine ex_gen (fun w16 => ?_)
            refine ex_aload_n ok_X12_voted (mi 65 rfl) rfl ?_
            refine ex_getRx ok_X12_voted (mi 66 rfl) rfl rfl (fk (MI_s J12) 0 rfl) (fr (MI_s J12) 3 rfl) (fk (MI_s J12) 4 rfl) (by decide) ?_
            refine ex_iload_n ok_X12_voted (mi 67 rfl) rfl ?_
            refine sm_iald ok_X12_voted (mi 68 rfl) (fk (MI_s J12) 4 rfl) (fn (MI_s J12) 4 rfl) rfl (by omega) (by decide) ?_
            refine ex_gen (fun w17 => ?_)
            refine sf_Sp (As := [_, _]) ok_X12_voted (mi 69 rfl) rfl (s_X12_isMajority hst (MI_s J12)) rfl rfl rfl (by decide) (Nat.le_of_ble_eq_true rfl) (by decide) (fun z18 p19 => ?_)
            obtain ⟨v22, rfl, hbv22⟩ := p19
            refine ex_if_eq (tgt := 143) ok_X12_voted (mi 70 rfl) rfl (fun h105 => ?_) (fun h105 => ?_)
            · skip
              refine ex_vret ok_X12_voted (mi 95 rfl) rfl ?_
              exact ⟨_, rfl, rfl, (MI_Rw J12 (fun l k => (Or.inl k)))⟩
            · skip
              refine ex_aload_n ok_X12_voted (mi 71 rfl) rfl ?_
              refine ex_getRx ok_X12_voted (mi 72 rfl) rfl rfl (fk (MI_s J12) 0 rfl) (fr (MI_s J12) 15 rfl) (fk (MI_s J12) 16 rfl) (by decide) ?_
              refine ex_iload_n ok_X12_voted (mi 73 rfl) rfl ?_
              refine ex_iconst ok_X12_voted (mi 74 rfl) ?_
              refine mf_A J12 ok_X12_voted (mi 75 rfl) (fk (MI_s J12) 16 rfl) (fn (MI_s J12) 16 rfl) rfl (by omega) (by decide) (by decide) (by decide) (by decide) (fun g23 J24 K25 => ?_)
              have mk26 := KK_mk K25 mk14
              refine ex_aload_n ok_X12_voted (mi 76 rfl) rfl ?_
              refine ex_bipush ok_X12_voted (mi 77 rfl) ?_
              refine ex_iload_n ok_X12_voted (mi 78 rfl) rfl ?_
              refine ex_bipush ok_X12_voted (mi 79 rfl) ?_
              refine ex_aload_n ok_X12_voted (mi 80 rfl) rfl ?_
              refine ex_getRx ok_X12_voted (mi 81 rfl) rfl rfl (fk (MI_s J24) 0 rfl) (fr (MI_s J24) 52 rfl) (fk (MI_s J24) 53 rfl) (by decide) ?_
              refine ex_iconst ok_X12_voted (mi 82 rfl) ?_
              refine ex_iload_n ok_X12_voted (mi 83 rfl) rfl ?_
              refine ex_imul ok_X12_voted (mi 84 rfl) ?_
              refine ex_top (w := (nI (3 * a1))) (nI_mulc rfl) ?_
              refine ex_iconst ok_X12_voted (mi 85 rfl) ?_
              refine ex_iadd ok_X12_voted (mi 86 rfl) ?_
              refine ex_top (w := (nI (3 * a1 + 1))) (nI_add _ 1) ?_
              refine sm_iald ok_X12_voted (mi 87 rfl) (fk (MI_s J24) 53 rfl) (fn (MI_s J24) 53 rfl) rfl (by omega) (by decide) ?_
              obtain ⟨v27, hv27, ev27⟩ := vp_in_of (n := 16) (vb_in mk26.2.2.2.2.1 (by decide)) (by decide)
              refine ex_top (w := nI v27) ev27 ?_
              refine ex_aload_n ok_X12_voted (mi 88 rfl) rfl ?_
              refine ex_getRx ok_X12_voted (mi 89 rfl) rfl rfl (fk (MI_s J24) 0 rfl) (fr (MI_s J24) 16 rfl) (fk (MI_s J24) 17 rfl) (by decide) ?_
              refine ex_iload_n ok_X12_voted (mi 90 rfl) rfl ?_
              refine sm_iald ok_X12_voted (mi 91 rfl) (fk (MI_s J24) 17 rfl) (fn (MI_s J24) 17 rfl) rfl (by omega) (by decide) ?_
              refine ex_gen (fun w28 => ?_)
              refine ex_iconst ok_X12_voted (mi 92 rfl) ?_
              refine sm_V (As := [_, _, _, _, _, _]) ok_X12_voted (mi 93 rfl) rfl (s_X12_layAll hst J24 (κ := 7) (by decide) (Or.inr (vp_in_nI (N := 3) (by omega) (by decide))) (TO3 rfl (pk_in 7 8 (by decide))) (Or.inr (vp_in_nI (N := 16) (by omega) (by decide))) (Or.inl rfl) (Or.inl rfl)) rfl (fk (MI_s J24) 0 rfl) rfl rfl (by decide) (by decide) (Nat.le_of_ble_eq_true rfl) (by decide) SM_no (fun z29 g31 p30 => ?_)
              obtain ⟨u33, eu33, u33p, J32⟩ := p30
              cases eu33
              obtain ⟨v34, rfl⟩ := u33p
              refine ex_istore ok_X12_voted (mi 94 rfl) ?_
              refine ex_vret ok_X12_voted (mi 95 rfl) rfl ?_
              exact ⟨_, rfl, rfl, (MI_Rw J32 (fun l k => (Or.inl k)))⟩
        · skip
          refine ex_vret ok_X12_voted (mi 41 rfl) rfl ?_
          exact ⟨_, rfl, rfl, (MI_Rw J2 (fun l k => (Or.inl k)))⟩
theorem s_X12_told {G : GE} (hst : (ge_l G).stackTraces = false) {y c : Nat} {D : UT} {R : Nat → Prop} {g : GT} (I : MI y D c R g) {a0 : Nat} (ha0 : a0 < 3) {a1 : Nat} (ha1 : a1 < 402) {m : Nat} (hmk : MK y g a1 8 m) : ex_M G 2 0 0 my_X12_told [.ref y, .int (nI (a0)), .int (nI (a1))] g (SM y D c R pN) := by
  refine ex_M_of ok_X12_told cw_X12_told rfl hst (Nat.le_of_ble_eq_true rfl) ?_
  have hm3 : m < 301 := hmk.2.2.2.2.2.2.2.1
  refine ex_bipush ok_X12_told (mi 0 rfl) ?_
  refine ex_iload_n ok_X12_told (mi 1 rfl) rfl ?_
  refine ex_imul ok_X12_told (mi 2 rfl) ?_
  refine ex_top (w := (nI (16 * a0))) (nI_mulc rfl) ?_
  refine ex_aload_n ok_X12_told (mi 3 rfl) rfl ?_
  refine ex_getRx ok_X12_told (mi 4 rfl) rfl rfl (fk (MI_s I) 0 rfl) (fr (MI_s I) 52 rfl) (fk (MI_s I) 53 rfl) (by decide) ?_
  refine ex_iconst ok_X12_told (mi 5 rfl) ?_
  refine ex_iload_n ok_X12_told (mi 6 rfl) rfl ?_
  refine ex_imul ok_X12_told (mi 7 rfl) ?_
  refine ex_top (w := (nI (3 * a1))) (nI_mulc rfl) ?_
  refine sm_iald ok_X12_told (mi 8 rfl) (fk (MI_s I) 53 rfl) (fn (MI_s I) 53 rfl) rfl (by omega) (by decide) ?_
  obtain ⟨v1, hv1, ev1⟩ := vp_in_of (n := 16) (vb_in hmk.2.2.2.1 (by decide)) (by decide)
  refine ex_top (w := nI v1) ev1 ?_
  refine ex_iadd ok_X12_told (mi 9 rfl) ?_
  refine ex_top (w := (nI (16 * a0 + v1))) (nI_add _ _) ?_
  refine ex_istore_n ok_X12_told (mi 10 rfl) ?_
  refine ex_aload_n ok_X12_told (mi 11 rfl) rfl ?_
  refine ex_getRx ok_X12_told (mi 12 rfl) rfl rfl (fk (MI_s I) 0 rfl) (fr (MI_s I) 1 rfl) (fk (MI_s I) 2 rfl) (by decide) ?_
  refine ex_iload_n ok_X12_told (mi 13 rfl) rfl ?_
  refine sm_iald ok_X12_told (mi 14 rfl) (fk (MI_s I) 2 rfl) (fn (MI_s I) 2 rfl) rfl (by omega) (by decide) ?_
  refine ex_iconst ok_X12_told (mi 15 rfl) ?_
  refine ex_icmp_ne (tgt := 63) ok_X12_told (mi 16 rfl) rfl (fun h21 => ?_) (fun h21 => ?_)
  · skip
    refine ex_vret ok_X12_told (mi 42 rfl) rfl ?_
    exact ⟨_, rfl, rfl, I⟩
  · skip
    have J2 := MI_Ra (l := a0) I (by rw [h21]; decide)
    refine ex_aload_n ok_X12_told (mi 17 rfl) rfl ?_
    refine ex_getRx ok_X12_told (mi 18 rfl) rfl rfl (fk (MI_s J2) 0 rfl) (fr (MI_s J2) 15 rfl) (fk (MI_s J2) 16 rfl) (by decide) ?_
    refine ex_iload_n ok_X12_told (mi 19 rfl) rfl ?_
    refine sm_iald ok_X12_told (mi 20 rfl) (fk (MI_s J2) 16 rfl) (fn (MI_s J2) 16 rfl) rfl (by omega) (by decide) ?_
    refine ex_gen (fun w3 => ?_)
    refine ex_iconst ok_X12_told (mi 21 rfl) ?_
    refine ex_icmp_eq (tgt := 44) ok_X12_told (mi 22 rfl) rfl (fun h31 => ?_) (fun h31 => ?_)
    · skip
      refine ex_aload_n ok_X12_told (mi 29 rfl) rfl ?_
      refine ex_getRx ok_X12_told (mi 30 rfl) rfl rfl (fk (MI_s J2) 0 rfl) (fr (MI_s J2) 52 rfl) (fk (MI_s J2) 53 rfl) (by decide) ?_
      refine ex_iconst ok_X12_told (mi 31 rfl) ?_
      refine ex_iload_n ok_X12_told (mi 32 rfl) rfl ?_
      refine ex_imul ok_X12_told (mi 33 rfl) ?_
      refine ex_top (w := (nI (3 * a1))) (nI_mulc rfl) ?_
      refine ex_iconst ok_X12_told (mi 34 rfl) ?_
      refine ex_iadd ok_X12_told (mi 35 rfl) ?_
      refine ex_top (w := (nI (3 * a1 + 1))) (nI_add _ 1) ?_
      refine sm_iald ok_X12_told (mi 36 rfl) (fk (MI_s J2) 53 rfl) (fn (MI_s J2) 53 rfl) rfl (by omega) (by decide) ?_
      refine ex_gen (fun w4 => ?_)
      refine ex_aload_n ok_X12_told (mi 37 rfl) rfl ?_
      refine ex_getRx ok_X12_told (mi 38 rfl) rfl rfl (fk (MI_s J2) 0 rfl) (fr (MI_s J2) 16 rfl) (fk (MI_s J2) 17 rfl) (by decide) ?_
      refine ex_iload_n ok_X12_told (mi 39 rfl) rfl ?_
      refine sm_iald ok_X12_told (mi 40 rfl) (fk (MI_s J2) 17 rfl) (fn (MI_s J2) 17 rfl) rfl (by omega) (by decide) ?_
      refine ex_gen (fun w5 => ?_)
      refine ex_icmp_eq (tgt := 64) ok_X12_told (mi 41 rfl) rfl (fun h60 => ?_) (fun h60 => ?_)
      · skip
        refine ex_aload_n ok_X12_told (mi 43 rfl) rfl ?_
        refine ex_getRx ok_X12_told (mi 44 rfl) rfl rfl (fk (MI_s J2) 0 rfl) (fr (MI_s J2) 18 rfl) (fk (MI_s J2) 19 rfl) (by decide) ?_
        refine ex_iload_n ok_X12_told (mi 45 rfl) rfl ?_
        refine ex_dup2 ok_X12_told (mi 46 rfl) rfl rfl ?_
        refine sm_iald ok_X12_told (mi 47 rfl) (fk (MI_s J2) 19 rfl) (fn (MI_s J2) 19 rfl) rfl (by omega) (by decide) ?_
        refine ex_gen (fun w6 => ?_)
        refine ex_iconst ok_X12_told (mi 48 rfl) ?_
        refine ex_aload_n ok_X12_told (mi 49 rfl) rfl ?_
        refine ex_getRx ok_X12_told (mi 50 rfl) rfl rfl (fk (MI_s J2) 0 rfl) (fr (MI_s J2) 50 rfl) (fk (MI_s J2) 51 rfl) (by decide) ?_
        refine ex_iload_n ok_X12_told (mi 51 rfl) rfl ?_
        refine sm_iald ok_X12_told (mi 52 rfl) (fk (MI_s J2) 51 rfl) (fn (MI_s J2) 51 rfl) rfl (by omega) (by decide) ?_
        refine ex_gen (fun w7 => ?_)
        refine ex_ishl ok_X12_told (mi 53 rfl) ?_
        refine ex_gen (fun w8 => ?_)
        refine ex_ior ok_X12_told (mi 54 rfl) ?_
        refine ex_gen (fun w9 => ?_)
        refine mf_A J2 ok_X12_told (mi 55 rfl) (fk (MI_s J2) 19 rfl) (fn (MI_s J2) 19 rfl) rfl (by omega) (by decide) (by decide) (by decide) (by decide) (fun g10 J11 K12 => ?_)
        have mk13 := KK_mk K12 hmk
        refine ex_aload_n ok_X12_told (mi 56 rfl) rfl ?_
        refine ex_getRx ok_X12_told (mi 57 rfl) rfl rfl (fk (MI_s J11) 0 rfl) (fr (MI_s J11) 15 rfl) (fk (MI_s J11) 16 rfl) (by decide) ?_
        refine ex_iload_n ok_X12_told (mi 58 rfl) rfl ?_
        refine ex_aload_n ok_X12_told (mi 59 rfl) rfl ?_
        refine ex_getRx ok_X12_told (mi 60 rfl) rfl rfl (fk (MI_s J11) 0 rfl) (fr (MI_s J11) 18 rfl) (fk (MI_s J11) 19 rfl) (by decide) ?_
        refine ex_iload_n ok_X12_told (mi 61 rfl) rfl ?_
        refine sm_iald ok_X12_told (mi 62 rfl) (fk (MI_s J11) 19 rfl) (fn (MI_s J11) 19 rfl) rfl (by omega) (by decide) ?_
        refine ex_gen (fun w14 => ?_)
        refine sf_Sp (As := [_]) ok_X12_told (mi 63 rfl) rfl (s_X12_bits hst (MI_s J11)) rfl rfl rfl (by decide) (Nat.le_of_ble_eq_true rfl) (by decide) (fun z15 p16 => ?_)
        obtain ⟨v19, rfl⟩ := p16
        refine ex_iconst ok_X12_told (mi 64 rfl) ?_
        refine ex_icmp_lt (tgt := 103) ok_X12_told (mi 65 rfl) rfl (fun h96 => ?_) (fun h96 => ?_)
        · skip
          refine ex_aload_n ok_X12_told (mi 68 rfl) rfl ?_
          refine ex_getRx ok_X12_told (mi 69 rfl) rfl rfl (fk (MI_s J11) 0 rfl) (fr (MI_s J11) 15 rfl) (fk (MI_s J11) 16 rfl) (by decide) ?_
          refine ex_iload_n ok_X12_told (mi 70 rfl) rfl ?_
          refine sm_iald ok_X12_told (mi 71 rfl) (fk (MI_s J11) 16 rfl) (fn (MI_s J11) 16 rfl) rfl (by omega) (by decide) ?_
          refine ex_gen (fun w20 => ?_)
          refine mf_A J11 ok_X12_told (mi 72 rfl) (fk (MI_s J11) 16 rfl) (fn (MI_s J11) 16 rfl) rfl (by omega) (by decide) (by decide) (by decide) (by decide) (fun g21 J22 K23 => ?_)
          have mk24 := KK_mk K23 mk13
          refine ex_vret ok_X12_told (mi 73 rfl) rfl ?_
          exact ⟨_, rfl, rfl, (MI_Rw J22 (fun l k => (Or.inl k)))⟩
        · skip
          refine ex_iconst ok_X12_told (mi 66 rfl) ?_
          refine ex_goto (tgt := 109) ok_X12_told (mi 67 rfl) rfl ?_
          refine mf_A J11 ok_X12_told (mi 72 rfl) (fk (MI_s J11) 16 rfl) (fn (MI_s J11) 16 rfl) rfl (by omega) (by decide) (by decide) (by decide) (by decide) (fun g25 J26 K27 => ?_)
          have mk28 := KK_mk K27 mk13
          refine ex_vret ok_X12_told (mi 73 rfl) rfl ?_
          exact ⟨_, rfl, rfl, (MI_Rw J26 (fun l k => (Or.inl k)))⟩
      · skip
        refine ex_vret ok_X12_told (mi 42 rfl) rfl ?_
        exact ⟨_, rfl, rfl, (MI_Rw J2 (fun l k => (Or.inl k)))⟩
    · skip
      refine ex_aload_n ok_X12_told (mi 23 rfl) rfl ?_
      refine ex_getRx ok_X12_told (mi 24 rfl) rfl rfl (fk (MI_s J2) 0 rfl) (fr (MI_s J2) 15 rfl) (fk (MI_s J2) 16 rfl) (by decide) ?_
      refine ex_iload_n ok_X12_told (mi 25 rfl) rfl ?_
      refine sm_iald ok_X12_told (mi 26 rfl) (fk (MI_s J2) 16 rfl) (fn (MI_s J2) 16 rfl) rfl (by omega) (by decide) ?_
      refine ex_gen (fun w29 => ?_)
      refine ex_iconst ok_X12_told (mi 27 rfl) ?_
      refine ex_icmp_ne (tgt := 63) ok_X12_told (mi 28 rfl) rfl (fun h41 => ?_) (fun h41 => ?_)
      · skip
        refine ex_vret ok_X12_told (mi 42 rfl) rfl ?_
        exact ⟨_, rfl, rfl, (MI_Rw J2 (fun l k => (Or.inl k)))⟩
      · skip
        refine ex_aload_n ok_X12_told (mi 29 rfl) rfl ?_
        refine ex_getRx ok_X12_told (mi 30 rfl) rfl rfl (fk (MI_s J2) 0 rfl) (fr (MI_s J2) 52 rfl) (fk (MI_s J2) 53 rfl) (by decide) ?_
        refine ex_iconst ok_X12_told (mi 31 rfl) ?_
        refine ex_iload_n ok_X12_told (mi 32 rfl) rfl ?_
        refine ex_imul ok_X12_told (mi 33 rfl) ?_
        refine ex_top (w := (nI (3 * a1))) (nI_mulc rfl) ?_
        refine ex_iconst ok_X12_told (mi 34 rfl) ?_
        refine ex_iadd ok_X12_told (mi 35 rfl) ?_
        refine ex_top (w := (nI (3 * a1 + 1))) (nI_add _ 1) ?_
        refine sm_iald ok_X12_told (mi 36 rfl) (fk (MI_s J2) 53 rfl) (fn (MI_s J2) 53 rfl) rfl (by omega) (by decide) ?_
        refine ex_gen (fun w30 => ?_)
        refine ex_aload_n ok_X12_told (mi 37 rfl) rfl ?_
        refine ex_getRx ok_X12_told (mi 38 rfl) rfl rfl (fk (MI_s J2) 0 rfl) (fr (MI_s J2) 16 rfl) (fk (MI_s J2) 17 rfl) (by decide) ?_
        refine ex_iload_n ok_X12_told (mi 39 rfl) rfl ?_
        refine sm_iald ok_X12_told (mi 40 rfl) (fk (MI_s J2) 17 rfl) (fn (MI_s J2) 17 rfl) rfl (by omega) (by decide) ?_
        refine ex_gen (fun w31 => ?_)
        refine ex_icmp_eq (tgt := 64) ok_X12_told (mi 41 rfl) rfl (fun h60 => ?_) (fun h60 => ?_)
        · skip
          refine ex_aload_n ok_X12_told (mi 43 rfl) rfl ?_
          refine ex_getRx ok_X12_told (mi 44 rfl) rfl rfl (fk (MI_s J2) 0 rfl) (fr (MI_s J2) 18 rfl) (fk (MI_s J2) 19 rfl) (by decide) ?_
          refine ex_iload_n ok_X12_told (mi 45 rfl) rfl ?_
          refine ex_dup2 ok_X12_told (mi 46 rfl) rfl rfl ?_
          refine sm_iald ok_X12_told (mi 47 rfl) (fk (MI_s J2) 19 rfl) (fn (MI_s J2) 19 rfl) rfl (by omega) (by decide) ?_
          refine ex_gen (fun w32 => ?_)
          refine ex_iconst ok_X12_told (mi 48 rfl) ?_
          refine ex_aload_n ok_X12_told (mi 49 rfl) rfl ?_
          refine ex_getRx ok_X12_told (mi 50 rfl) rfl rfl (fk (MI_s J2) 0 rfl) (fr (MI_s J2) 50 rfl) (fk (MI_s J2) 51 rfl) (by decide) ?_
          refine ex_iload_n ok_X12_told (mi 51 rfl) rfl ?_
          refine sm_iald ok_X12_told (mi 52 rfl) (fk (MI_s J2) 51 rfl) (fn (MI_s J2) 51 rfl) rfl (by omega) (by decide) ?_
          refine ex_gen (fun w33 => ?_)
          refine ex_ishl ok_X12_told (mi 53 rfl) ?_
          refine ex_gen (fun w34 => ?_)
          refine ex_ior ok_X12_told (mi 54 rfl) ?_
          refine ex_gen (fun w35 => ?_)
          refine mf_A J2 ok_X12_told (mi 55 rfl) (fk (MI_s J2) 19 rfl) (fn (MI_s J2) 19 rfl) rfl (by omega) (by decide) (by decide) (by decide) (by decide) (fun g36 J37 K38 => ?_)
          have mk39 := KK_mk K38 hmk
          refine ex_aload_n ok_X12_told (mi 56 rfl) rfl ?_
          refine ex_getRx ok_X12_told (mi 57 rfl) rfl rfl (fk (MI_s J37) 0 rfl) (fr (MI_s J37) 15 rfl) (fk (MI_s J37) 16 rfl) (by decide) ?_
          refine ex_iload_n ok_X12_told (mi 58 rfl) rfl ?_
          refine ex_aload_n ok_X12_told (mi 59 rfl) rfl ?_
          refine ex_getRx ok_X12_told (mi 60 rfl) rfl rfl (fk (MI_s J37) 0 rfl) (fr (MI_s J37) 18 rfl) (fk (MI_s J37) 19 rfl) (by decide) ?_
          refine ex_iload_n ok_X12_told (mi 61 rfl) rfl ?_
          refine sm_iald ok_X12_told (mi 62 rfl) (fk (MI_s J37) 19 rfl) (fn (MI_s J37) 19 rfl) rfl (by omega) (by decide) ?_
          refine ex_gen (fun w40 => ?_)
          refine sf_Sp (As := [_]) ok_X12_told (mi 63 rfl) rfl (s_X12_bits hst (MI_s J37)) rfl rfl rfl (by decide) (Nat.le_of_ble_eq_true rfl) (by decide) (fun z41 p42 => ?_)
          obtain ⟨v45, rfl⟩ := p42
          refine ex_iconst ok_X12_told (mi 64 rfl) ?_
          refine ex_icmp_lt (tgt := 103) ok_X12_told (mi 65 rfl) rfl (fun h96 => ?_) (fun h96 => ?_)
          · skip
            refine ex_aload_n ok_X12_told (mi 68 rfl) rfl ?_
            refine ex_getRx ok_X12_told (mi 69 rfl) rfl rfl (fk (MI_s J37) 0 rfl) (fr (MI_s J37) 15 rfl) (fk (MI_s J37) 16 rfl) (by decide) ?_
            refine ex_iload_n ok_X12_told (mi 70 rfl) rfl ?_
            refine sm_iald ok_X12_told (mi 71 rfl) (fk (MI_s J37) 16 rfl) (fn (MI_s J37) 16 rfl) rfl (by omega) (by decide) ?_
            refine ex_gen (fun w46 => ?_)
            refine mf_A J37 ok_X12_told (mi 72 rfl) (fk (MI_s J37) 16 rfl) (fn (MI_s J37) 16 rfl) rfl (by omega) (by decide) (by decide) (by decide) (by decide) (fun g47 J48 K49 => ?_)
            have mk50 := KK_mk K49 mk39
            refine ex_vret ok_X12_told (mi 73 rfl) rfl ?_
            exact ⟨_, rfl, rfl, (MI_Rw J48 (fun l k => (Or.inl k)))⟩
          · skip
            refine ex_iconst ok_X12_told (mi 66 rfl) ?_
            refine ex_goto (tgt := 109) ok_X12_told (mi 67 rfl) rfl ?_
            refine mf_A J37 ok_X12_told (mi 72 rfl) (fk (MI_s J37) 16 rfl) (fn (MI_s J37) 16 rfl) rfl (by omega) (by decide) (by decide) (by decide) (by decide) (fun g51 J52 K53 => ?_)
            have mk54 := KK_mk K53 mk39
            refine ex_vret ok_X12_told (mi 73 rfl) rfl ?_
            exact ⟨_, rfl, rfl, (MI_Rw J52 (fun l k => (Or.inl k)))⟩
        · skip
          refine ex_vret ok_X12_told (mi 42 rfl) rfl ?_
          exact ⟨_, rfl, rfl, (MI_Rw J2 (fun l k => (Or.inl k)))⟩
theorem s_X12_knowing {G : GE} (hst : (ge_l G).stackTraces = false) {y c : Nat} {D : UT} {R : Nat → Prop} {g : GT} (I : MI y D c R g) {a0 : Nat} (ha0 : a0 < 3) {a1 : Nat} (ha1 : a1 < 402) {m : Nat} (hmk : MK y g a1 10 m) : ex_M G 3 0 0 my_X12_knowing [.ref y, .int (nI (a0)), .int (nI (a1))] g (SM y D c R pN) := by
  refine ex_M_of ok_X12_knowing cw_X12_knowing rfl hst (Nat.le_of_ble_eq_true rfl) ?_
  have hm3 : m < 301 := hmk.2.2.2.2.2.2.2.1
  refine ex_aload_n ok_X12_knowing (mi 0 rfl) rfl ?_
  refine ex_getRx ok_X12_knowing (mi 1 rfl) rfl rfl (fk (MI_s I) 0 rfl) (fr (MI_s I) 1 rfl) (fk (MI_s I) 2 rfl) (by decide) ?_
  refine ex_iload_n ok_X12_knowing (mi 2 rfl) rfl ?_
  refine sm_iald ok_X12_knowing (mi 3 rfl) (fk (MI_s I) 2 rfl) (fn (MI_s I) 2 rfl) rfl (by omega) (by decide) ?_
  refine ex_iconst ok_X12_knowing (mi 4 rfl) ?_
  refine ex_icmp_ne (tgt := 56) ok_X12_knowing (mi 5 rfl) rfl (fun h7 => ?_) (fun h7 => ?_)
  · skip
    refine ex_vret ok_X12_knowing (mi 36 rfl) rfl ?_
    exact ⟨_, rfl, rfl, I⟩
  · skip
    have J1 := MI_Ra (l := a0) I (by rw [h7]; decide)
    refine ex_aload_n ok_X12_knowing (mi 6 rfl) rfl ?_
    refine ex_getRx ok_X12_knowing (mi 7 rfl) rfl rfl (fk (MI_s J1) 0 rfl) (fr (MI_s J1) 52 rfl) (fk (MI_s J1) 53 rfl) (by decide) ?_
    refine ex_iconst ok_X12_knowing (mi 8 rfl) ?_
    refine ex_iload_n ok_X12_knowing (mi 9 rfl) rfl ?_
    refine ex_imul ok_X12_knowing (mi 10 rfl) ?_
    refine ex_top (w := (nI (3 * a1))) (nI_mulc rfl) ?_
    refine sm_iald ok_X12_knowing (mi 11 rfl) (fk (MI_s J1) 53 rfl) (fn (MI_s J1) 53 rfl) rfl (by omega) (by decide) ?_
    refine ex_gen (fun w2 => ?_)
    refine ex_aload_n ok_X12_knowing (mi 12 rfl) rfl ?_
    refine ex_getRx ok_X12_knowing (mi 13 rfl) rfl rfl (fk (MI_s J1) 0 rfl) (fr (MI_s J1) 2 rfl) (fk (MI_s J1) 3 rfl) (by decide) ?_
    refine ex_iload_n ok_X12_knowing (mi 14 rfl) rfl ?_
    refine sm_iald ok_X12_knowing (mi 15 rfl) (fk (MI_s J1) 3 rfl) (fn (MI_s J1) 3 rfl) rfl (by omega) (by decide) ?_
    obtain ⟨v3, hv3, ev3⟩ := vp_in_of (n := 300) (MI_rd J1 (i := a0) (by omega) (Or.inr rfl)) (by decide)
    refine ex_top (w := nI v3) ev3 ?_
    refine ex_icmp_ne (tgt := 56) ok_X12_knowing (mi 16 rfl) rfl (fun h24 => ?_) (fun h24 => ?_)
    · skip
      refine ex_vret ok_X12_knowing (mi 36 rfl) rfl ?_
      exact ⟨_, rfl, rfl, (MI_Rw J1 (fun l k => (Or.inl k)))⟩
    · skip
      refine ex_aload_n ok_X12_knowing (mi 17 rfl) rfl ?_
      refine ex_getRx ok_X12_knowing (mi 18 rfl) rfl rfl (fk (MI_s J1) 0 rfl) (fr (MI_s J1) 19 rfl) (fk (MI_s J1) 20 rfl) (by decide) ?_
      refine ex_iload_n ok_X12_knowing (mi 19 rfl) rfl ?_
      refine sm_iald ok_X12_knowing (mi 20 rfl) (fk (MI_s J1) 20 rfl) (fn (MI_s J1) 20 rfl) rfl (by omega) (by decide) ?_
      refine ex_gen (fun w4 => ?_)
      refine ex_iconst ok_X12_knowing (mi 21 rfl) ?_
      refine ex_icmp_ne (tgt := 56) ok_X12_knowing (mi 22 rfl) rfl (fun h34 => ?_) (fun h34 => ?_)
      · skip
        refine ex_vret ok_X12_knowing (mi 36 rfl) rfl ?_
        exact ⟨_, rfl, rfl, (MI_Rw J1 (fun l k => (Or.inl k)))⟩
      · skip
        refine ex_aload_n ok_X12_knowing (mi 23 rfl) rfl ?_
        refine ex_getRx ok_X12_knowing (mi 24 rfl) rfl rfl (fk (MI_s J1) 0 rfl) (fr (MI_s J1) 52 rfl) (fk (MI_s J1) 53 rfl) (by decide) ?_
        refine ex_iconst ok_X12_knowing (mi 25 rfl) ?_
        refine ex_iload_n ok_X12_knowing (mi 26 rfl) rfl ?_
        refine ex_imul ok_X12_knowing (mi 27 rfl) ?_
        refine ex_top (w := (nI (3 * a1))) (nI_mulc rfl) ?_
        refine ex_iconst ok_X12_knowing (mi 28 rfl) ?_
        refine ex_iadd ok_X12_knowing (mi 29 rfl) ?_
        refine ex_top (w := (nI (3 * a1 + 1))) (nI_add _ 1) ?_
        refine sm_iald ok_X12_knowing (mi 30 rfl) (fk (MI_s J1) 53 rfl) (fn (MI_s J1) 53 rfl) rfl (by omega) (by decide) ?_
        refine ex_gen (fun w5 => ?_)
        refine ex_aload_n ok_X12_knowing (mi 31 rfl) rfl ?_
        refine ex_getRx ok_X12_knowing (mi 32 rfl) rfl rfl (fk (MI_s J1) 0 rfl) (fr (MI_s J1) 20 rfl) (fk (MI_s J1) 21 rfl) (by decide) ?_
        refine ex_iload_n ok_X12_knowing (mi 33 rfl) rfl ?_
        refine sm_iald ok_X12_knowing (mi 34 rfl) (fk (MI_s J1) 21 rfl) (fn (MI_s J1) 21 rfl) rfl (by omega) (by decide) ?_
        obtain ⟨v6, hv6, ev6⟩ := vp_in_of (n := 17) (MI_bd J1 5 rfl (i := a0) (by omega)) (by decide)
        refine ex_top (w := nI v6) ev6 ?_
        refine ex_icmp_eq (tgt := 57) ok_X12_knowing (mi 35 rfl) rfl (fun h53 => ?_) (fun h53 => ?_)
        · skip
          refine ex_aload_n ok_X12_knowing (mi 37 rfl) rfl ?_
          refine ex_getRx ok_X12_knowing (mi 38 rfl) rfl rfl (fk (MI_s J1) 0 rfl) (fr (MI_s J1) 21 rfl) (fk (MI_s J1) 22 rfl) (by decide) ?_
          refine ex_iload_n ok_X12_knowing (mi 39 rfl) rfl ?_
          refine ex_dup2 ok_X12_knowing (mi 40 rfl) rfl rfl ?_
          refine sm_iald ok_X12_knowing (mi 41 rfl) (fk (MI_s J1) 22 rfl) (fn (MI_s J1) 22 rfl) rfl (by omega) (by decide) ?_
          refine ex_gen (fun w7 => ?_)
          refine ex_iconst ok_X12_knowing (mi 42 rfl) ?_
          refine ex_aload_n ok_X12_knowing (mi 43 rfl) rfl ?_
          refine ex_getRx ok_X12_knowing (mi 44 rfl) rfl rfl (fk (MI_s J1) 0 rfl) (fr (MI_s J1) 50 rfl) (fk (MI_s J1) 51 rfl) (by decide) ?_
          refine ex_iload_n ok_X12_knowing (mi 45 rfl) rfl ?_
          refine sm_iald ok_X12_knowing (mi 46 rfl) (fk (MI_s J1) 51 rfl) (fn (MI_s J1) 51 rfl) rfl (by omega) (by decide) ?_
          refine ex_gen (fun w8 => ?_)
          refine ex_ishl ok_X12_knowing (mi 47 rfl) ?_
          refine ex_gen (fun w9 => ?_)
          refine ex_ior ok_X12_knowing (mi 48 rfl) ?_
          refine ex_gen (fun w10 => ?_)
          refine mf_A J1 ok_X12_knowing (mi 49 rfl) (fk (MI_s J1) 22 rfl) (fn (MI_s J1) 22 rfl) rfl (by omega) (by decide) (by decide) (by decide) (by decide) (fun g11 J12 K13 => ?_)
          have mk14 := KK_mk K13 hmk
          refine ex_aload_n ok_X12_knowing (mi 50 rfl) rfl ?_
          refine ex_getRx ok_X12_knowing (mi 51 rfl) rfl rfl (fk (MI_s J12) 0 rfl) (fr (MI_s J12) 21 rfl) (fk (MI_s J12) 22 rfl) (by decide) ?_
          refine ex_iload_n ok_X12_knowing (mi 52 rfl) rfl ?_
          refine sm_iald ok_X12_knowing (mi 53 rfl) (fk (MI_s J12) 22 rfl) (fn (MI_s J12) 22 rfl) rfl (by omega) (by decide) ?_
          refine ex_gen (fun w15 => ?_)
          refine ex_aload_n ok_X12_knowing (mi 54 rfl) rfl ?_
          refine ex_getRx ok_X12_knowing (mi 55 rfl) rfl rfl (fk (MI_s J12) 0 rfl) (fr (MI_s J12) 3 rfl) (fk (MI_s J12) 4 rfl) (by decide) ?_
          refine ex_iload_n ok_X12_knowing (mi 56 rfl) rfl ?_
          refine sm_iald ok_X12_knowing (mi 57 rfl) (fk (MI_s J12) 4 rfl) (fn (MI_s J12) 4 rfl) rfl (by omega) (by decide) ?_
          refine ex_gen (fun w16 => ?_)
          refine sf_Sp (As := [_, _]) ok_X12_knowing (mi 58 rfl) rfl (s_X12_isMajority hst (MI_s J12)) rfl rfl rfl (by decide) (Nat.le_of_ble_eq_true rfl) (by decide) (fun z17 p18 => ?_)
          obtain ⟨v21, rfl, hbv21⟩ := p18
          refine ex_if_eq (tgt := 126) ok_X12_knowing (mi 59 rfl) rfl (fun h89 => ?_) (fun h89 => ?_)
          · skip
            refine ex_vret ok_X12_knowing (mi 83 rfl) rfl ?_
            exact ⟨_, rfl, rfl, (MI_Rw J12 (fun l k => (Or.inl k)))⟩
          · skip
            refine ex_aload_n ok_X12_knowing (mi 60 rfl) rfl ?_
            refine ex_getRx ok_X12_knowing (mi 61 rfl) rfl rfl (fk (MI_s J12) 0 rfl) (fr (MI_s J12) 19 rfl) (fk (MI_s J12) 20 rfl) (by decide) ?_
            refine ex_iload_n ok_X12_knowing (mi 62 rfl) rfl ?_
            refine ex_iconst ok_X12_knowing (mi 63 rfl) ?_
            refine mf_A J12 ok_X12_knowing (mi 64 rfl) (fk (MI_s J12) 20 rfl) (fn (MI_s J12) 20 rfl) rfl (by omega) (by decide) (by decide) (by decide) (by decide) (fun g22 J23 K24 => ?_)
            have mk25 := KK_mk K24 mk14
            refine ex_aload_n ok_X12_knowing (mi 65 rfl) rfl ?_
            refine ex_bipush ok_X12_knowing (mi 66 rfl) ?_
            refine ex_iload_n ok_X12_knowing (mi 67 rfl) rfl ?_
            refine ex_aload_n ok_X12_knowing (mi 68 rfl) rfl ?_
            refine ex_getRx ok_X12_knowing (mi 69 rfl) rfl rfl (fk (MI_s J23) 0 rfl) (fr (MI_s J23) 5 rfl) (fk (MI_s J23) 6 rfl) (by decide) ?_
            refine ex_iload_n ok_X12_knowing (mi 70 rfl) rfl ?_
            refine sm_iald ok_X12_knowing (mi 71 rfl) (fk (MI_s J23) 6 rfl) (fn (MI_s J23) 6 rfl) rfl (by omega) (by decide) ?_
            obtain ⟨v26, hv26, ev26⟩ := vp_in_of (n := 512) (MI_bd J23 0 rfl (i := a0) (by omega)) (by decide)
            refine ex_top (w := nI v26) ev26 ?_
            refine ex_aload_n ok_X12_knowing (mi 72 rfl) rfl ?_
            refine ex_getRx ok_X12_knowing (mi 73 rfl) rfl rfl (fk (MI_s J23) 0 rfl) (fr (MI_s J23) 4 rfl) (fk (MI_s J23) 5 rfl) (by decide) ?_
            refine ex_iload_n ok_X12_knowing (mi 74 rfl) rfl ?_
            refine sm_iald ok_X12_knowing (mi 75 rfl) (fk (MI_s J23) 5 rfl) (fn (MI_s J23) 5 rfl) rfl (by omega) (by decide) ?_
            refine ex_gen (fun w27 => ?_)
            refine ex_aload_n ok_X12_knowing (mi 76 rfl) rfl ?_
            refine ex_getRx ok_X12_knowing (mi 77 rfl) rfl rfl (fk (MI_s J23) 0 rfl) (fr (MI_s J23) 2 rfl) (fk (MI_s J23) 3 rfl) (by decide) ?_
            refine ex_iload_n ok_X12_knowing (mi 78 rfl) rfl ?_
            refine sm_iald ok_X12_knowing (mi 79 rfl) (fk (MI_s J23) 3 rfl) (fn (MI_s J23) 3 rfl) rfl (by omega) (by decide) ?_
            obtain ⟨v28, hv28, ev28⟩ := vp_in_of (n := 300) (MI_rd J23 (i := a0) (by omega) (Or.inr rfl)) (by decide)
            refine ex_top (w := nI v28) ev28 ?_
            refine ex_iconst ok_X12_knowing (mi 80 rfl) ?_
            refine sm_V (As := [_, _, _, _, _, _]) ok_X12_knowing (mi 81 rfl) rfl (s_X12_layAll hst J23 (κ := 11) (by decide) (Or.inr (vp_in_nI (N := 3) (by omega) (by decide))) (TO9 rfl (vp_in_nI (N := 512) (by omega) (by decide))) (Or.inl rfl) (Or.inr (vp_in_nI (N := 300) (by omega) (by decide))) (Or.inl rfl)) rfl (fk (MI_s J23) 0 rfl) rfl rfl (by decide) (by decide) (Nat.le_of_ble_eq_true rfl) (by decide) SM_no (fun z29 g31 p30 => ?_)
            obtain ⟨u33, eu33, u33p, J32⟩ := p30
            cases eu33
            obtain ⟨v34, rfl⟩ := u33p
            refine ex_istore_n ok_X12_knowing (mi 82 rfl) ?_
            refine ex_vret ok_X12_knowing (mi 83 rfl) rfl ?_
            exact ⟨_, rfl, rfl, (MI_Rw J32 (fun l k => (Or.inl k)))⟩
        · skip
          refine ex_vret ok_X12_knowing (mi 36 rfl) rfl ?_
          exact ⟨_, rfl, rfl, (MI_Rw J1 (fun l k => (Or.inl k)))⟩
theorem s_X12_collected {G : GE} (hst : (ge_l G).stackTraces = false) {y c : Nat} {D : UT} {R : Nat → Prop} {g : GT} (I : MI y D c R g) {a0 : Nat} (ha0 : a0 < 3) {a1 : Nat} (ha1 : a1 < 402) {m : Nat} (hmk : MK y g a1 12 m) : ex_M G 3 0 0 my_X12_collected [.ref y, .int (nI (a0)), .int (nI (a1))] g (SM y D c R pN) := by
  refine ex_M_of ok_X12_collected cw_X12_collected rfl hst (Nat.le_of_ble_eq_true rfl) ?_
  have hm3 : m < 301 := hmk.2.2.2.2.2.2.2.1
  refine ex_aload_n ok_X12_collected (mi 0 rfl) rfl ?_
  refine ex_getRx ok_X12_collected (mi 1 rfl) rfl rfl (fk (MI_s I) 0 rfl) (fr (MI_s I) 1 rfl) (fk (MI_s I) 2 rfl) (by decide) ?_
  refine ex_iload_n ok_X12_collected (mi 2 rfl) rfl ?_
  refine sm_iald ok_X12_collected (mi 3 rfl) (fk (MI_s I) 2 rfl) (fn (MI_s I) 2 rfl) rfl (by omega) (by decide) ?_
  refine ex_iconst ok_X12_collected (mi 4 rfl) ?_
  refine ex_icmp_ne (tgt := 56) ok_X12_collected (mi 5 rfl) rfl (fun h7 => ?_) (fun h7 => ?_)
  · skip
    refine ex_vret ok_X12_collected (mi 36 rfl) rfl ?_
    exact ⟨_, rfl, rfl, I⟩
  · skip
    have J1 := MI_Ra (l := a0) I (by rw [h7]; decide)
    refine ex_aload_n ok_X12_collected (mi 6 rfl) rfl ?_
    refine ex_getRx ok_X12_collected (mi 7 rfl) rfl rfl (fk (MI_s J1) 0 rfl) (fr (MI_s J1) 52 rfl) (fk (MI_s J1) 53 rfl) (by decide) ?_
    refine ex_iconst ok_X12_collected (mi 8 rfl) ?_
    refine ex_iload_n ok_X12_collected (mi 9 rfl) rfl ?_
    refine ex_imul ok_X12_collected (mi 10 rfl) ?_
    refine ex_top (w := (nI (3 * a1))) (nI_mulc rfl) ?_
    refine ex_iconst ok_X12_collected (mi 11 rfl) ?_
    refine ex_iadd ok_X12_collected (mi 12 rfl) ?_
    refine ex_top (w := (nI (3 * a1 + 1))) (nI_add _ 1) ?_
    refine sm_iald ok_X12_collected (mi 13 rfl) (fk (MI_s J1) 53 rfl) (fn (MI_s J1) 53 rfl) rfl (by omega) (by decide) ?_
    refine ex_gen (fun w2 => ?_)
    refine ex_aload_n ok_X12_collected (mi 14 rfl) rfl ?_
    refine ex_getRx ok_X12_collected (mi 15 rfl) rfl rfl (fk (MI_s J1) 0 rfl) (fr (MI_s J1) 2 rfl) (fk (MI_s J1) 3 rfl) (by decide) ?_
    refine ex_iload_n ok_X12_collected (mi 16 rfl) rfl ?_
    refine sm_iald ok_X12_collected (mi 17 rfl) (fk (MI_s J1) 3 rfl) (fn (MI_s J1) 3 rfl) rfl (by omega) (by decide) ?_
    obtain ⟨v3, hv3, ev3⟩ := vp_in_of (n := 300) (MI_rd J1 (i := a0) (by omega) (Or.inr rfl)) (by decide)
    refine ex_top (w := nI v3) ev3 ?_
    refine ex_icmp_ne (tgt := 56) ok_X12_collected (mi 18 rfl) rfl (fun h26 => ?_) (fun h26 => ?_)
    · skip
      refine ex_vret ok_X12_collected (mi 36 rfl) rfl ?_
      exact ⟨_, rfl, rfl, (MI_Rw J1 (fun l k => (Or.inl k)))⟩
    · skip
      refine ex_aload_n ok_X12_collected (mi 19 rfl) rfl ?_
      refine ex_getRx ok_X12_collected (mi 20 rfl) rfl rfl (fk (MI_s J1) 0 rfl) (fr (MI_s J1) 19 rfl) (fk (MI_s J1) 20 rfl) (by decide) ?_
      refine ex_iload_n ok_X12_collected (mi 21 rfl) rfl ?_
      refine sm_iald ok_X12_collected (mi 22 rfl) (fk (MI_s J1) 20 rfl) (fn (MI_s J1) 20 rfl) rfl (by omega) (by decide) ?_
      refine ex_gen (fun w4 => ?_)
      refine ex_iconst ok_X12_collected (mi 23 rfl) ?_
      refine ex_icmp_ne (tgt := 56) ok_X12_collected (mi 24 rfl) rfl (fun h36 => ?_) (fun h36 => ?_)
      · skip
        refine ex_vret ok_X12_collected (mi 36 rfl) rfl ?_
        exact ⟨_, rfl, rfl, (MI_Rw J1 (fun l k => (Or.inl k)))⟩
      · skip
        refine ex_aload_n ok_X12_collected (mi 25 rfl) rfl ?_
        refine ex_getRx ok_X12_collected (mi 26 rfl) rfl rfl (fk (MI_s J1) 0 rfl) (fr (MI_s J1) 52 rfl) (fk (MI_s J1) 53 rfl) (by decide) ?_
        refine ex_iconst ok_X12_collected (mi 27 rfl) ?_
        refine ex_iload_n ok_X12_collected (mi 28 rfl) rfl ?_
        refine ex_imul ok_X12_collected (mi 29 rfl) ?_
        refine ex_top (w := (nI (3 * a1))) (nI_mulc rfl) ?_
        refine sm_iald ok_X12_collected (mi 30 rfl) (fk (MI_s J1) 53 rfl) (fn (MI_s J1) 53 rfl) rfl (by omega) (by decide) ?_
        refine ex_gen (fun w5 => ?_)
        refine ex_aload_n ok_X12_collected (mi 31 rfl) rfl ?_
        refine ex_getRx ok_X12_collected (mi 32 rfl) rfl rfl (fk (MI_s J1) 0 rfl) (fr (MI_s J1) 4 rfl) (fk (MI_s J1) 5 rfl) (by decide) ?_
        refine ex_iload_n ok_X12_collected (mi 33 rfl) rfl ?_
        refine sm_iald ok_X12_collected (mi 34 rfl) (fk (MI_s J1) 5 rfl) (fn (MI_s J1) 5 rfl) rfl (by omega) (by decide) ?_
        refine ex_gen (fun w6 => ?_)
        refine ex_icmp_eq (tgt := 57) ok_X12_collected (mi 35 rfl) rfl (fun h53 => ?_) (fun h53 => ?_)
        · skip
          refine ex_aload_n ok_X12_collected (mi 37 rfl) rfl ?_
          refine ex_getRx ok_X12_collected (mi 38 rfl) rfl rfl (fk (MI_s J1) 0 rfl) (fr (MI_s J1) 22 rfl) (fk (MI_s J1) 23 rfl) (by decide) ?_
          refine ex_iload_n ok_X12_collected (mi 39 rfl) rfl ?_
          refine ex_dup2 ok_X12_collected (mi 40 rfl) rfl rfl ?_
          refine sm_iald ok_X12_collected (mi 41 rfl) (fk (MI_s J1) 23 rfl) (fn (MI_s J1) 23 rfl) rfl (by omega) (by decide) ?_
          refine ex_gen (fun w7 => ?_)
          refine ex_iconst ok_X12_collected (mi 42 rfl) ?_
          refine ex_aload_n ok_X12_collected (mi 43 rfl) rfl ?_
          refine ex_getRx ok_X12_collected (mi 44 rfl) rfl rfl (fk (MI_s J1) 0 rfl) (fr (MI_s J1) 50 rfl) (fk (MI_s J1) 51 rfl) (by decide) ?_
          refine ex_iload_n ok_X12_collected (mi 45 rfl) rfl ?_
          refine sm_iald ok_X12_collected (mi 46 rfl) (fk (MI_s J1) 51 rfl) (fn (MI_s J1) 51 rfl) rfl (by omega) (by decide) ?_
          refine ex_gen (fun w8 => ?_)
          refine ex_ishl ok_X12_collected (mi 47 rfl) ?_
          refine ex_gen (fun w9 => ?_)
          refine ex_ior ok_X12_collected (mi 48 rfl) ?_
          refine ex_gen (fun w10 => ?_)
          refine mf_A J1 ok_X12_collected (mi 49 rfl) (fk (MI_s J1) 23 rfl) (fn (MI_s J1) 23 rfl) rfl (by omega) (by decide) (by decide) (by decide) (by decide) (fun g11 J12 K13 => ?_)
          have mk14 := KK_mk K13 hmk
          refine ex_aload_n ok_X12_collected (mi 50 rfl) rfl ?_
          refine ex_getRx ok_X12_collected (mi 51 rfl) rfl rfl (fk (MI_s J12) 0 rfl) (fr (MI_s J12) 22 rfl) (fk (MI_s J12) 23 rfl) (by decide) ?_
          refine ex_iload_n ok_X12_collected (mi 52 rfl) rfl ?_
          refine sm_iald ok_X12_collected (mi 53 rfl) (fk (MI_s J12) 23 rfl) (fn (MI_s J12) 23 rfl) rfl (by omega) (by decide) ?_
          refine ex_gen (fun w15 => ?_)
          refine sf_Sp (As := [_]) ok_X12_collected (mi 54 rfl) rfl (s_X12_bits hst (MI_s J12)) rfl rfl rfl (by decide) (Nat.le_of_ble_eq_true rfl) (by decide) (fun z16 p17 => ?_)
          obtain ⟨v20, rfl⟩ := p17
          refine ex_iconst ok_X12_collected (mi 55 rfl) ?_
          refine ex_icmp_lt (tgt := 158) ok_X12_collected (mi 56 rfl) rfl (fun h84 => ?_) (fun h84 => ?_)
          · skip
            refine ex_vret ok_X12_collected (mi 100 rfl) rfl ?_
            exact ⟨_, rfl, rfl, (MI_Rw J12 (fun l k => (Or.inl k)))⟩
          · skip
            refine ex_aload_n ok_X12_collected (mi 57 rfl) rfl ?_
            refine ex_getRx ok_X12_collected (mi 58 rfl) rfl rfl (fk (MI_s J12) 0 rfl) (fr (MI_s J12) 19 rfl) (fk (MI_s J12) 20 rfl) (by decide) ?_
            refine ex_iload_n ok_X12_collected (mi 59 rfl) rfl ?_
            refine ex_iconst ok_X12_collected (mi 60 rfl) ?_
            refine mf_A J12 ok_X12_collected (mi 61 rfl) (fk (MI_s J12) 20 rfl) (fn (MI_s J12) 20 rfl) rfl (by omega) (by decide) (by decide) (by decide) (by decide) (fun g21 J22 K23 => ?_)
            have mk24 := KK_mk K23 mk14
            refine ex_aload_n ok_X12_collected (mi 62 rfl) rfl ?_
            refine ex_getRx ok_X12_collected (mi 63 rfl) rfl rfl (fk (MI_s J22) 0 rfl) (fr (MI_s J22) 23 rfl) (fk (MI_s J22) 24 rfl) (by decide) ?_
            refine ex_iload_n ok_X12_collected (mi 64 rfl) rfl ?_
            refine ex_aload_n ok_X12_collected (mi 65 rfl) rfl ?_
            refine ex_iload_n ok_X12_collected (mi 66 rfl) rfl ?_
            refine sf_Vp (As := [_]) ok_X12_collected (mi 67 rfl) rfl (s_X12_votersOfHistory hst (MI_s J22) (vp_in_nI (N := 3) (by omega) (by decide))) rfl (fk (MI_s J22) 0 rfl) rfl rfl (by decide) (by decide) (Nat.le_of_ble_eq_true rfl) (by decide) (fun z25 p26 => ?_)
            obtain ⟨v29, rfl⟩ := p26
            refine mf_A J22 ok_X12_collected (mi 68 rfl) (fk (MI_s J22) 24 rfl) (fn (MI_s J22) 24 rfl) rfl (by omega) (by decide) (by decide) (by decide) (by decide) (fun g30 J31 K32 => ?_)
            have mk33 := KK_mk K32 mk24
            refine ex_aload_n ok_X12_collected (mi 69 rfl) rfl ?_
            refine ex_bipush ok_X12_collected (mi 70 rfl) ?_
            refine ex_iload_n ok_X12_collected (mi 71 rfl) rfl ?_
            refine ex_aload_n ok_X12_collected (mi 72 rfl) rfl ?_
            refine ex_getRx ok_X12_collected (mi 73 rfl) rfl rfl (fk (MI_s J31) 0 rfl) (fr (MI_s J31) 23 rfl) (fk (MI_s J31) 24 rfl) (by decide) ?_
            refine ex_iload_n ok_X12_collected (mi 74 rfl) rfl ?_
            refine sm_iald ok_X12_collected (mi 75 rfl) (fk (MI_s J31) 24 rfl) (fn (MI_s J31) 24 rfl) rfl (by omega) (by decide) ?_
            refine ex_gen (fun w34 => ?_)
            refine ex_aload_n ok_X12_collected (mi 76 rfl) rfl ?_
            refine ex_getRx ok_X12_collected (mi 77 rfl) rfl rfl (fk (MI_s J31) 0 rfl) (fr (MI_s J31) 2 rfl) (fk (MI_s J31) 3 rfl) (by decide) ?_
            refine ex_iload_n ok_X12_collected (mi 78 rfl) rfl ?_
            refine sm_iald ok_X12_collected (mi 79 rfl) (fk (MI_s J31) 3 rfl) (fn (MI_s J31) 3 rfl) rfl (by omega) (by decide) ?_
            obtain ⟨v35, hv35, ev35⟩ := vp_in_of (n := 300) (MI_rd J31 (i := a0) (by omega) (Or.inr rfl)) (by decide)
            refine ex_top (w := nI v35) ev35 ?_
            refine ex_iconst ok_X12_collected (mi 80 rfl) ?_
            refine ex_iconst ok_X12_collected (mi 81 rfl) ?_
            refine sm_V (As := [_, _, _, _, _, _]) ok_X12_collected (mi 82 rfl) rfl (s_X12_layAll hst J31 (κ := 13) (by decide) (Or.inr (vp_in_nI (N := 3) (by omega) (by decide))) (TO12 rfl) (Or.inl rfl) (Or.inl rfl) (Or.inl rfl)) rfl (fk (MI_s J31) 0 rfl) rfl rfl (by decide) (by decide) (Nat.le_of_ble_eq_true rfl) (by decide) SM_no (fun z36 g38 p37 => ?_)
            obtain ⟨u40, eu40, u40p, J39⟩ := p37
            cases eu40
            obtain ⟨v41, rfl⟩ := u40p
            refine ex_istore_n ok_X12_collected (mi 83 rfl) ?_
            refine ex_iconst ok_X12_collected (mi 84 rfl) ?_
            refine ex_istore ok_X12_collected (mi 85 rfl) ?_
            have lp130 : ∀ n130 k130 : Nat, k130 + n130 = 300 → ∀ (g42 : GT), MI y D c (fun j => R j ∨ j = a0) g42 → ex_W G 3 0 0 M_X12_collected 130 [(0, .ref y), (1, .int (nI (a0))), (2, .int (nI (a1))), (3, .int v41), (4, .int (nI (k130)))] [] g42 (SM y D c R pN) := by
              intro n130
              induction n130 with
              | zero =>
                intro k130 he130  g42 J43 
                obtain rfl : k130 = 300 := by omega
                refine ex_iload ok_X12_collected (mi 86 rfl) rfl ?_
                refine ex_sipush ok_X12_collected (mi 87 rfl) ?_
                refine ex_icmp_ge (tgt := 158) ok_X12_collected (mi 88 rfl) rfl (fun _ => ?_) (fun hn => absurd (by decide) hn)
                refine ex_vret ok_X12_collected (mi 100 rfl) rfl ?_
                exact ⟨_, rfl, rfl, (MI_Rw J43 (fun l k => (Or.inl k)))⟩
              | succ n130 ih130 =>
                intro k130 he130  g42 J43 
                have hr130 : k130 < 300 := by omega
                refine ex_iload ok_X12_collected (mi 86 rfl) rfl ?_
                refine ex_sipush ok_X12_collected (mi 87 rfl) ?_
                refine ex_icmp_ge (tgt := 158) ok_X12_collected (mi 88 rfl) rfl (fun hn => absurd hn (nI_ge (b := 300) hr130 (by decide))) (fun _ => ?_)
                refine ex_aload_n ok_X12_collected (mi 89 rfl) rfl ?_
                refine ex_getRx ok_X12_collected (mi 90 rfl) rfl rfl (fk (MI_s J43) 0 rfl) (fr (MI_s J43) 8 rfl) (fk (MI_s J43) 9 rfl) (by decide) ?_
                refine ex_sipush ok_X12_collected (mi 91 rfl) ?_
                refine ex_iload_n ok_X12_collected (mi 92 rfl) rfl ?_
                refine ex_imul ok_X12_collected (mi 93 rfl) ?_
                refine ex_top (w := (nI (300 * a0))) (nI_mulc rfl) ?_
                refine ex_iload ok_X12_collected (mi 94 rfl) rfl ?_
                refine ex_iadd ok_X12_collected (mi 95 rfl) ?_
                refine ex_top (w := (nI (300 * a0 + k130))) (nI_add _ _) ?_
                refine ex_iconst ok_X12_collected (mi 96 rfl) ?_
                refine mf_A J43 ok_X12_collected (mi 97 rfl) (fk (MI_s J43) 9 rfl) (fn (MI_s J43) 9 rfl) rfl (by omega) (by decide) (by decide) (by decide) (by decide) (fun g44 J45 K46 => ?_)
                refine ex_iincx (w := (nI (k130 + 1))) ok_X12_collected (mi 98 rfl) rfl (nI_1 _) ?_
                refine ex_goto (tgt := 130) ok_X12_collected (mi 99 rfl) rfl ?_
                exact ex_ls (ls' := [(0, .ref y), (1, .int (nI (a0))), (2, .int (nI (a1))), (3, .int v41), (4, .int (nI (k130 + 1)))]) ⟨rfl, rfl, rfl, rfl, rfl, trivial⟩ (ih130 (k130 + 1) (by omega) g44 J45 )
            exact ex_ls (ls' := [(0, .ref y), (1, .int (nI (a0))), (2, .int (nI (a1))), (3, .int v41), (4, .int (nI 0))]) ⟨rfl, rfl, rfl, rfl, rfl, trivial⟩ (lp130 (300 - 0) (0) (by omega) g38 J39 )
        · skip
          refine ex_vret ok_X12_collected (mi 36 rfl) rfl ?_
          exact ⟨_, rfl, rfl, (MI_Rw J1 (fun l k => (Or.inl k)))⟩
