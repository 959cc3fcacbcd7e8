theorem s_X12_stop {G : GE} (hst : (ge_l G).stackTraces = false) {y c : Nat} {D : UT} {R : Nat → Prop} {g : GT} (I : MI y D c R g) {a0 : Nat} (ha0 : a0 < 9) {a1 : Nat} (ha1 : a1 < 3) {p2 : Int32} {p3 : Int32} : ex_M G 3 0 0 my_X12_stop [.ref y, .int (nI (a0)), .int (nI (a1)), .int p2, .int p3] g (SM y D c R pN) := by
  refine ex_M_of ok_X12_stop cw_X12_stop rfl hst (Nat.le_of_ble_eq_true rfl) ?_
  refine ex_aload_n ok_X12_stop (mi 0 rfl) rfl ?_
  refine ex_getRx ok_X12_stop (mi 1 rfl) rfl rfl (fk (MI_s I) 0 rfl) (fr (MI_s I) 41 rfl) (fk (MI_s I) 42 rfl) (by decide) ?_
  refine ex_iload_n ok_X12_stop (mi 2 rfl) rfl ?_
  refine sm_iald ok_X12_stop (mi 3 rfl) (fk (MI_s I) 42 rfl) (fn (MI_s I) 42 rfl) rfl (by omega) (by decide) ?_
  obtain ⟨v1, hv1, ev1⟩ := vp_in_of (n := 512) (MI_bd I 12 rfl (i := a0) (by omega)) (by decide)
  refine ex_top (w := nI v1) ev1 ?_
  refine ex_if_eq (tgt := 16) ok_X12_stop (mi 4 rfl) rfl (fun h6 => ?_) (fun h6 => ?_)
  · skip
    refine ex_aload_n ok_X12_stop (mi 10 rfl) rfl ?_
    refine ex_getRx ok_X12_stop (mi 11 rfl) rfl rfl (fk (MI_s I) 0 rfl) (fr (MI_s I) 33 rfl) (fk (MI_s I) 34 rfl) (by decide) ?_
    refine ex_iload_n ok_X12_stop (mi 12 rfl) rfl ?_
    refine sm_iald ok_X12_stop (mi 13 rfl) (fk (MI_s I) 34 rfl) (fn (MI_s I) 34 rfl) rfl (by omega) (by decide) ?_
    refine ex_gen (fun w2 => ?_)
    refine ex_iconst ok_X12_stop (mi 14 rfl) ?_
    refine ex_icmp_eq (tgt := 36) ok_X12_stop (mi 15 rfl) rfl (fun h23 => ?_) (fun h23 => ?_)
    · skip
      refine ex_aload_n ok_X12_stop (mi 22 rfl) rfl ?_
      refine ex_getRx ok_X12_stop (mi 23 rfl) rfl rfl (fk (MI_s I) 0 rfl) (fr (MI_s I) 34 rfl) (fk (MI_s I) 35 rfl) (by decide) ?_
      refine ex_iload_n ok_X12_stop (mi 24 rfl) rfl ?_
      refine sm_iald ok_X12_stop (mi 25 rfl) (fk (MI_s I) 35 rfl) (fn (MI_s I) 35 rfl) rfl (by omega) (by decide) ?_
      refine ex_gen (fun w3 => ?_)
      refine ex_iload_n ok_X12_stop (mi 26 rfl) rfl ?_
      refine ex_icmp_ne (tgt := 57) ok_X12_stop (mi 27 rfl) rfl (fun h43 => ?_) (fun h43 => ?_)
      · skip
        refine ex_vret ok_X12_stop (mi 34 rfl) rfl ?_
        exact ⟨_, rfl, rfl, I⟩
      · skip
        refine ex_iload ok_X12_stop (mi 28 rfl) rfl ?_
        refine ex_aload_n ok_X12_stop (mi 29 rfl) rfl ?_
        refine ex_getRx ok_X12_stop (mi 30 rfl) rfl rfl (fk (MI_s I) 0 rfl) (fr (MI_s I) 38 rfl) (fk (MI_s I) 39 rfl) (by decide) ?_
        refine ex_iload_n ok_X12_stop (mi 31 rfl) rfl ?_
        refine sm_iald ok_X12_stop (mi 32 rfl) (fk (MI_s I) 39 rfl) (fn (MI_s I) 39 rfl) rfl (by omega) (by decide) ?_
        refine ex_gen (fun w4 => ?_)
        refine ex_icmp_ge (tgt := 58) ok_X12_stop (mi 33 rfl) rfl (fun h54 => ?_) (fun h54 => ?_)
        · skip
          refine ex_aload_n ok_X12_stop (mi 35 rfl) rfl ?_
          refine ex_getRx ok_X12_stop (mi 36 rfl) rfl rfl (fk (MI_s I) 0 rfl) (fr (MI_s I) 38 rfl) (fk (MI_s I) 39 rfl) (by decide) ?_
          refine ex_iload_n ok_X12_stop (mi 37 rfl) rfl ?_
          refine ex_iload ok_X12_stop (mi 38 rfl) rfl ?_
          refine mf_A I ok_X12_stop (mi 39 rfl) (fk (MI_s I) 39 rfl) (fn (MI_s I) 39 rfl) rfl (by omega) (by decide) (by decide) (by decide) (by decide) (fun g5 J6 K7 => ?_)
          refine ex_aload_n ok_X12_stop (mi 40 rfl) rfl ?_
          refine ex_getRx ok_X12_stop (mi 41 rfl) rfl rfl (fk (MI_s J6) 0 rfl) (fr (MI_s J6) 33 rfl) (fk (MI_s J6) 34 rfl) (by decide) ?_
          refine ex_iload_n ok_X12_stop (mi 42 rfl) rfl ?_
          refine ex_iconst ok_X12_stop (mi 43 rfl) ?_
          refine mf_A J6 ok_X12_stop (mi 44 rfl) (fk (MI_s J6) 34 rfl) (fn (MI_s J6) 34 rfl) rfl (by omega) (by decide) (by decide) (by decide) (by decide) (fun g8 J9 K10 => ?_)
          refine ex_aload_n ok_X12_stop (mi 45 rfl) rfl ?_
          refine ex_bipush ok_X12_stop (mi 46 rfl) ?_
          refine ex_iload_n ok_X12_stop (mi 47 rfl) rfl ?_
          refine ex_iload_n ok_X12_stop (mi 48 rfl) rfl ?_
          refine ex_iload_n ok_X12_stop (mi 49 rfl) rfl ?_
          refine ex_iload ok_X12_stop (mi 50 rfl) rfl ?_
          refine ex_aload_n ok_X12_stop (mi 51 rfl) rfl ?_
          refine ex_getRx ok_X12_stop (mi 52 rfl) rfl rfl (fk (MI_s J9) 0 rfl) (fr (MI_s J9) 36 rfl) (fk (MI_s J9) 37 rfl) (by decide) ?_
          refine ex_iload_n ok_X12_stop (mi 53 rfl) rfl ?_
          refine sm_iald ok_X12_stop (mi 54 rfl) (fk (MI_s J9) 37 rfl) (fn (MI_s J9) 37 rfl) rfl (by omega) (by decide) ?_
          obtain ⟨v11, hv11, ev11⟩ := vp_in_of (n := 300) (MI_bd J9 10 rfl (i := a0) (by omega)) (by decide)
          refine ex_top (w := nI v11) ev11 ?_
          refine sm_V (As := [_, _, _, _, _, _]) ok_X12_stop (mi 55 rfl) rfl (s_X12_lay hst J9 (κ := 17) (by decide) (Or.inl rfl) (Or.inr (vp_in_nI (N := 3) (by omega) (by decide))) (Or.inl rfl) (Or.inl rfl) (Or.inr (vp_in_nI (N := 300) (by omega) (by decide)))) rfl (fk (MI_s J9) 0 rfl) rfl rfl (by decide) (by decide) (Nat.le_of_ble_eq_true rfl) (by decide) LV_no (fun z12 g14 p13 => ?_)
          obtain ⟨b16, eb16, hb16, J15, lb16⟩ := p13
          cases eb16
          refine ex_if_eq (tgt := 185) ok_X12_stop (mi 56 rfl) rfl (fun h90 => ?_) (fun h90 => ?_)
          · skip
            refine ex_vret ok_X12_stop (mi 110 rfl) rfl ?_
            exact ⟨_, rfl, rfl, J15⟩
          · skip
            obtain ⟨t17, ht17, lt17, kt17⟩ := lb16 h90
            refine ex_iconst ok_X12_stop (mi 57 rfl) ?_
            refine ex_istore ok_X12_stop (mi 58 rfl) ?_
            have lp96 : ∀ n96 k96 : Nat, k96 + n96 = 300 → ∀ (g18 : GT), MI y D c R g18 → ∀ mm96 : Nat, mm96 ≤ k96 → gx_I g18 1258 y = nI t17 → MK y g18 t17 17 mm96 → ex_W G 3 0 0 M_X12_stop 96 [(0, .ref y), (1, .int (nI (a0))), (2, .int (nI (a1))), (3, .int p2), (4, .int p3), (5, .int (nI (k96)))] [] g18 (SM y D c R pN) := by
              intro n96
              induction n96 with
              | zero =>
                intro k96 he96  g18 J19  mm96 hmm96 hll96 hkk96
                obtain rfl : k96 = 300 := by omega
                refine ex_iload ok_X12_stop (mi 59 rfl) rfl ?_
                refine ex_sipush ok_X12_stop (mi 60 rfl) ?_
                refine ex_icmp_ge (tgt := 149) ok_X12_stop (mi 61 rfl) rfl (fun _ => ?_) (fun hn => absurd (by decide) hn)
                refine ex_aload_n ok_X12_stop (mi 86 rfl) rfl ?_
                refine ex_getRx ok_X12_stop (mi 87 rfl) rfl rfl (fk (MI_s J19) 0 rfl) (fr (MI_s J19) 54 rfl) (fk (MI_s J19) 55 rfl) (by decide) ?_
                refine ex_iconst ok_X12_stop (mi 88 rfl) ?_
                refine ex_aload_n ok_X12_stop (mi 89 rfl) rfl ?_
                refine ex_getI ok_X12_stop (mi 90 rfl) rfl rfl (fk (MI_s J19) 0 rfl) ?_
                refine ex_top (w := nI t17) hll96 ?_
                refine ex_imul ok_X12_stop (mi 91 rfl) ?_
                refine ex_top (w := (nI (2 * t17))) (nI_mulc rfl) ?_
                refine ex_aload_n ok_X12_stop (mi 92 rfl) rfl ?_
                refine ex_getRx ok_X12_stop (mi 93 rfl) rfl rfl (fk (MI_s J19) 0 rfl) (fr (MI_s J19) 39 rfl) (fk (MI_s J19) 40 rfl) (by decide) ?_
                refine ex_iload_n ok_X12_stop (mi 94 rfl) rfl ?_
                refine sm_iald ok_X12_stop (mi 95 rfl) (fk (MI_s J19) 40 rfl) (fn (MI_s J19) 40 rfl) rfl (by omega) (by decide) ?_
                refine ex_gen (fun w20 => ?_)
                refine mf_pk J19 ok_X12_stop (mi 96 rfl) (fk (MI_s J19) 55 rfl) (fn (MI_s J19) 55 rfl) rfl (by omega) (by decide) hkk96 (Or.inl rfl) (fun g21 J22 ll24 mk25 => ?_)
                have ll24' := ll24.trans hll96
                refine ex_aload_n ok_X12_stop (mi 97 rfl) rfl ?_
                refine ex_getRx ok_X12_stop (mi 98 rfl) rfl rfl (fk (MI_s J22) 0 rfl) (fr (MI_s J22) 54 rfl) (fk (MI_s J22) 55 rfl) (by decide) ?_
                refine ex_iconst ok_X12_stop (mi 99 rfl) ?_
                refine ex_aload_n ok_X12_stop (mi 100 rfl) rfl ?_
                refine ex_getI ok_X12_stop (mi 101 rfl) rfl rfl (fk (MI_s J22) 0 rfl) ?_
                refine ex_top (w := nI t17) ll24' ?_
                refine ex_imul ok_X12_stop (mi 102 rfl) ?_
                refine ex_top (w := (nI (2 * t17))) (nI_mulc rfl) ?_
                refine ex_iconst ok_X12_stop (mi 103 rfl) ?_
                refine ex_iadd ok_X12_stop (mi 104 rfl) ?_
                refine ex_top (w := (nI (2 * t17 + 1))) (nI_add _ 1) ?_
                refine ex_aload_n ok_X12_stop (mi 105 rfl) rfl ?_
                refine ex_getRx ok_X12_stop (mi 106 rfl) rfl rfl (fk (MI_s J22) 0 rfl) (fr (MI_s J22) 40 rfl) (fk (MI_s J22) 41 rfl) (by decide) ?_
                refine ex_iload_n ok_X12_stop (mi 107 rfl) rfl ?_
                refine sm_iald ok_X12_stop (mi 108 rfl) (fk (MI_s J22) 41 rfl) (fn (MI_s J22) 41 rfl) rfl (by omega) (by decide) ?_
                obtain ⟨v26, hv26, ev26⟩ := vp_in_of (n := 512) (MI_bd J22 11 rfl (i := a0) (by omega)) (by decide)
                refine ex_top (w := nI v26) ev26 ?_
                refine mf_pk J22 ok_X12_stop (mi 109 rfl) (fk (MI_s J22) 55 rfl) (fn (MI_s J22) 55 rfl) rfl (by omega) (by decide) mk25 (Or.inr ⟨rfl, Or.inr (vp_in_nI (N := 512) (by omega) (by decide))⟩) (fun g27 J28 ll30 mk31 => ?_)
                have ll30' := ll30.trans ll24'
                refine ex_vret ok_X12_stop (mi 110 rfl) rfl ?_
                exact ⟨_, rfl, rfl, J28⟩
              | succ n96 ih96 =>
                intro k96 he96  g18 J19  mm96 hmm96 hll96 hkk96
                have hr96 : k96 < 300 := by omega
                refine ex_iload ok_X12_stop (mi 59 rfl) rfl ?_
                refine ex_sipush ok_X12_stop (mi 60 rfl) ?_
                refine ex_icmp_ge (tgt := 149) ok_X12_stop (mi 61 rfl) rfl (fun hn => absurd hn (nI_ge (b := 300) hr96 (by decide))) (fun _ => ?_)
                refine ex_aload_n ok_X12_stop (mi 62 rfl) rfl ?_
                refine ex_getRx ok_X12_stop (mi 63 rfl) rfl rfl (fk (MI_s J19) 0 rfl) (fr (MI_s J19) 37 rfl) (fk (MI_s J19) 38 rfl) (by decide) ?_
                refine ex_sipush ok_X12_stop (mi 64 rfl) ?_
                refine ex_iload_n ok_X12_stop (mi 65 rfl) rfl ?_
                refine ex_imul ok_X12_stop (mi 66 rfl) ?_
                refine ex_top (w := (nI (300 * a0))) (nI_mulc rfl) ?_
                refine ex_iload ok_X12_stop (mi 67 rfl) rfl ?_
                refine ex_iadd ok_X12_stop (mi 68 rfl) ?_
                refine ex_top (w := (nI (300 * a0 + k96))) (nI_add _ _) ?_
                refine sm_iald ok_X12_stop (mi 69 rfl) (fk (MI_s J19) 38 rfl) (fn (MI_s J19) 38 rfl) rfl (by omega) (by decide) ?_
                refine ex_gen (fun w32 => ?_)
                refine ex_if_eq (tgt := 143) ok_X12_stop (mi 70 rfl) rfl (fun h117 => ?_) (fun h117 => ?_)
                · skip
                  refine ex_iincx (w := (nI (k96 + 1))) ok_X12_stop (mi 84 rfl) rfl (nI_1 _) ?_
                  refine ex_goto (tgt := 96) ok_X12_stop (mi 85 rfl) rfl ?_
                  exact ex_ls (ls' := [(0, .ref y), (1, .int (nI (a0))), (2, .int (nI (a1))), (3, .int p2), (4, .int p3), (5, .int (nI (k96 + 1)))]) ⟨rfl, rfl, rfl, rfl, rfl, rfl, trivial⟩ (ih96 (k96 + 1) (by omega) g18 J19  (mm96) (by omega) hll96 hkk96)
                · skip
                  refine ex_aload_n ok_X12_stop (mi 71 rfl) rfl ?_
                  refine ex_aload_n ok_X12_stop (mi 72 rfl) rfl ?_
                  refine ex_getI ok_X12_stop (mi 73 rfl) rfl rfl (fk (MI_s J19) 0 rfl) ?_
                  refine ex_top (w := nI t17) hll96 ?_
                  refine ex_iload ok_X12_stop (mi 74 rfl) rfl ?_
                  refine ex_aload_n ok_X12_stop (mi 75 rfl) rfl ?_
                  refine ex_getRx ok_X12_stop (mi 76 rfl) rfl rfl (fk (MI_s J19) 0 rfl) (fr (MI_s J19) 37 rfl) (fk (MI_s J19) 38 rfl) (by decide) ?_
                  refine ex_sipush ok_X12_stop (mi 77 rfl) ?_
                  refine ex_iload_n ok_X12_stop (mi 78 rfl) rfl ?_
                  refine ex_imul ok_X12_stop (mi 79 rfl) ?_
                  refine ex_top (w := (nI (300 * a0))) (nI_mulc rfl) ?_
                  refine ex_iload ok_X12_stop (mi 80 rfl) rfl ?_
                  refine ex_iadd ok_X12_stop (mi 81 rfl) ?_
                  refine ex_top (w := (nI (300 * a0 + k96))) (nI_add _ _) ?_
                  refine sm_iald ok_X12_stop (mi 82 rfl) (fk (MI_s J19) 38 rfl) (fn (MI_s J19) 38 rfl) rfl (by omega) (by decide) ?_
                  refine ex_gen (fun w33 => ?_)
                  refine sm_V (As := [_, _, _]) ok_X12_stop (mi 83 rfl) rfl (s_X12_addEntry hst J19 ht17 hkk96 (by decide) (by omega) (by omega)) rfl (fk (MI_s J19) 0 rfl) rfl rfl (by decide) (by decide) (Nat.le_of_ble_eq_true rfl) (by decide) AE_no (fun z34 g36 p35 => ?_)
                  obtain ⟨ez34, J37, ll38, mk39⟩ := p35
                  cases ez34
                  have ll38' := ll38.trans hll96
                  refine ex_iincx (w := (nI (k96 + 1))) ok_X12_stop (mi 84 rfl) rfl (nI_1 _) ?_
                  refine ex_goto (tgt := 96) ok_X12_stop (mi 85 rfl) rfl ?_
                  exact ex_ls (ls' := [(0, .ref y), (1, .int (nI (a0))), (2, .int (nI (a1))), (3, .int p2), (4, .int p3), (5, .int (nI (k96 + 1)))]) ⟨rfl, rfl, rfl, rfl, rfl, rfl, trivial⟩ (ih96 (k96 + 1) (by omega) g36 J37  (mm96 + 1) (by omega) ll38' mk39)
            exact ex_ls (ls' := [(0, .ref y), (1, .int (nI (a0))), (2, .int (nI (a1))), (3, .int p2), (4, .int p3), (5, .int (nI 0))]) ⟨rfl, rfl, rfl, rfl, rfl, rfl, trivial⟩ (lp96 (300 - 0) (0) (by omega) g14 J15  (0) (by omega) lt17 kt17)
        · skip
          refine ex_vret ok_X12_stop (mi 34 rfl) rfl ?_
          exact ⟨_, rfl, rfl, I⟩
    · skip
      refine ex_aload_n ok_X12_stop (mi 16 rfl) rfl ?_
      refine ex_getRx ok_X12_stop (mi 17 rfl) rfl rfl (fk (MI_s I) 0 rfl) (fr (MI_s I) 33 rfl) (fk (MI_s I) 34 rfl) (by decide) ?_
      refine ex_iload_n ok_X12_stop (mi 18 rfl) rfl ?_
      refine sm_iald ok_X12_stop (mi 19 rfl) (fk (MI_s I) 34 rfl) (fn (MI_s I) 34 rfl) rfl (by omega) (by decide) ?_
      refine ex_gen (fun w40 => ?_)
      refine ex_iconst ok_X12_stop (mi 20 rfl) ?_
      refine ex_icmp_ne (tgt := 57) ok_X12_stop (mi 21 rfl) rfl (fun h33 => ?_) (fun h33 => ?_)
      · skip
        refine ex_vret ok_X12_stop (mi 34 rfl) rfl ?_
        exact ⟨_, rfl, rfl, I⟩
      · skip
        refine ex_aload_n ok_X12_stop (mi 22 rfl) rfl ?_
        refine ex_getRx ok_X12_stop (mi 23 rfl) rfl rfl (fk (MI_s I) 0 rfl) (fr (MI_s I) 34 rfl) (fk (MI_s I) 35 rfl) (by decide) ?_
        refine ex_iload_n ok_X12_stop (mi 24 rfl) rfl ?_
        refine sm_iald ok_X12_stop (mi 25 rfl) (fk (MI_s I) 35 rfl) (fn (MI_s I) 35 rfl) rfl (by omega) (by decide) ?_
        refine ex_gen (fun w41 => ?_)
        refine ex_iload_n ok_X12_stop (mi 26 rfl) rfl ?_
        refine ex_icmp_ne (tgt := 57) ok_X12_stop (mi 27 rfl) rfl (fun h43 => ?_) (fun h43 => ?_)
        · skip
          refine ex_vret ok_X12_stop (mi 34 rfl) rfl ?_
          exact ⟨_, rfl, rfl, I⟩
        · skip
          refine ex_iload ok_X12_stop (mi 28 rfl) rfl ?_
          refine ex_aload_n ok_X12_stop (mi 29 rfl) rfl ?_
          refine ex_getRx ok_X12_stop (mi 30 rfl) rfl rfl (fk (MI_s I) 0 rfl) (fr (MI_s I) 38 rfl) (fk (MI_s I) 39 rfl) (by decide) ?_
          refine ex_iload_n ok_X12_stop (mi 31 rfl) rfl ?_
          refine sm_iald ok_X12_stop (mi 32 rfl) (fk (MI_s I) 39 rfl) (fn (MI_s I) 39 rfl) rfl (by omega) (by decide) ?_
          refine ex_gen (fun w42 => ?_)
          refine ex_icmp_ge (tgt := 58) ok_X12_stop (mi 33 rfl) rfl (fun h54 => ?_) (fun h54 => ?_)
          · skip
            refine ex_aload_n ok_X12_stop (mi 35 rfl) rfl ?_
            refine ex_getRx ok_X12_stop (mi 36 rfl) rfl rfl (fk (MI_s I) 0 rfl) (fr (MI_s I) 38 rfl) (fk (MI_s I) 39 rfl) (by decide) ?_
            refine ex_iload_n ok_X12_stop (mi 37 rfl) rfl ?_
            refine ex_iload ok_X12_stop (mi 38 rfl) rfl ?_
            refine mf_A I ok_X12_stop (mi 39 rfl) (fk (MI_s I) 39 rfl) (fn (MI_s I) 39 rfl) rfl (by omega) (by decide) (by decide) (by decide) (by decide) (fun g43 J44 K45 => ?_)
            refine ex_aload_n ok_X12_stop (mi 40 rfl) rfl ?_
            refine ex_getRx ok_X12_stop (mi 41 rfl) rfl rfl (fk (MI_s J44) 0 rfl) (fr (MI_s J44) 33 rfl) (fk (MI_s J44) 34 rfl) (by decide) ?_
            refine ex_iload_n ok_X12_stop (mi 42 rfl) rfl ?_
            refine ex_iconst ok_X12_stop (mi 43 rfl) ?_
            refine mf_A J44 ok_X12_stop (mi 44 rfl) (fk (MI_s J44) 34 rfl) (fn (MI_s J44) 34 rfl) rfl (by omega) (by decide) (by decide) (by decide) (by decide) (fun g46 J47 K48 => ?_)
            refine ex_aload_n ok_X12_stop (mi 45 rfl) rfl ?_
            refine ex_bipush ok_X12_stop (mi 46 rfl) ?_
            refine ex_iload_n ok_X12_stop (mi 47 rfl) rfl ?_
            refine ex_iload_n ok_X12_stop (mi 48 rfl) rfl ?_
            refine ex_iload_n ok_X12_stop (mi 49 rfl) rfl ?_
            refine ex_iload ok_X12_stop (mi 50 rfl) rfl ?_
            refine ex_aload_n ok_X12_stop (mi 51 rfl) rfl ?_
            refine ex_getRx ok_X12_stop (mi 52 rfl) rfl rfl (fk (MI_s J47) 0 rfl) (fr (MI_s J47) 36 rfl) (fk (MI_s J47) 37 rfl) (by decide) ?_
            refine ex_iload_n ok_X12_stop (mi 53 rfl) rfl ?_
            refine sm_iald ok_X12_stop (mi 54 rfl) (fk (MI_s J47) 37 rfl) (fn (MI_s J47) 37 rfl) rfl (by omega) (by decide) ?_
            obtain ⟨v49, hv49, ev49⟩ := vp_in_of (n := 300) (MI_bd J47 10 rfl (i := a0) (by omega)) (by decide)
            refine ex_top (w := nI v49) ev49 ?_
            refine sm_V (As := [_, _, _, _, _, _]) ok_X12_stop (mi 55 rfl) rfl (s_X12_lay hst J47 (κ := 17) (by decide) (Or.inl rfl) (Or.inr (vp_in_nI (N := 3) (by omega) (by decide))) (Or.inl rfl) (Or.inl rfl) (Or.inr (vp_in_nI (N := 300) (by omega) (by decide)))) rfl (fk (MI_s J47) 0 rfl) rfl rfl (by decide) (by decide) (Nat.le_of_ble_eq_true rfl) (by decide) LV_no (fun z50 g52 p51 => ?_)
            obtain ⟨b54, eb54, hb54, J53, lb54⟩ := p51
            cases eb54
            refine ex_if_eq (tgt := 185) ok_X12_stop (mi 56 rfl) rfl (fun h90 => ?_) (fun h90 => ?_)
            · skip
              refine ex_vret ok_X12_stop (mi 110 rfl) rfl ?_
              exact ⟨_, rfl, rfl, J53⟩
            · skip
              obtain ⟨t55, ht55, lt55, kt55⟩ := lb54 h90
              refine ex_iconst ok_X12_stop (mi 57 rfl) ?_
              refine ex_istore ok_X12_stop (mi 58 rfl) ?_
              have lp96 : ∀ n96 k96 : Nat, k96 + n96 = 300 → ∀ (g56 : GT), MI y D c R g56 → ∀ mm96 : Nat, mm96 ≤ k96 → gx_I g56 1258 y = nI t55 → MK y g56 t55 17 mm96 → ex_W G 3 0 0 M_X12_stop 96 [(0, .ref y), (1, .int (nI (a0))), (2, .int (nI (a1))), (3, .int p2), (4, .int p3), (5, .int (nI (k96)))] [] g56 (SM y D c R pN) := by
                intro n96
                induction n96 with
                | zero =>
                  intro k96 he96  g56 J57  mm96 hmm96 hll96 hkk96
                  obtain rfl : k96 = 300 := by omega
                  refine ex_iload ok_X12_stop (mi 59 rfl) rfl ?_
                  refine ex_sipush ok_X12_stop (mi 60 rfl) ?_
                  refine ex_icmp_ge (tgt := 149) ok_X12_stop (mi 61 rfl) rfl (fun _ => ?_) (fun hn => absurd (by decide) hn)
                  refine ex_aload_n ok_X12_stop (mi 86 rfl) rfl ?_
                  refine ex_getRx ok_X12_stop (mi 87 rfl) rfl rfl (fk (MI_s J57) 0 rfl) (fr (MI_s J57) 54 rfl) (fk (MI_s J57) 55 rfl) (by decide) ?_
                  refine ex_iconst ok_X12_stop (mi 88 rfl) ?_
                  refine ex_aload_n ok_X12_stop (mi 89 rfl) rfl ?_
                  refine ex_getI ok_X12_stop (mi 90 rfl) rfl rfl (fk (MI_s J57) 0 rfl) ?_
                  refine ex_top (w := nI t55) hll96 ?_
                  refine ex_imul ok_X12_stop (mi 91 rfl) ?_
                  refine ex_top (w := (nI (2 * t55))) (nI_mulc rfl) ?_
                  refine ex_aload_n ok_X12_stop (mi 92 rfl) rfl ?_
                  refine ex_getRx ok_X12_stop (mi 93 rfl) rfl rfl (fk (MI_s J57) 0 rfl) (fr (MI_s J57) 39 rfl) (fk (MI_s J57) 40 rfl) (by decide) ?_
                  refine ex_iload_n ok_X12_stop (mi 94 rfl) rfl ?_
                  refine sm_iald ok_X12_stop (mi 95 rfl) (fk (MI_s J57) 40 rfl) (fn (MI_s J57) 40 rfl) rfl (by omega) (by decide) ?_
                  refine ex_gen (fun w58 => ?_)
                  refine mf_pk J57 ok_X12_stop (mi 96 rfl) (fk (MI_s J57) 55 rfl) (fn (MI_s J57) 55 rfl) rfl (by omega) (by decide) hkk96 (Or.inl rfl) (fun g59 J60 ll62 mk63 => ?_)
                  have ll62' := ll62.trans hll96
                  refine ex_aload_n ok_X12_stop (mi 97 rfl) rfl ?_
                  refine ex_getRx ok_X12_stop (mi 98 rfl) rfl rfl (fk (MI_s J60) 0 rfl) (fr (MI_s J60) 54 rfl) (fk (MI_s J60) 55 rfl) (by decide) ?_
                  refine ex_iconst ok_X12_stop (mi 99 rfl) ?_
                  refine ex_aload_n ok_X12_stop (mi 100 rfl) rfl ?_
                  refine ex_getI ok_X12_stop (mi 101 rfl) rfl rfl (fk (MI_s J60) 0 rfl) ?_
                  refine ex_top (w := nI t55) ll62' ?_
                  refine ex_imul ok_X12_stop (mi 102 rfl) ?_
                  refine ex_top (w := (nI (2 * t55))) (nI_mulc rfl) ?_
                  refine ex_iconst ok_X12_stop (mi 103 rfl) ?_
                  refine ex_iadd ok_X12_stop (mi 104 rfl) ?_
                  refine ex_top (w := (nI (2 * t55 + 1))) (nI_add _ 1) ?_
                  refine ex_aload_n ok_X12_stop (mi 105 rfl) rfl ?_
                  refine ex_getRx ok_X12_stop (mi 106 rfl) rfl rfl (fk (MI_s J60) 0 rfl) (fr (MI_s J60) 40 rfl) (fk (MI_s J60) 41 rfl) (by decide) ?_
                  refine ex_iload_n ok_X12_stop (mi 107 rfl) rfl ?_
                  refine sm_iald ok_X12_stop (mi 108 rfl) (fk (MI_s J60) 41 rfl) (fn (MI_s J60) 41 rfl) rfl (by omega) (by decide) ?_
                  obtain ⟨v64, hv64, ev64⟩ := vp_in_of (n := 512) (MI_bd J60 11 rfl (i := a0) (by omega)) (by decide)
                  refine ex_top (w := nI v64) ev64 ?_
                  refine mf_pk J60 ok_X12_stop (mi 109 rfl) (fk (MI_s J60) 55 rfl) (fn (MI_s J60) 55 rfl) rfl (by omega) (by decide) mk63 (Or.inr ⟨rfl, Or.inr (vp_in_nI (N := 512) (by omega) (by decide))⟩) (fun g65 J66 ll68 mk69 => ?_)
                  have ll68' := ll68.trans ll62'
                  refine ex_vret ok_X12_stop (mi 110 rfl) rfl ?_
                  exact ⟨_, rfl, rfl, J66⟩
                | succ n96 ih96 =>
                  intro k96 he96  g56 J57  mm96 hmm96 hll96 hkk96
                  have hr96 : k96 < 300 := by omega
                  refine ex_iload ok_X12_stop (mi 59 rfl) rfl ?_
                  refine ex_sipush ok_X12_stop (mi 60 rfl) ?_
                  refine ex_icmp_ge (tgt := 149) ok_X12_stop (mi 61 rfl) rfl (fun hn => absurd hn (nI_ge (b := 300) hr96 (by decide))) (fun _ => ?_)
                  refine ex_aload_n ok_X12_stop (mi 62 rfl) rfl ?_
                  refine ex_getRx ok_X12_stop (mi 63 rfl) rfl rfl (fk (MI_s J57) 0 rfl) (fr (MI_s J57) 37 rfl) (fk (MI_s J57) 38 rfl) (by decide) ?_
                  refine ex_sipush ok_X12_stop (mi 64 rfl) ?_
                  refine ex_iload_n ok_X12_stop (mi 65 rfl) rfl ?_
                  refine ex_imul ok_X12_stop (mi 66 rfl) ?_
                  refine ex_top (w := (nI (300 * a0))) (nI_mulc rfl) ?_
                  refine ex_iload ok_X12_stop (mi 67 rfl) rfl ?_
                  refine ex_iadd ok_X12_stop (mi 68 rfl) ?_
                  refine ex_top (w := (nI (300 * a0 + k96))) (nI_add _ _) ?_
                  refine sm_iald ok_X12_stop (mi 69 rfl) (fk (MI_s J57) 38 rfl) (fn (MI_s J57) 38 rfl) rfl (by omega) (by decide) ?_
                  refine ex_gen (fun w70 => ?_)
                  refine ex_if_eq (tgt := 143) ok_X12_stop (mi 70 rfl) rfl (fun h117 => ?_) (fun h117 => ?_)
                  · skip
                    refine ex_iincx (w := (nI (k96 + 1))) ok_X12_stop (mi 84 rfl) rfl (nI_1 _) ?_
                    refine ex_goto (tgt := 96) ok_X12_stop (mi 85 rfl) rfl ?_
                    exact ex_ls (ls' := [(0, .ref y), (1, .int (nI (a0))), (2, .int (nI (a1))), (3, .int p2), (4, .int p3), (5, .int (nI (k96 + 1)))]) ⟨rfl, rfl, rfl, rfl, rfl, rfl, trivial⟩ (ih96 (k96 + 1) (by omega) g56 J57  (mm96) (by omega) hll96 hkk96)
                  · skip
                    refine ex_aload_n ok_X12_stop (mi 71 rfl) rfl ?_
                    refine ex_aload_n ok_X12_stop (mi 72 rfl) rfl ?_
                    refine ex_getI ok_X12_stop (mi 73 rfl) rfl rfl (fk (MI_s J57) 0 rfl) ?_
                    refine ex_top (w := nI t55) hll96 ?_
                    refine ex_iload ok_X12_stop (mi 74 rfl) rfl ?_
                    refine ex_aload_n ok_X12_stop (mi 75 rfl) rfl ?_
                    refine ex_getRx ok_X12_stop (mi 76 rfl) rfl rfl (fk (MI_s J57) 0 rfl) (fr (MI_s J57) 37 rfl) (fk (MI_s J57) 38 rfl) (by decide) ?_
                    refine ex_sipush ok_X12_stop (mi 77 rfl) ?_
                    refine ex_iload_n ok_X12_stop (mi 78 rfl) rfl ?_
                    refine ex_imul ok_X12_stop (mi 79 rfl) ?_
                    refine ex_top (w := (nI (300 * a0))) (nI_mulc rfl) ?_
                    refine ex_iload ok_X12_stop (mi 80 rfl) rfl ?_
                    refine ex_iadd ok_X12_stop (mi 81 rfl) ?_
                    refine ex_top (w := (nI (300 * a0 + k96))) (nI_add _ _) ?_
                    refine sm_iald ok_X12_stop (mi 82 rfl) (fk (MI_s J57) 38 rfl) (fn (MI_s J57) 38 rfl) rfl (by omega) (by decide) ?_
                    refine ex_gen (fun w71 => ?_)
                    refine sm_V (As := [_, _, _]) ok_X12_stop (mi 83 rfl) rfl (s_X12_addEntry hst J57 ht55 hkk96 (by decide) (by omega) (by omega)) rfl (fk (MI_s J57) 0 rfl) rfl rfl (by decide) (by decide) (Nat.le_of_ble_eq_true rfl) (by decide) AE_no (fun z72 g74 p73 => ?_)
                    obtain ⟨ez72, J75, ll76, mk77⟩ := p73
                    cases ez72
                    have ll76' := ll76.trans hll96
                    refine ex_iincx (w := (nI (k96 + 1))) ok_X12_stop (mi 84 rfl) rfl (nI_1 _) ?_
                    refine ex_goto (tgt := 96) ok_X12_stop (mi 85 rfl) rfl ?_
                    exact ex_ls (ls' := [(0, .ref y), (1, .int (nI (a0))), (2, .int (nI (a1))), (3, .int p2), (4, .int p3), (5, .int (nI (k96 + 1)))]) ⟨rfl, rfl, rfl, rfl, rfl, rfl, trivial⟩ (ih96 (k96 + 1) (by omega) g74 J75  (mm96 + 1) (by omega) ll76' mk77)
              exact ex_ls (ls' := [(0, .ref y), (1, .int (nI (a0))), (2, .int (nI (a1))), (3, .int p2), (4, .int p3), (5, .int (nI 0))]) ⟨rfl, rfl, rfl, rfl, rfl, rfl, trivial⟩ (lp96 (300 - 0) (0) (by omega) g52 J53  (0) (by omega) lt55 kt55)
          · skip
            refine ex_vret ok_X12_stop (mi 34 rfl) rfl ?_
            exact ⟨_, rfl, rfl, I⟩
  · skip
    have n6 : v1 ≠ 0 := fun e => h6 (by rw [e]; rfl)
    refine ex_aload_n ok_X12_stop (mi 5 rfl) rfl ?_
    refine ex_iload_n ok_X12_stop (mi 6 rfl) rfl ?_
    refine ex_iload_n ok_X12_stop (mi 7 rfl) rfl ?_
    refine sm_V (As := [_, _]) ok_X12_stop (mi 8 rfl) rfl (s_X12_sayGone hst I (by omega) (by omega)) rfl (fk (MI_s I) 0 rfl) rfl rfl (by decide) (by decide) (Nat.le_of_ble_eq_true rfl) (by decide) SM_no (fun z78 g80 p79 => ?_)
    obtain ⟨u82, eu82, u82p, J81⟩ := p79
    cases eu82
    obtain rfl : z78 = none := u82p
    refine ex_vret ok_X12_stop (mi 9 rfl) rfl ?_
    exact ⟨_, rfl, rfl, J81⟩
theorem s_X12_ask {G : GE} (hst : (ge_l G).stackTraces = false) {y c : Nat} {D : UT} {R : Nat → Prop} {g : GT} (I : MI y D c R g) {a0 : Nat} (ha0 : a0 < 12) {a1 : Nat} (ha1 : a1 < 3) {p2 : Int32} : ex_M G 2 0 0 my_X12_ask [.ref y, .int (nI (a0)), .int (nI (a1)), .int p2] g (SM y D c R pN) := by
  refine ex_M_of ok_X12_ask cw_X12_ask rfl hst (Nat.le_of_ble_eq_true rfl) ?_
  refine ex_aload_n ok_X12_ask (mi 0 rfl) rfl ?_
  refine ex_iconst ok_X12_ask (mi 1 rfl) ?_
  refine ex_iload_n ok_X12_ask (mi 2 rfl) rfl ?_
  refine ex_iload_n ok_X12_ask (mi 3 rfl) rfl ?_
  refine ex_iload_n ok_X12_ask (mi 4 rfl) rfl ?_
  refine ex_aload_n ok_X12_ask (mi 5 rfl) rfl ?_
  refine ex_getRx ok_X12_ask (mi 6 rfl) rfl rfl (fk (MI_s I) 0 rfl) (fr (MI_s I) 43 rfl) (fk (MI_s I) 44 rfl) (by decide) ?_
  refine ex_iload_n ok_X12_ask (mi 7 rfl) rfl ?_
  refine sm_iald ok_X12_ask (mi 8 rfl) (fk (MI_s I) 44 rfl) (fn (MI_s I) 44 rfl) rfl (by omega) (by decide) ?_
  obtain ⟨v1, hv1, ev1⟩ := vp_in_of (n := 17) (MI_bd I 13 rfl (i := a0) (by omega)) (by decide)
  refine ex_top (w := nI v1) ev1 ?_
  refine ex_iconst ok_X12_ask (mi 9 rfl) ?_
  refine sm_V (As := [_, _, _, _, _, _]) ok_X12_ask (mi 10 rfl) rfl (s_X12_lay hst I (κ := 4) (by decide) (Or.inl rfl) (Or.inr (vp_in_nI (N := 3) (by omega) (by decide))) (Or.inl rfl) (Or.inr (vp_in_nI (N := 17) (by omega) (by decide))) (Or.inl rfl)) rfl (fk (MI_s I) 0 rfl) rfl rfl (by decide) (by decide) (Nat.le_of_ble_eq_true rfl) (by decide) LV_no (fun z2 g4 p3 => ?_)
  obtain ⟨b6, eb6, hb6, J5, lb6⟩ := p3
  cases eb6
  refine ex_if_ne (tgt := 19) ok_X12_ask (mi 11 rfl) rfl (fun h15 => ?_) (fun h15 => ?_)
  · skip
    obtain ⟨t7, ht7, lt7, kt7⟩ := lb6 h15
    refine ex_iconst ok_X12_ask (mi 13 rfl) ?_
    refine ex_istore ok_X12_ask (mi 14 rfl) ?_
    have lp22 : ∀ n22 k22 : Nat, k22 + n22 = 16 → ∀ (g8 : GT), MI y D c R g8 → ∀ mm22 : Nat, mm22 ≤ k22 → gx_I g8 1258 y = nI t7 → MK y g8 t7 4 mm22 → ex_W G 2 0 0 M_X12_ask 22 [(0, .ref y), (1, .int (nI (a0))), (2, .int (nI (a1))), (3, .int p2), (4, .int (nI (k22)))] [] g8 (SM y D c R pN) := by
      intro n22
      induction n22 with
      | zero =>
        intro k22 he22  g8 J9  mm22 hmm22 hll22 hkk22
        obtain rfl : k22 = 16 := by omega
        refine ex_iload ok_X12_ask (mi 15 rfl) rfl ?_
        refine ex_bipush ok_X12_ask (mi 16 rfl) ?_
        refine ex_icmp_ge (tgt := 137) ok_X12_ask (mi 17 rfl) rfl (fun _ => ?_) (fun hn => absurd (by decide) hn)
        refine ex_vret ok_X12_ask (mi 85 rfl) rfl ?_
        exact ⟨_, rfl, rfl, J9⟩
      | succ n22 ih22 =>
        intro k22 he22  g8 J9  mm22 hmm22 hll22 hkk22
        have hr22 : k22 < 16 := by omega
        refine ex_iload ok_X12_ask (mi 15 rfl) rfl ?_
        refine ex_bipush ok_X12_ask (mi 16 rfl) ?_
        refine ex_icmp_ge (tgt := 137) ok_X12_ask (mi 17 rfl) rfl (fun hn => absurd hn (nI_ge (b := 16) hr22 (by decide))) (fun _ => ?_)
        refine ex_aload_n ok_X12_ask (mi 18 rfl) rfl ?_
        refine ex_getRx ok_X12_ask (mi 19 rfl) rfl rfl (fk (MI_s J9) 0 rfl) (fr (MI_s J9) 44 rfl) (fk (MI_s J9) 45 rfl) (by decide) ?_
        refine ex_bipush ok_X12_ask (mi 20 rfl) ?_
        refine ex_iload_n ok_X12_ask (mi 21 rfl) rfl ?_
        refine ex_imul ok_X12_ask (mi 22 rfl) ?_
        refine ex_top (w := (nI (16 * a0))) (nI_mulc rfl) ?_
        refine ex_iload ok_X12_ask (mi 23 rfl) rfl ?_
        refine ex_iadd ok_X12_ask (mi 24 rfl) ?_
        refine ex_top (w := (nI (16 * a0 + k22))) (nI_add _ _) ?_
        refine sm_iald ok_X12_ask (mi 25 rfl) (fk (MI_s J9) 45 rfl) (fn (MI_s J9) 45 rfl) rfl (by omega) (by decide) ?_
        refine ex_gen (fun w10 => ?_)
        refine ex_iconst ok_X12_ask (mi 26 rfl) ?_
        refine ex_icmp_eq (tgt := 131) ok_X12_ask (mi 27 rfl) rfl (fun h42 => ?_) (fun h42 => ?_)
        · skip
          refine ex_iincx (w := (nI (k22 + 1))) ok_X12_ask (mi 83 rfl) rfl (nI_1 _) ?_
          refine ex_goto (tgt := 22) ok_X12_ask (mi 84 rfl) rfl ?_
          exact ex_ls (ls' := [(0, .ref y), (1, .int (nI (a0))), (2, .int (nI (a1))), (3, .int p2), (4, .int (nI (k22 + 1)))]) ⟨rfl, rfl, rfl, rfl, rfl, trivial⟩ (ih22 (k22 + 1) (by omega) g8 J9  (mm22) (by omega) hll22 hkk22)
        · skip
          refine ex_sipush ok_X12_ask (mi 28 rfl) ?_
          refine ex_aload_n ok_X12_ask (mi 29 rfl) rfl ?_
          refine ex_getI ok_X12_ask (mi 30 rfl) rfl rfl (fk (MI_s J9) 0 rfl) ?_
          refine ex_top (w := nI t7) hll22 ?_
          refine ex_imul ok_X12_ask (mi 31 rfl) ?_
          refine ex_top (w := (nI (600 * t7))) (nI_mulc rfl) ?_
          refine ex_iconst ok_X12_ask (mi 32 rfl) ?_
          refine ex_aload_n ok_X12_ask (mi 33 rfl) rfl ?_
          refine ex_getRx ok_X12_ask (mi 34 rfl) rfl rfl (fk (MI_s J9) 0 rfl) (fr (MI_s J9) 53 rfl) (fk (MI_s J9) 54 rfl) (by decide) ?_
          refine ex_aload_n ok_X12_ask (mi 35 rfl) rfl ?_
          refine ex_getI ok_X12_ask (mi 36 rfl) rfl rfl (fk (MI_s J9) 0 rfl) ?_
          refine ex_top (w := nI t7) hll22 ?_
          refine sm_iald ok_X12_ask (mi 37 rfl) (fk (MI_s J9) 54 rfl) (fn (MI_s J9) 54 rfl) rfl (by omega) (by decide) ?_
          refine ex_top (w := nI (mm22)) hkk22.2.2.2.2.2.2.2.2.1 ?_
          refine ex_imul ok_X12_ask (mi 38 rfl) ?_
          refine ex_top (w := (nI (3 * mm22))) (nI_mulc rfl) ?_
          refine ex_iadd ok_X12_ask (mi 39 rfl) ?_
          refine ex_top (w := (nI (600 * t7 + 3 * mm22))) (nI_add _ _) ?_
          refine ex_istore ok_X12_ask (mi 40 rfl) ?_
          refine ex_aload_n ok_X12_ask (mi 41 rfl) rfl ?_
          refine ex_getRx ok_X12_ask (mi 42 rfl) rfl rfl (fk (MI_s J9) 0 rfl) (fr (MI_s J9) 55 rfl) (fk (MI_s J9) 56 rfl) (by decide) ?_
          refine ex_iload ok_X12_ask (mi 43 rfl) rfl ?_
          refine ex_iload ok_X12_ask (mi 44 rfl) rfl ?_
          refine mf_py J9 ok_X12_ask (mi 45 rfl) (fk (MI_s J9) 56 rfl) (fn (MI_s J9) 56 rfl) rfl (by omega) hkk22 (by omega) (by omega) (fun g11 J12 ll14 mk15 fa16 fb17 => ?_)
          have ll14' := ll14.trans hll22
          refine ex_aload_n ok_X12_ask (mi 46 rfl) rfl ?_
          refine ex_getRx ok_X12_ask (mi 47 rfl) rfl rfl (fk (MI_s J12) 0 rfl) (fr (MI_s J12) 55 rfl) (fk (MI_s J12) 56 rfl) (by decide) ?_
          refine ex_iload ok_X12_ask (mi 48 rfl) rfl ?_
          refine ex_iconst ok_X12_ask (mi 49 rfl) ?_
          refine ex_iadd ok_X12_ask (mi 50 rfl) ?_
          refine ex_top (w := (nI (600 * t7 + 3 * mm22 + 1))) (nI_add _ 1) ?_
          refine ex_aload_n ok_X12_ask (mi 51 rfl) rfl ?_
          refine ex_getRx ok_X12_ask (mi 52 rfl) rfl rfl (fk (MI_s J12) 0 rfl) (fr (MI_s J12) 44 rfl) (fk (MI_s J12) 45 rfl) (by decide) ?_
          refine ex_bipush ok_X12_ask (mi 53 rfl) ?_
          refine ex_iload_n ok_X12_ask (mi 54 rfl) rfl ?_
          refine ex_imul ok_X12_ask (mi 55 rfl) ?_
          refine ex_top (w := (nI (16 * a0))) (nI_mulc rfl) ?_
          refine ex_iload ok_X12_ask (mi 56 rfl) rfl ?_
          refine ex_iadd ok_X12_ask (mi 57 rfl) ?_
          refine ex_top (w := (nI (16 * a0 + k22))) (nI_add _ _) ?_
          refine sm_iald ok_X12_ask (mi 58 rfl) (fk (MI_s J12) 45 rfl) (fn (MI_s J12) 45 rfl) rfl (by omega) (by decide) ?_
          refine ex_gen (fun w18 => ?_)
          refine mf_py J12 ok_X12_ask (mi 59 rfl) (fk (MI_s J12) 56 rfl) (fn (MI_s J12) 56 rfl) rfl (by omega) mk15 (by omega) (by omega) (fun g19 J20 ll22 mk23 fa24 fb25 => ?_)
          have py26 := (fa24 _ (by omega)).trans fb17
          have ll22' := ll22.trans ll14'
          refine ex_aload_n ok_X12_ask (mi 60 rfl) rfl ?_
          refine ex_getRx ok_X12_ask (mi 61 rfl) rfl rfl (fk (MI_s J20) 0 rfl) (fr (MI_s J20) 55 rfl) (fk (MI_s J20) 56 rfl) (by decide) ?_
          refine ex_iload ok_X12_ask (mi 62 rfl) rfl ?_
          refine ex_iconst ok_X12_ask (mi 63 rfl) ?_
          refine ex_iadd ok_X12_ask (mi 64 rfl) ?_
          refine ex_top (w := (nI (600 * t7 + 3 * mm22 + 2))) (nI_add _ 2) ?_
          refine ex_aload_n ok_X12_ask (mi 65 rfl) rfl ?_
          refine ex_getRx ok_X12_ask (mi 66 rfl) rfl rfl (fk (MI_s J20) 0 rfl) (fr (MI_s J20) 45 rfl) (fk (MI_s J20) 46 rfl) (by decide) ?_
          refine ex_bipush ok_X12_ask (mi 67 rfl) ?_
          refine ex_iload_n ok_X12_ask (mi 68 rfl) rfl ?_
          refine ex_imul ok_X12_ask (mi 69 rfl) ?_
          refine ex_top (w := (nI (16 * a0))) (nI_mulc rfl) ?_
          refine ex_iload ok_X12_ask (mi 70 rfl) rfl ?_
          refine ex_iadd ok_X12_ask (mi 71 rfl) ?_
          refine ex_top (w := (nI (16 * a0 + k22))) (nI_add _ _) ?_
          refine sm_iald ok_X12_ask (mi 72 rfl) (fk (MI_s J20) 46 rfl) (fn (MI_s J20) 46 rfl) rfl (by omega) (by decide) ?_
          refine ex_gen (fun w27 => ?_)
          refine mf_py J20 ok_X12_ask (mi 73 rfl) (fk (MI_s J20) 56 rfl) (fn (MI_s J20) 56 rfl) rfl (by omega) mk23 (by omega) (by omega) (fun g28 J29 ll31 mk32 fa33 fb34 => ?_)
          have py35 := (fa33 _ (by omega)).trans py26
          have ll31' := ll31.trans ll22'
          refine ex_aload_n ok_X12_ask (mi 74 rfl) rfl ?_
          refine ex_getRx ok_X12_ask (mi 75 rfl) rfl rfl (fk (MI_s J29) 0 rfl) (fr (MI_s J29) 53 rfl) (fk (MI_s J29) 54 rfl) (by decide) ?_
          refine ex_aload_n ok_X12_ask (mi 76 rfl) rfl ?_
          refine ex_getI ok_X12_ask (mi 77 rfl) rfl rfl (fk (MI_s J29) 0 rfl) ?_
          refine ex_top (w := nI t7) ll31' ?_
          refine ex_dup2 ok_X12_ask (mi 78 rfl) rfl rfl ?_
          refine sm_iald ok_X12_ask (mi 79 rfl) (fk (MI_s J29) 54 rfl) (fn (MI_s J29) 54 rfl) rfl (by omega) (by decide) ?_
          refine ex_top (w := nI (mm22)) mk32.2.2.2.2.2.2.2.2.1 ?_
          refine ex_iconst ok_X12_ask (mi 80 rfl) ?_
          refine ex_iadd ok_X12_ask (mi 81 rfl) ?_
          refine ex_top (w := (nI (mm22 + 1))) (nI_add _ 1) ?_
          refine mf_mn J29 ok_X12_ask (mi 82 rfl) (fk (MI_s J29) 54 rfl) (fn (MI_s J29) 54 rfl) rfl (by omega) mk32 (by omega) (by rw [py35]; exact (vp_in_nI (N := 16) (by omega) (by decide))) (fun g36 J37 ll39 mk40 => ?_)
          have ll39' := ll39.trans ll31'
          refine ex_iincx (w := (nI (k22 + 1))) ok_X12_ask (mi 83 rfl) rfl (nI_1 _) ?_
          refine ex_goto (tgt := 22) ok_X12_ask (mi 84 rfl) rfl ?_
          exact ex_ls (ls' := [(0, .ref y), (1, .int (nI (a0))), (2, .int (nI (a1))), (3, .int p2), (4, .int (nI (k22 + 1)))]) ⟨rfl, rfl, rfl, rfl, rfl, trivial⟩ (ih22 (k22 + 1) (by omega) g36 J37  (mm22 + 1) (by omega) ll39' mk40)
    exact ex_ls (ls' := [(0, .ref y), (1, .int (nI (a0))), (2, .int (nI (a1))), (3, .int p2), (4, .int (nI 0))]) ⟨rfl, rfl, rfl, rfl, rfl, trivial⟩ (lp22 (16 - 0) (0) (by omega) g4 J5  (0) (by omega) lt7 kt7)
  · skip
    refine ex_vret ok_X12_ask (mi 12 rfl) rfl ?_
    exact ⟨_, rfl, rfl, J5⟩
