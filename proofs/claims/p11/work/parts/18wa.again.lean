theorem s_X12_again {G : GE} (hst : (ge_l G).stackTraces = false) {y c : Nat} {D : UT} {R : Nat → Prop} {g : GT} (I : MI y D c R g) {p0 : Int32} : ex_M G 3 0 0 my_X12_again [.ref y, .int p0] g (SM y D c R pI) := by
  refine ex_M_of ok_X12_again cw_X12_again rfl hst (Nat.le_of_ble_eq_true rfl) ?_
  refine ex_iload_n ok_X12_again (mi 0 rfl) rfl ?_
  refine ex_iconst ok_X12_again (mi 1 rfl) ?_
  refine ex_iconst ok_X12_again (mi 2 rfl) ?_
  refine sf_Sp (As := [_, _, _]) ok_X12_again (mi 3 rfl) rfl (s_in hst) rfl rfl rfl (by decide) (Nat.le_of_ble_eq_true rfl) (by decide) (fun z1 p2 => ?_)
  obtain ⟨b3, rfl, hb3⟩ := p2
  refine ex_istore_n ok_X12_again (mi 4 rfl) ?_
  refine ex_aload_n ok_X12_again (mi 5 rfl) rfl ?_
  refine ex_iload_n ok_X12_again (mi 6 rfl) rfl ?_
  refine ex_iconst ok_X12_again (mi 7 rfl) ?_
  refine ex_iload_n ok_X12_again (mi 8 rfl) rfl ?_
  refine ex_if_eq (tgt := 27) ok_X12_again (mi 9 rfl) rfl (fun h11 => ?_) (fun h11 => ?_)
  · skip
    obtain rfl : b3 = nI 0 := h11.trans (by decide)
    refine ex_iconst ok_X12_again (mi 17 rfl) ?_
    refine sm_V (As := [_, _, _]) ok_X12_again (mi 18 rfl) rfl (s_ref hst (MI_s I)) rfl (fk (MI_s I) 0 rfl) rfl rfl (by decide) (by decide) (Nat.le_of_ble_eq_true rfl) (by decide) RF_no (fun z4 g8 p5 => ?_)
    obtain ⟨b6, v7, eb6, egb6, hrb6⟩ := p5
    cases eb6
    subst egb6
    have J9 := MI_I (f := 1200) (v := v7) I (by decide)
    obtain rfl : b6 = nI 1 := hrb6.elim (fun q => absurd (show (nI 0 : Int32) = 0 by decide) q.2.1) (fun q => q.1.trans (by decide))
    refine ex_if_eq (tgt := 56) ok_X12_again (mi 19 rfl) rfl (fun hn => absurd hn (by decide)) (fun _ => ?_)
    refine ex_aload_n ok_X12_again (mi 20 rfl) rfl ?_
    refine ex_aload_n ok_X12_again (mi 21 rfl) rfl ?_
    refine ex_getI ok_X12_again (mi 22 rfl) rfl rfl (fk (MI_s J9) 0 rfl) ?_
    refine ex_gen (fun w10 => ?_)
    refine ex_iconst ok_X12_again (mi 23 rfl) ?_
    refine ex_icmp_ne (tgt := 47) ok_X12_again (mi 24 rfl) rfl (fun h40 => ?_) (fun h40 => ?_)
    · skip
      refine ex_aload_n ok_X12_again (mi 27 rfl) rfl ?_
      refine ex_getI ok_X12_again (mi 28 rfl) rfl rfl (fk (MI_s J9) 0 rfl) ?_
      refine ex_gen (fun w11 => ?_)
      refine mf_putI J9 ok_X12_again (mi 29 rfl) rfl rfl (fk (MI_s J9) 0 rfl) (by decide) (by decide) (fun g12 J13 K14 => ?_)
      refine ex_iconst ok_X12_again (mi 30 rfl) ?_
      refine ex_iret ok_X12_again (mi 31 rfl) rfl ?_
      exact ⟨_, rfl, ⟨_, rfl⟩, J13⟩
    · skip
      refine ex_iconst ok_X12_again (mi 25 rfl) ?_
      refine ex_goto (tgt := 51) ok_X12_again (mi 26 rfl) rfl ?_
      refine mf_putI J9 ok_X12_again (mi 29 rfl) rfl rfl (fk (MI_s J9) 0 rfl) (by decide) (by decide) (fun g15 J16 K17 => ?_)
      refine ex_iconst ok_X12_again (mi 30 rfl) ?_
      refine ex_iret ok_X12_again (mi 31 rfl) rfl ?_
      exact ⟨_, rfl, ⟨_, rfl⟩, J16⟩
  · skip
    obtain ⟨eb3, lb3, ub3⟩ := hb3.resolve_left (fun q => h11 q.1)
    obtain rfl : b3 = nI 1 := eb3.trans (by decide)
    obtain ⟨a18, ha18, rfl⟩ := in_n (n := 2) lb3 ub3 (by decide) rfl (by decide)
    refine ex_aload_n ok_X12_again (mi 10 rfl) rfl ?_
    refine ex_getRx ok_X12_again (mi 11 rfl) rfl rfl (fk (MI_s I) 0 rfl) (fr (MI_s I) 0 rfl) (fk (MI_s I) 1 rfl) (by decide) ?_
    refine ex_iload_n ok_X12_again (mi 12 rfl) rfl ?_
    refine sm_bal ok_X12_again (mi 13 rfl) (fk (MI_s I) 1 rfl) (fn (MI_s I) 1 rfl) rfl (by omega) (by decide) ?_
    refine ex_gen (fun w19 => ?_)
    refine ex_if_ne (tgt := 27) ok_X12_again (mi 14 rfl) rfl (fun h20 => ?_) (fun h20 => ?_)
    · skip
      refine ex_iconst ok_X12_again (mi 17 rfl) ?_
      refine sm_V (As := [_, _, _]) ok_X12_again (mi 18 rfl) rfl (s_ref hst (MI_s I)) rfl (fk (MI_s I) 0 rfl) rfl rfl (by decide) (by decide) (Nat.le_of_ble_eq_true rfl) (by decide) RF_no (fun z20 g24 p21 => ?_)
      obtain ⟨b22, v23, eb22, egb22, hrb22⟩ := p21
      cases eb22
      subst egb22
      have J25 := MI_I (f := 1200) (v := v23) I (by decide)
      obtain rfl : b22 = nI 1 := hrb22.elim (fun q => absurd (show (nI 0 : Int32) = 0 by decide) q.2.2.2.1) (fun q => q.1.trans (by decide))
      refine ex_if_eq (tgt := 56) ok_X12_again (mi 19 rfl) rfl (fun hn => absurd hn (by decide)) (fun _ => ?_)
      refine ex_aload_n ok_X12_again (mi 20 rfl) rfl ?_
      refine ex_aload_n ok_X12_again (mi 21 rfl) rfl ?_
      refine ex_getI ok_X12_again (mi 22 rfl) rfl rfl (fk (MI_s J25) 0 rfl) ?_
      refine ex_gen (fun w26 => ?_)
      refine ex_iconst ok_X12_again (mi 23 rfl) ?_
      refine ex_icmp_ne (tgt := 47) ok_X12_again (mi 24 rfl) rfl (fun h40 => ?_) (fun h40 => ?_)
      · skip
        refine ex_aload_n ok_X12_again (mi 27 rfl) rfl ?_
        refine ex_getI ok_X12_again (mi 28 rfl) rfl rfl (fk (MI_s J25) 0 rfl) ?_
        refine ex_gen (fun w27 => ?_)
        refine mf_putI J25 ok_X12_again (mi 29 rfl) rfl rfl (fk (MI_s J25) 0 rfl) (by decide) (by decide) (fun g28 J29 K30 => ?_)
        refine ex_iconst ok_X12_again (mi 30 rfl) ?_
        refine ex_iret ok_X12_again (mi 31 rfl) rfl ?_
        exact ⟨_, rfl, ⟨_, rfl⟩, J29⟩
      · skip
        refine ex_iconst ok_X12_again (mi 25 rfl) ?_
        refine ex_goto (tgt := 51) ok_X12_again (mi 26 rfl) rfl ?_
        refine mf_putI J25 ok_X12_again (mi 29 rfl) rfl rfl (fk (MI_s J25) 0 rfl) (by decide) (by decide) (fun g31 J32 K33 => ?_)
        refine ex_iconst ok_X12_again (mi 30 rfl) ?_
        refine ex_iret ok_X12_again (mi 31 rfl) rfl ?_
        exact ⟨_, rfl, ⟨_, rfl⟩, J32⟩
    · skip
      refine ex_iconst ok_X12_again (mi 15 rfl) ?_
      refine ex_goto (tgt := 28) ok_X12_again (mi 16 rfl) rfl ?_
      refine sm_V (As := [_, _, _]) ok_X12_again (mi 18 rfl) rfl (s_ref hst (MI_s I)) rfl (fk (MI_s I) 0 rfl) rfl rfl (by decide) (by decide) (Nat.le_of_ble_eq_true rfl) (by decide) RF_no (fun z34 g38 p35 => ?_)
      obtain ⟨b36, v37, eb36, egb36, hrb36⟩ := p35
      cases eb36
      subst egb36
      have J39 := MI_I (f := 1200) (v := v37) I (by decide)
      refine ex_if_eq (tgt := 56) ok_X12_again (mi 19 rfl) rfl (fun h31 => ?_) (fun h31 => ?_)
      · skip
        obtain rfl : b36 = nI 0 := h31.trans (by decide)
        have q40 := hrb36.resolve_right (fun q => absurd q.1 (by decide))
        refine ex_iload_n ok_X12_again (mi 32 rfl) rfl ?_
        refine ex_istore_n ok_X12_again (mi 33 rfl) ?_
        refine ex_iconst ok_X12_again (mi 34 rfl) ?_
        refine ex_istore ok_X12_again (mi 35 rfl) ?_
        have j44 : ∀ (q41 : Int32) (g42 : GT), MI y D c R g42 → ex_W G 3 0 0 M_X12_again 462 [(0, .ref y), (1, .int (nI (a18))), (2, .int (nI 1)), (3, .int (nI (a18))), (4, .int q41)] [] g42 (SM y D c R pI) := by
          intro q41 g42 J43
          refine ex_iload ok_X12_again (mi 288 rfl) rfl ?_
          have j48 : ∀ (q45 : Int32) (g46 : GT), MI y D c R g46 → ex_W G 3 0 0 M_X12_again 513 [(0, .ref y), (1, .int (nI (a18))), (2, .int (nI 1)), (3, .int (nI (a18))), (4, .int q41)] [.int q45, .int q41] g46 (SM y D c R pI) := by
            intro q45 g46 J47
            refine ex_iadd ok_X12_again (mi 321 rfl) ?_
            refine ex_gen (fun w49 => ?_)
            refine ex_istore ok_X12_again (mi 322 rfl) ?_
            refine ex_iload ok_X12_again (mi 323 rfl) rfl ?_
            have j53 : ∀ (q50 : Int32) (g51 : GT), MI y D c R g51 → ex_W G 3 0 0 M_X12_again 572 [(0, .ref y), (1, .int (nI (a18))), (2, .int (nI 1)), (3, .int (nI (a18))), (4, .int w49)] [.int q50, .int w49] g51 (SM y D c R pI) := by
              intro q50 g51 J52
              refine ex_iadd ok_X12_again (mi 359 rfl) ?_
              refine ex_gen (fun w54 => ?_)
              refine ex_istore ok_X12_again (mi 360 rfl) ?_
              refine ex_iload ok_X12_again (mi 361 rfl) rfl ?_
              have j58 : ∀ (q55 : Int32) (g56 : GT), MI y D c R g56 → ex_W G 3 0 0 M_X12_again 611 [(0, .ref y), (1, .int (nI (a18))), (2, .int (nI 1)), (3, .int (nI (a18))), (4, .int w54)] [.int q55, .int w54] g56 (SM y D c R pI) := by
                intro q55 g56 J57
                refine ex_iadd ok_X12_again (mi 384 rfl) ?_
                refine ex_gen (fun w59 => ?_)
                refine ex_istore ok_X12_again (mi 385 rfl) ?_
                refine ex_iload ok_X12_again (mi 386 rfl) rfl ?_
                refine ex_iret ok_X12_again (mi 387 rfl) rfl ?_
                exact ⟨_, rfl, ⟨_, rfl⟩, J57⟩
              refine ex_aload_n ok_X12_again (mi 362 rfl) rfl ?_
              refine ex_getRx ok_X12_again (mi 363 rfl) rfl rfl (fk (MI_s J52) 0 rfl) (fr (MI_s J52) 25 rfl) (fk (MI_s J52) 26 rfl) (by decide) ?_
              refine ex_iload_n ok_X12_again (mi 364 rfl) rfl ?_
              refine sm_iald ok_X12_again (mi 365 rfl) (fk (MI_s J52) 26 rfl) (fn (MI_s J52) 26 rfl) rfl (by omega) (by decide) ?_
              refine ex_gen (fun w60 => ?_)
              refine ex_iconst ok_X12_again (mi 366 rfl) ?_
              refine ex_icmp_ne (tgt := 610) ok_X12_again (mi 367 rfl) rfl (fun h584 => ?_) (fun h584 => ?_)
              · skip
                refine ex_iconst ok_X12_again (mi 383 rfl) ?_
                exact ex_ls (ls' := [(0, .ref y), (1, .int (nI (a18))), (2, .int (nI 1)), (3, .int (nI (a18))), (4, .int w54)]) ⟨rfl, rfl, rfl, rfl, rfl, trivial⟩ (j58 _ g51 J52)
              · skip
                refine ex_aload_n ok_X12_again (mi 368 rfl) rfl ?_
                refine ex_iload_n ok_X12_again (mi 369 rfl) rfl ?_
                refine ex_aload_n ok_X12_again (mi 370 rfl) rfl ?_
                refine ex_getRx ok_X12_again (mi 371 rfl) rfl rfl (fk (MI_s J52) 0 rfl) (fr (MI_s J52) 26 rfl) (fk (MI_s J52) 27 rfl) (by decide) ?_
                refine ex_iload_n ok_X12_again (mi 372 rfl) rfl ?_
                refine sm_iald ok_X12_again (mi 373 rfl) (fk (MI_s J52) 27 rfl) (fn (MI_s J52) 27 rfl) rfl (by omega) (by decide) ?_
                obtain ⟨v61, hv61, ev61⟩ := vp_in_of (n := 512) (MI_bd J52 6 rfl (i := a18) (by omega)) (by decide)
                refine ex_top (w := nI v61) ev61 ?_
                refine ex_aload_n ok_X12_again (mi 374 rfl) rfl ?_
                refine ex_getRx ok_X12_again (mi 375 rfl) rfl rfl (fk (MI_s J52) 0 rfl) (fr (MI_s J52) 28 rfl) (fk (MI_s J52) 29 rfl) (by decide) ?_
                refine ex_iload_n ok_X12_again (mi 376 rfl) rfl ?_
                refine sm_iald ok_X12_again (mi 377 rfl) (fk (MI_s J52) 29 rfl) (fn (MI_s J52) 29 rfl) rfl (by omega) (by decide) ?_
                refine ex_gen (fun w62 => ?_)
                refine ex_iconst ok_X12_again (mi 378 rfl) ?_
                refine ex_ixor ok_X12_again (mi 379 rfl) ?_
                refine ex_gen (fun w63 => ?_)
                refine ex_iand ok_X12_again (mi 380 rfl) ?_
                obtain ⟨v64, hv64, ev64⟩ := vp_in_of (n := 512) (and_vp (vp_in_nI (N := 512) (by omega) (by decide)) (by decide)) (by decide)
                refine ex_top (w := nI v64) ev64 ?_
                refine sm_V (As := [_, _]) ok_X12_again (mi 381 rfl) rfl (s_X12_seed hst J52 (by omega)) rfl (fk (MI_s J52) 0 rfl) rfl rfl (by decide) (by decide) (Nat.le_of_ble_eq_true rfl) (by decide) SM_no (fun z65 g67 p66 => ?_)
                obtain ⟨u69, eu69, u69p, J68⟩ := p66
                cases eu69
                obtain ⟨v70, rfl⟩ := u69p
                refine ex_goto (tgt := 611) ok_X12_again (mi 382 rfl) rfl ?_
                exact ex_ls (ls' := [(0, .ref y), (1, .int (nI (a18))), (2, .int (nI 1)), (3, .int (nI (a18))), (4, .int w54)]) ⟨rfl, rfl, rfl, rfl, rfl, trivial⟩ (j58 _ g67 J68)
            refine ex_aload_n ok_X12_again (mi 324 rfl) rfl ?_
            refine ex_getRx ok_X12_again (mi 325 rfl) rfl rfl (fk (MI_s J47) 0 rfl) (fr (MI_s J47) 25 rfl) (fk (MI_s J47) 26 rfl) (by decide) ?_
            refine ex_iload_n ok_X12_again (mi 326 rfl) rfl ?_
            refine sm_iald ok_X12_again (mi 327 rfl) (fk (MI_s J47) 26 rfl) (fn (MI_s J47) 26 rfl) rfl (by omega) (by decide) ?_
            refine ex_gen (fun w71 => ?_)
            refine ex_iconst ok_X12_again (mi 328 rfl) ?_
            refine ex_icmp_ne (tgt := 571) ok_X12_again (mi 329 rfl) rfl (fun h525 => ?_) (fun h525 => ?_)
            · skip
              refine ex_iconst ok_X12_again (mi 358 rfl) ?_
              exact ex_ls (ls' := [(0, .ref y), (1, .int (nI (a18))), (2, .int (nI 1)), (3, .int (nI (a18))), (4, .int w49)]) ⟨rfl, rfl, rfl, rfl, rfl, trivial⟩ (j53 _ g46 J47)
            · skip
              refine ex_aload_n ok_X12_again (mi 330 rfl) rfl ?_
              refine ex_bipush ok_X12_again (mi 331 rfl) ?_
              refine ex_iload_n ok_X12_again (mi 332 rfl) rfl ?_
              refine ex_aload_n ok_X12_again (mi 333 rfl) rfl ?_
              refine ex_getRx ok_X12_again (mi 334 rfl) rfl rfl (fk (MI_s J47) 0 rfl) (fr (MI_s J47) 5 rfl) (fk (MI_s J47) 6 rfl) (by decide) ?_
              refine ex_iload_n ok_X12_again (mi 335 rfl) rfl ?_
              refine sm_iald ok_X12_again (mi 336 rfl) (fk (MI_s J47) 6 rfl) (fn (MI_s J47) 6 rfl) rfl (by omega) (by decide) ?_
              obtain ⟨v72, hv72, ev72⟩ := vp_in_of (n := 512) (MI_bd J47 0 rfl (i := a18) (by omega)) (by decide)
              refine ex_top (w := nI v72) ev72 ?_
              refine ex_aload_n ok_X12_again (mi 337 rfl) rfl ?_
              refine ex_getRx ok_X12_again (mi 338 rfl) rfl rfl (fk (MI_s J47) 0 rfl) (fr (MI_s J47) 28 rfl) (fk (MI_s J47) 29 rfl) (by decide) ?_
              refine ex_iload_n ok_X12_again (mi 339 rfl) rfl ?_
              refine sm_iald ok_X12_again (mi 340 rfl) (fk (MI_s J47) 29 rfl) (fn (MI_s J47) 29 rfl) rfl (by omega) (by decide) ?_
              refine ex_gen (fun w73 => ?_)
              refine ex_iconst ok_X12_again (mi 341 rfl) ?_
              refine ex_ixor ok_X12_again (mi 342 rfl) ?_
              refine ex_gen (fun w74 => ?_)
              refine ex_iand ok_X12_again (mi 343 rfl) ?_
              obtain ⟨v75, hv75, ev75⟩ := vp_in_of (n := 512) (and_vp (vp_in_nI (N := 512) (by omega) (by decide)) (by decide)) (by decide)
              refine ex_top (w := nI v75) ev75 ?_
              refine ex_aload_n ok_X12_again (mi 344 rfl) rfl ?_
              refine ex_getRx ok_X12_again (mi 345 rfl) rfl rfl (fk (MI_s J47) 0 rfl) (fr (MI_s J47) 4 rfl) (fk (MI_s J47) 5 rfl) (by decide) ?_
              refine ex_iload_n ok_X12_again (mi 346 rfl) rfl ?_
              refine sm_iald ok_X12_again (mi 347 rfl) (fk (MI_s J47) 5 rfl) (fn (MI_s J47) 5 rfl) rfl (by omega) (by decide) ?_
              refine ex_gen (fun w76 => ?_)
              refine ex_aload_n ok_X12_again (mi 348 rfl) rfl ?_
              refine ex_getRx ok_X12_again (mi 349 rfl) rfl rfl (fk (MI_s J47) 0 rfl) (fr (MI_s J47) 27 rfl) (fk (MI_s J47) 28 rfl) (by decide) ?_
              refine ex_iload_n ok_X12_again (mi 350 rfl) rfl ?_
              refine sm_iald ok_X12_again (mi 351 rfl) (fk (MI_s J47) 28 rfl) (fn (MI_s J47) 28 rfl) rfl (by omega) (by decide) ?_
              refine ex_gen (fun w77 => ?_)
              refine ex_aload_n ok_X12_again (mi 352 rfl) rfl ?_
              refine ex_getRx ok_X12_again (mi 353 rfl) rfl rfl (fk (MI_s J47) 0 rfl) (fr (MI_s J47) 26 rfl) (fk (MI_s J47) 27 rfl) (by decide) ?_
              refine ex_iload_n ok_X12_again (mi 354 rfl) rfl ?_
              refine sm_iald ok_X12_again (mi 355 rfl) (fk (MI_s J47) 27 rfl) (fn (MI_s J47) 27 rfl) rfl (by omega) (by decide) ?_
              obtain ⟨v78, hv78, ev78⟩ := vp_in_of (n := 512) (MI_bd J47 6 rfl (i := a18) (by omega)) (by decide)
              refine ex_top (w := nI v78) ev78 ?_
              refine sm_V (As := [_, _, _, _, _, _]) ok_X12_again (mi 356 rfl) rfl (s_X12_layAll hst J47 (κ := 20) (by decide) (Or.inr (vp_in_nI (N := 3) (by omega) (by decide))) (TO9 rfl (vp_in_nI (N := 512) (by omega) (by decide))) (Or.inl rfl) (Or.inl rfl) (Or.inr (vp_in_nI (N := 512) (by omega) (by decide)))) rfl (fk (MI_s J47) 0 rfl) rfl rfl (by decide) (by decide) (Nat.le_of_ble_eq_true rfl) (by decide) SM_no (fun z79 g81 p80 => ?_)
              obtain ⟨u83, eu83, u83p, J82⟩ := p80
              cases eu83
              obtain ⟨v84, rfl⟩ := u83p
              refine ex_goto (tgt := 572) ok_X12_again (mi 357 rfl) rfl ?_
              exact ex_ls (ls' := [(0, .ref y), (1, .int (nI (a18))), (2, .int (nI 1)), (3, .int (nI (a18))), (4, .int w49)]) ⟨rfl, rfl, rfl, rfl, rfl, trivial⟩ (j53 _ g81 J82)
          refine ex_aload_n ok_X12_again (mi 289 rfl) rfl ?_
          refine ex_getRx ok_X12_again (mi 290 rfl) rfl rfl (fk (MI_s J43) 0 rfl) (fr (MI_s J43) 25 rfl) (fk (MI_s J43) 26 rfl) (by decide) ?_
          refine ex_iload_n ok_X12_again (mi 291 rfl) rfl ?_
          refine sm_iald ok_X12_again (mi 292 rfl) (fk (MI_s J43) 26 rfl) (fn (MI_s J43) 26 rfl) rfl (by omega) (by decide) ?_
          refine ex_gen (fun w85 => ?_)
          refine ex_iconst ok_X12_again (mi 293 rfl) ?_
          refine ex_icmp_ne (tgt := 512) ok_X12_again (mi 294 rfl) rfl (fun h471 => ?_) (fun h471 => ?_)
          · skip
            refine ex_iconst ok_X12_again (mi 320 rfl) ?_
            exact ex_ls (ls' := [(0, .ref y), (1, .int (nI (a18))), (2, .int (nI 1)), (3, .int (nI (a18))), (4, .int q41)]) ⟨rfl, rfl, rfl, rfl, rfl, trivial⟩ (j48 _ g42 J43)
          · skip
            refine ex_aload_n ok_X12_again (mi 295 rfl) rfl ?_
            refine ex_bipush ok_X12_again (mi 296 rfl) ?_
            refine ex_iload_n ok_X12_again (mi 297 rfl) rfl ?_
            refine ex_aload_n ok_X12_again (mi 298 rfl) rfl ?_
            refine ex_getRx ok_X12_again (mi 299 rfl) rfl rfl (fk (MI_s J43) 0 rfl) (fr (MI_s J43) 5 rfl) (fk (MI_s J43) 6 rfl) (by decide) ?_
            refine ex_iload_n ok_X12_again (mi 300 rfl) rfl ?_
            refine sm_iald ok_X12_again (mi 301 rfl) (fk (MI_s J43) 6 rfl) (fn (MI_s J43) 6 rfl) rfl (by omega) (by decide) ?_
            obtain ⟨v86, hv86, ev86⟩ := vp_in_of (n := 512) (MI_bd J43 0 rfl (i := a18) (by omega)) (by decide)
            refine ex_top (w := nI v86) ev86 ?_
            refine ex_aload_n ok_X12_again (mi 302 rfl) rfl ?_
            refine ex_getRx ok_X12_again (mi 303 rfl) rfl rfl (fk (MI_s J43) 0 rfl) (fr (MI_s J43) 28 rfl) (fk (MI_s J43) 29 rfl) (by decide) ?_
            refine ex_iload_n ok_X12_again (mi 304 rfl) rfl ?_
            refine sm_iald ok_X12_again (mi 305 rfl) (fk (MI_s J43) 29 rfl) (fn (MI_s J43) 29 rfl) rfl (by omega) (by decide) ?_
            refine ex_gen (fun w87 => ?_)
            refine ex_iconst ok_X12_again (mi 306 rfl) ?_
            refine ex_ixor ok_X12_again (mi 307 rfl) ?_
            refine ex_gen (fun w88 => ?_)
            refine ex_iand ok_X12_again (mi 308 rfl) ?_
            obtain ⟨v89, hv89, ev89⟩ := vp_in_of (n := 512) (and_vp (vp_in_nI (N := 512) (by omega) (by decide)) (by decide)) (by decide)
            refine ex_top (w := nI v89) ev89 ?_
            refine ex_aload_n ok_X12_again (mi 309 rfl) rfl ?_
            refine ex_getRx ok_X12_again (mi 310 rfl) rfl rfl (fk (MI_s J43) 0 rfl) (fr (MI_s J43) 4 rfl) (fk (MI_s J43) 5 rfl) (by decide) ?_
            refine ex_iload_n ok_X12_again (mi 311 rfl) rfl ?_
            refine sm_iald ok_X12_again (mi 312 rfl) (fk (MI_s J43) 5 rfl) (fn (MI_s J43) 5 rfl) rfl (by omega) (by decide) ?_
            refine ex_gen (fun w90 => ?_)
            refine ex_aload_n ok_X12_again (mi 313 rfl) rfl ?_
            refine ex_getRx ok_X12_again (mi 314 rfl) rfl rfl (fk (MI_s J43) 0 rfl) (fr (MI_s J43) 27 rfl) (fk (MI_s J43) 28 rfl) (by decide) ?_
            refine ex_iload_n ok_X12_again (mi 315 rfl) rfl ?_
            refine sm_iald ok_X12_again (mi 316 rfl) (fk (MI_s J43) 28 rfl) (fn (MI_s J43) 28 rfl) rfl (by omega) (by decide) ?_
            refine ex_gen (fun w91 => ?_)
            refine ex_iconst ok_X12_again (mi 317 rfl) ?_
            refine sm_V (As := [_, _, _, _, _, _]) ok_X12_again (mi 318 rfl) rfl (s_X12_layAll hst J43 (κ := 16) (by decide) (Or.inr (vp_in_nI (N := 3) (by omega) (by decide))) (TO9 rfl (vp_in_nI (N := 512) (by omega) (by decide))) (Or.inl rfl) (Or.inl rfl) (Or.inl rfl)) rfl (fk (MI_s J43) 0 rfl) rfl rfl (by decide) (by decide) (Nat.le_of_ble_eq_true rfl) (by decide) SM_no (fun z92 g94 p93 => ?_)
            obtain ⟨u96, eu96, u96p, J95⟩ := p93
            cases eu96
            obtain ⟨v97, rfl⟩ := u96p
            refine ex_goto (tgt := 513) ok_X12_again (mi 319 rfl) rfl ?_
            exact ex_ls (ls' := [(0, .ref y), (1, .int (nI (a18))), (2, .int (nI 1)), (3, .int (nI (a18))), (4, .int q41)]) ⟨rfl, rfl, rfl, rfl, rfl, trivial⟩ (j48 _ g94 J95)
        refine ex_aload_n ok_X12_again (mi 36 rfl) rfl ?_
        refine ex_getRx ok_X12_again (mi 37 rfl) rfl rfl (fk (MI_s J39) 0 rfl) (fr (MI_s J39) 1 rfl) (fk (MI_s J39) 2 rfl) (by decide) ?_
        refine ex_iload_n ok_X12_again (mi 38 rfl) rfl ?_
        refine sm_iald ok_X12_again (mi 39 rfl) (fk (MI_s J39) 2 rfl) (fn (MI_s J39) 2 rfl) rfl (by omega) (by decide) ?_
        refine ex_iconst ok_X12_again (mi 40 rfl) ?_
        refine ex_icmp_ne (tgt := 118) ok_X12_again (mi 41 rfl) rfl (fun h68 => ?_) (fun h68 => ?_)
        · skip
          refine ex_aload_n ok_X12_again (mi 73 rfl) rfl ?_
          refine ex_getRx ok_X12_again (mi 74 rfl) rfl rfl (fk (MI_s J39) 0 rfl) (fr (MI_s J39) 1 rfl) (fk (MI_s J39) 2 rfl) (by decide) ?_
          refine ex_iload_n ok_X12_again (mi 75 rfl) rfl ?_
          refine sm_iald ok_X12_again (mi 76 rfl) (fk (MI_s J39) 2 rfl) (fn (MI_s J39) 2 rfl) rfl (by omega) (by decide) ?_
          refine ex_iconst ok_X12_again (mi 77 rfl) ?_
          refine ex_icmp_ne (tgt := 164) ok_X12_again (mi 78 rfl) rfl (fun h125 => ?_) (fun h125 => ?_)
          · skip
            refine ex_aload_n ok_X12_again (mi 103 rfl) rfl ?_
            refine ex_getRx ok_X12_again (mi 104 rfl) rfl rfl (fk (MI_s J39) 0 rfl) (fr (MI_s J39) 1 rfl) (fk (MI_s J39) 2 rfl) (by decide) ?_
            refine ex_iload_n ok_X12_again (mi 105 rfl) rfl ?_
            refine sm_iald ok_X12_again (mi 106 rfl) (fk (MI_s J39) 2 rfl) (fn (MI_s J39) 2 rfl) rfl (by omega) (by decide) ?_
            refine ex_iconst ok_X12_again (mi 107 rfl) ?_
            refine ex_icmp_ne (tgt := 462) ok_X12_again (mi 108 rfl) rfl (fun h171 => ?_) (fun h171 => ?_)
            · skip
              refine ex_iload ok_X12_again (mi 288 rfl) rfl ?_
              have j101 : ∀ (q98 : Int32) (g99 : GT), MI y D c R g99 → ex_W G 3 0 0 M_X12_again 513 [(0, .ref y), (1, .int (nI (a18))), (2, .int (nI 1)), (3, .int (nI (a18))), (4, .int (nI 0))] [.int q98, .int (nI 0)] g99 (SM y D c R pI) := by
                intro q98 g99 J100
                refine ex_iadd ok_X12_again (mi 321 rfl) ?_
                refine ex_gen (fun w102 => ?_)
                refine ex_istore ok_X12_again (mi 322 rfl) ?_
                refine ex_iload ok_X12_again (mi 323 rfl) rfl ?_
                have j106 : ∀ (q103 : Int32) (g104 : GT), MI y D c R g104 → ex_W G 3 0 0 M_X12_again 572 [(0, .ref y), (1, .int (nI (a18))), (2, .int (nI 1)), (3, .int (nI (a18))), (4, .int w102)] [.int q103, .int w102] g104 (SM y D c R pI) := by
                  intro q103 g104 J105
                  refine ex_iadd ok_X12_again (mi 359 rfl) ?_
                  refine ex_gen (fun w107 => ?_)
                  refine ex_istore ok_X12_again (mi 360 rfl) ?_
                  refine ex_iload ok_X12_again (mi 361 rfl) rfl ?_
                  have j111 : ∀ (q108 : Int32) (g109 : GT), MI y D c R g109 → ex_W G 3 0 0 M_X12_again 611 [(0, .ref y), (1, .int (nI (a18))), (2, .int (nI 1)), (3, .int (nI (a18))), (4, .int w107)] [.int q108, .int w107] g109 (SM y D c R pI) := by
                    intro q108 g109 J110
                    refine ex_iadd ok_X12_again (mi 384 rfl) ?_
                    refine ex_gen (fun w112 => ?_)
                    refine ex_istore ok_X12_again (mi 385 rfl) ?_
                    refine ex_iload ok_X12_again (mi 386 rfl) rfl ?_
                    refine ex_iret ok_X12_again (mi 387 rfl) rfl ?_
                    exact ⟨_, rfl, ⟨_, rfl⟩, J110⟩
                  refine ex_aload_n ok_X12_again (mi 362 rfl) rfl ?_
                  refine ex_getRx ok_X12_again (mi 363 rfl) rfl rfl (fk (MI_s J105) 0 rfl) (fr (MI_s J105) 25 rfl) (fk (MI_s J105) 26 rfl) (by decide) ?_
                  refine ex_iload_n ok_X12_again (mi 364 rfl) rfl ?_
                  refine sm_iald ok_X12_again (mi 365 rfl) (fk (MI_s J105) 26 rfl) (fn (MI_s J105) 26 rfl) rfl (by omega) (by decide) ?_
                  refine ex_gen (fun w113 => ?_)
                  refine ex_iconst ok_X12_again (mi 366 rfl) ?_
                  refine ex_icmp_ne (tgt := 610) ok_X12_again (mi 367 rfl) rfl (fun h584 => ?_) (fun h584 => ?_)
                  · skip
                    refine ex_iconst ok_X12_again (mi 383 rfl) ?_
                    exact ex_ls (ls' := [(0, .ref y), (1, .int (nI (a18))), (2, .int (nI 1)), (3, .int (nI (a18))), (4, .int w107)]) ⟨rfl, rfl, rfl, rfl, rfl, trivial⟩ (j111 _ g104 J105)
                  · skip
                    refine ex_aload_n ok_X12_again (mi 368 rfl) rfl ?_
                    refine ex_iload_n ok_X12_again (mi 369 rfl) rfl ?_
                    refine ex_aload_n ok_X12_again (mi 370 rfl) rfl ?_
                    refine ex_getRx ok_X12_again (mi 371 rfl) rfl rfl (fk (MI_s J105) 0 rfl) (fr (MI_s J105) 26 rfl) (fk (MI_s J105) 27 rfl) (by decide) ?_
                    refine ex_iload_n ok_X12_again (mi 372 rfl) rfl ?_
                    refine sm_iald ok_X12_again (mi 373 rfl) (fk (MI_s J105) 27 rfl) (fn (MI_s J105) 27 rfl) rfl (by omega) (by decide) ?_
                    obtain ⟨v114, hv114, ev114⟩ := vp_in_of (n := 512) (MI_bd J105 6 rfl (i := a18) (by omega)) (by decide)
                    refine ex_top (w := nI v114) ev114 ?_
                    refine ex_aload_n ok_X12_again (mi 374 rfl) rfl ?_
                    refine ex_getRx ok_X12_again (mi 375 rfl) rfl rfl (fk (MI_s J105) 0 rfl) (fr (MI_s J105) 28 rfl) (fk (MI_s J105) 29 rfl) (by decide) ?_
                    refine ex_iload_n ok_X12_again (mi 376 rfl) rfl ?_
                    refine sm_iald ok_X12_again (mi 377 rfl) (fk (MI_s J105) 29 rfl) (fn (MI_s J105) 29 rfl) rfl (by omega) (by decide) ?_
                    refine ex_gen (fun w115 => ?_)
                    refine ex_iconst ok_X12_again (mi 378 rfl) ?_
                    refine ex_ixor ok_X12_again (mi 379 rfl) ?_
                    refine ex_gen (fun w116 => ?_)
                    refine ex_iand ok_X12_again (mi 380 rfl) ?_
                    obtain ⟨v117, hv117, ev117⟩ := vp_in_of (n := 512) (and_vp (vp_in_nI (N := 512) (by omega) (by decide)) (by decide)) (by decide)
                    refine ex_top (w := nI v117) ev117 ?_
                    refine sm_V (As := [_, _]) ok_X12_again (mi 381 rfl) rfl (s_X12_seed hst J105 (by omega)) rfl (fk (MI_s J105) 0 rfl) rfl rfl (by decide) (by decide) (Nat.le_of_ble_eq_true rfl) (by decide) SM_no (fun z118 g120 p119 => ?_)
                    obtain ⟨u122, eu122, u122p, J121⟩ := p119
                    cases eu122
                    obtain ⟨v123, rfl⟩ := u122p
                    refine ex_goto (tgt := 611) ok_X12_again (mi 382 rfl) rfl ?_
                    exact ex_ls (ls' := [(0, .ref y), (1, .int (nI (a18))), (2, .int (nI 1)), (3, .int (nI (a18))), (4, .int w107)]) ⟨rfl, rfl, rfl, rfl, rfl, trivial⟩ (j111 _ g120 J121)
                refine ex_aload_n ok_X12_again (mi 324 rfl) rfl ?_
                refine ex_getRx ok_X12_again (mi 325 rfl) rfl rfl (fk (MI_s J100) 0 rfl) (fr (MI_s J100) 25 rfl) (fk (MI_s J100) 26 rfl) (by decide) ?_
                refine ex_iload_n ok_X12_again (mi 326 rfl) rfl ?_
                refine sm_iald ok_X12_again (mi 327 rfl) (fk (MI_s J100) 26 rfl) (fn (MI_s J100) 26 rfl) rfl (by omega) (by decide) ?_
                refine ex_gen (fun w124 => ?_)
                refine ex_iconst ok_X12_again (mi 328 rfl) ?_
                refine ex_icmp_ne (tgt := 571) ok_X12_again (mi 329 rfl) rfl (fun h525 => ?_) (fun h525 => ?_)
                · skip
                  refine ex_iconst ok_X12_again (mi 358 rfl) ?_
                  exact ex_ls (ls' := [(0, .ref y), (1, .int (nI (a18))), (2, .int (nI 1)), (3, .int (nI (a18))), (4, .int w102)]) ⟨rfl, rfl, rfl, rfl, rfl, trivial⟩ (j106 _ g99 J100)
                · skip
                  refine ex_aload_n ok_X12_again (mi 330 rfl) rfl ?_
                  refine ex_bipush ok_X12_again (mi 331 rfl) ?_
                  refine ex_iload_n ok_X12_again (mi 332 rfl) rfl ?_
                  refine ex_aload_n ok_X12_again (mi 333 rfl) rfl ?_
                  refine ex_getRx ok_X12_again (mi 334 rfl) rfl rfl (fk (MI_s J100) 0 rfl) (fr (MI_s J100) 5 rfl) (fk (MI_s J100) 6 rfl) (by decide) ?_
                  refine ex_iload_n ok_X12_again (mi 335 rfl) rfl ?_
                  refine sm_iald ok_X12_again (mi 336 rfl) (fk (MI_s J100) 6 rfl) (fn (MI_s J100) 6 rfl) rfl (by omega) (by decide) ?_
                  obtain ⟨v125, hv125, ev125⟩ := vp_in_of (n := 512) (MI_bd J100 0 rfl (i := a18) (by omega)) (by decide)
                  refine ex_top (w := nI v125) ev125 ?_
                  refine ex_aload_n ok_X12_again (mi 337 rfl) rfl ?_
                  refine ex_getRx ok_X12_again (mi 338 rfl) rfl rfl (fk (MI_s J100) 0 rfl) (fr (MI_s J100) 28 rfl) (fk (MI_s J100) 29 rfl) (by decide) ?_
                  refine ex_iload_n ok_X12_again (mi 339 rfl) rfl ?_
                  refine sm_iald ok_X12_again (mi 340 rfl) (fk (MI_s J100) 29 rfl) (fn (MI_s J100) 29 rfl) rfl (by omega) (by decide) ?_
                  refine ex_gen (fun w126 => ?_)
                  refine ex_iconst ok_X12_again (mi 341 rfl) ?_
                  refine ex_ixor ok_X12_again (mi 342 rfl) ?_
                  refine ex_gen (fun w127 => ?_)
                  refine ex_iand ok_X12_again (mi 343 rfl) ?_
                  obtain ⟨v128, hv128, ev128⟩ := vp_in_of (n := 512) (and_vp (vp_in_nI (N := 512) (by omega) (by decide)) (by decide)) (by decide)
                  refine ex_top (w := nI v128) ev128 ?_
                  refine ex_aload_n ok_X12_again (mi 344 rfl) rfl ?_
                  refine ex_getRx ok_X12_again (mi 345 rfl) rfl rfl (fk (MI_s J100) 0 rfl) (fr (MI_s J100) 4 rfl) (fk (MI_s J100) 5 rfl) (by decide) ?_
                  refine ex_iload_n ok_X12_again (mi 346 rfl) rfl ?_
                  refine sm_iald ok_X12_again (mi 347 rfl) (fk (MI_s J100) 5 rfl) (fn (MI_s J100) 5 rfl) rfl (by omega) (by decide) ?_
                  refine ex_gen (fun w129 => ?_)
                  refine ex_aload_n ok_X12_again (mi 348 rfl) rfl ?_
                  refine ex_getRx ok_X12_again (mi 349 rfl) rfl rfl (fk (MI_s J100) 0 rfl) (fr (MI_s J100) 27 rfl) (fk (MI_s J100) 28 rfl) (by decide) ?_
                  refine ex_iload_n ok_X12_again (mi 350 rfl) rfl ?_
                  refine sm_iald ok_X12_again (mi 351 rfl) (fk (MI_s J100) 28 rfl) (fn (MI_s J100) 28 rfl) rfl (by omega) (by decide) ?_
                  refine ex_gen (fun w130 => ?_)
                  refine ex_aload_n ok_X12_again (mi 352 rfl) rfl ?_
                  refine ex_getRx ok_X12_again (mi 353 rfl) rfl rfl (fk (MI_s J100) 0 rfl) (fr (MI_s J100) 26 rfl) (fk (MI_s J100) 27 rfl) (by decide) ?_
                  refine ex_iload_n ok_X12_again (mi 354 rfl) rfl ?_
                  refine sm_iald ok_X12_again (mi 355 rfl) (fk (MI_s J100) 27 rfl) (fn (MI_s J100) 27 rfl) rfl (by omega) (by decide) ?_
                  obtain ⟨v131, hv131, ev131⟩ := vp_in_of (n := 512) (MI_bd J100 6 rfl (i := a18) (by omega)) (by decide)
                  refine ex_top (w := nI v131) ev131 ?_
                  refine sm_V (As := [_, _, _, _, _, _]) ok_X12_again (mi 356 rfl) rfl (s_X12_layAll hst J100 (κ := 20) (by decide) (Or.inr (vp_in_nI (N := 3) (by omega) (by decide))) (TO9 rfl (vp_in_nI (N := 512) (by omega) (by decide))) (Or.inl rfl) (Or.inl rfl) (Or.inr (vp_in_nI (N := 512) (by omega) (by decide)))) rfl (fk (MI_s J100) 0 rfl) rfl rfl (by decide) (by decide) (Nat.le_of_ble_eq_true rfl) (by decide) SM_no (fun z132 g134 p133 => ?_)
                  obtain ⟨u136, eu136, u136p, J135⟩ := p133
                  cases eu136
                  obtain ⟨v137, rfl⟩ := u136p
                  refine ex_goto (tgt := 572) ok_X12_again (mi 357 rfl) rfl ?_
                  exact ex_ls (ls' := [(0, .ref y), (1, .int (nI (a18))), (2, .int (nI 1)), (3, .int (nI (a18))), (4, .int w102)]) ⟨rfl, rfl, rfl, rfl, rfl, trivial⟩ (j106 _ g134 J135)
              refine ex_aload_n ok_X12_again (mi 289 rfl) rfl ?_
              refine ex_getRx ok_X12_again (mi 290 rfl) rfl rfl (fk (MI_s J39) 0 rfl) (fr (MI_s J39) 25 rfl) (fk (MI_s J39) 26 rfl) (by decide) ?_
              refine ex_iload_n ok_X12_again (mi 291 rfl) rfl ?_
              refine sm_iald ok_X12_again (mi 292 rfl) (fk (MI_s J39) 26 rfl) (fn (MI_s J39) 26 rfl) rfl (by omega) (by decide) ?_
              refine ex_gen (fun w138 => ?_)
              refine ex_iconst ok_X12_again (mi 293 rfl) ?_
              refine ex_icmp_ne (tgt := 512) ok_X12_again (mi 294 rfl) rfl (fun h471 => ?_) (fun h471 => ?_)
              · skip
                refine ex_iconst ok_X12_again (mi 320 rfl) ?_
                exact ex_ls (ls' := [(0, .ref y), (1, .int (nI (a18))), (2, .int (nI 1)), (3, .int (nI (a18))), (4, .int (nI 0))]) ⟨rfl, rfl, rfl, rfl, rfl, trivial⟩ (j101 _ (px_I g 1200 y v37) J39)
              · skip
                refine ex_aload_n ok_X12_again (mi 295 rfl) rfl ?_
                refine ex_bipush ok_X12_again (mi 296 rfl) ?_
                refine ex_iload_n ok_X12_again (mi 297 rfl) rfl ?_
                refine ex_aload_n ok_X12_again (mi 298 rfl) rfl ?_
                refine ex_getRx ok_X12_again (mi 299 rfl) rfl rfl (fk (MI_s J39) 0 rfl) (fr (MI_s J39) 5 rfl) (fk (MI_s J39) 6 rfl) (by decide) ?_
                refine ex_iload_n ok_X12_again (mi 300 rfl) rfl ?_
                refine sm_iald ok_X12_again (mi 301 rfl) (fk (MI_s J39) 6 rfl) (fn (MI_s J39) 6 rfl) rfl (by omega) (by decide) ?_
                obtain ⟨v139, hv139, ev139⟩ := vp_in_of (n := 512) (MI_bd J39 0 rfl (i := a18) (by omega)) (by decide)
                refine ex_top (w := nI v139) ev139 ?_
                refine ex_aload_n ok_X12_again (mi 302 rfl) rfl ?_
                refine ex_getRx ok_X12_again (mi 303 rfl) rfl rfl (fk (MI_s J39) 0 rfl) (fr (MI_s J39) 28 rfl) (fk (MI_s J39) 29 rfl) (by decide) ?_
                refine ex_iload_n ok_X12_again (mi 304 rfl) rfl ?_
                refine sm_iald ok_X12_again (mi 305 rfl) (fk (MI_s J39) 29 rfl) (fn (MI_s J39) 29 rfl) rfl (by omega) (by decide) ?_
                refine ex_gen (fun w140 => ?_)
                refine ex_iconst ok_X12_again (mi 306 rfl) ?_
                refine ex_ixor ok_X12_again (mi 307 rfl) ?_
                refine ex_gen (fun w141 => ?_)
                refine ex_iand ok_X12_again (mi 308 rfl) ?_
                obtain ⟨v142, hv142, ev142⟩ := vp_in_of (n := 512) (and_vp (vp_in_nI (N := 512) (by omega) (by decide)) (by decide)) (by decide)
                refine ex_top (w := nI v142) ev142 ?_
                refine ex_aload_n ok_X12_again (mi 309 rfl) rfl ?_
                refine ex_getRx ok_X12_again (mi 310 rfl) rfl rfl (fk (MI_s J39) 0 rfl) (fr (MI_s J39) 4 rfl) (fk (MI_s J39) 5 rfl) (by decide) ?_
                refine ex_iload_n ok_X12_again (mi 311 rfl) rfl ?_
                refine sm_iald ok_X12_again (mi 312 rfl) (fk (MI_s J39) 5 rfl) (fn (MI_s J39) 5 rfl) rfl (by omega) (by decide) ?_
                refine ex_gen (fun w143 => ?_)
                refine ex_aload_n ok_X12_again (mi 313 rfl) rfl ?_
                refine ex_getRx ok_X12_again (mi 314 rfl) rfl rfl (fk (MI_s J39) 0 rfl) (fr (MI_s J39) 27 rfl) (fk (MI_s J39) 28 rfl) (by decide) ?_
                refine ex_iload_n ok_X12_again (mi 315 rfl) rfl ?_
                refine sm_iald ok_X12_again (mi 316 rfl) (fk (MI_s J39) 28 rfl) (fn (MI_s J39) 28 rfl) rfl (by omega) (by decide) ?_
                refine ex_gen (fun w144 => ?_)
                refine ex_iconst ok_X12_again (mi 317 rfl) ?_
                refine sm_V (As := [_, _, _, _, _, _]) ok_X12_again (mi 318 rfl) rfl (s_X12_layAll hst J39 (κ := 16) (by decide) (Or.inr (vp_in_nI (N := 3) (by omega) (by decide))) (TO9 rfl (vp_in_nI (N := 512) (by omega) (by decide))) (Or.inl rfl) (Or.inl rfl) (Or.inl rfl)) rfl (fk (MI_s J39) 0 rfl) rfl rfl (by decide) (by decide) (Nat.le_of_ble_eq_true rfl) (by decide) SM_no (fun z145 g147 p146 => ?_)
                obtain ⟨u149, eu149, u149p, J148⟩ := p146
                cases eu149
                obtain ⟨v150, rfl⟩ := u149p
                refine ex_goto (tgt := 513) ok_X12_again (mi 319 rfl) rfl ?_
                exact ex_ls (ls' := [(0, .ref y), (1, .int (nI (a18))), (2, .int (nI 1)), (3, .int (nI (a18))), (4, .int (nI 0))]) ⟨rfl, rfl, rfl, rfl, rfl, trivial⟩ (j101 _ g147 J148)
            · skip
              have J151 := MI_Ra (l := a18) J39 (by rw [h171]; decide)
              refine ex_iconst ok_X12_again (mi 109 rfl) ?_
              refine ex_istore ok_X12_again (mi 110 rfl) ?_
              have lp177 : ∀ n177 k177 : Nat, k177 + n177 = 16 → ∀ (q152 : Int32) (g153 : GT), MI y D c (fun j => R j ∨ j = a18) g153 → ex_W G 3 0 0 M_X12_again 177 [(0, .ref y), (1, .int (nI (a18))), (2, .int (nI 1)), (3, .int (nI (a18))), (4, .int q152), (5, .int (nI (k177)))] [] g153 (SM y D c R pI) := by
                intro n177
                induction n177 with
                | zero =>
                  intro k177 he177 q152 g153 J154 
                  obtain rfl : k177 = 16 := by omega
                  refine ex_iload ok_X12_again (mi 111 rfl) rfl ?_
                  refine ex_bipush ok_X12_again (mi 112 rfl) ?_
                  refine ex_icmp_ge (tgt := 305) ok_X12_again (mi 113 rfl) rfl (fun _ => ?_) (fun hn => absurd (by decide) hn)
                  refine ex_iload ok_X12_again (mi 186 rfl) rfl ?_
                  have j158 : ∀ (q155 : Int32) (g156 : GT), MI y D c (fun j => R j ∨ j = a18) g156 → ex_W G 3 0 0 M_X12_again 356 [(0, .ref y), (1, .int (nI (a18))), (2, .int (nI 1)), (3, .int (nI (a18))), (4, .int q152), (5, .int (nI 16))] [.int q155, .int q152] g156 (SM y D c R pI) := by
                    intro q155 g156 J157
                    refine ex_iadd ok_X12_again (mi 219 rfl) ?_
                    refine ex_gen (fun w159 => ?_)
                    refine ex_istore ok_X12_again (mi 220 rfl) ?_
                    refine ex_iload ok_X12_again (mi 221 rfl) rfl ?_
                    have j163 : ∀ (q160 : Int32) (g161 : GT), MI y D c (fun j => R j ∨ j = a18) g161 → ex_W G 3 0 0 M_X12_again 410 [(0, .ref y), (1, .int (nI (a18))), (2, .int (nI 1)), (3, .int (nI (a18))), (4, .int w159), (5, .int (nI 16))] [.int q160, .int w159] g161 (SM y D c R pI) := by
                      intro q160 g161 J162
                      refine ex_iadd ok_X12_again (mi 254 rfl) ?_
                      refine ex_gen (fun w164 => ?_)
                      refine ex_istore ok_X12_again (mi 255 rfl) ?_
                      refine ex_iload ok_X12_again (mi 256 rfl) rfl ?_
                      have j168 : ∀ (q165 : Int32) (g166 : GT), MI y D c (fun j => R j ∨ j = a18) g166 → ex_W G 3 0 0 M_X12_again 459 [(0, .ref y), (1, .int (nI (a18))), (2, .int (nI 1)), (3, .int (nI (a18))), (4, .int w164), (5, .int (nI 16))] [.int q165, .int w164] g166 (SM y D c R pI) := by
                        intro q165 g166 J167
                        refine ex_iadd ok_X12_again (mi 286 rfl) ?_
                        refine ex_gen (fun w169 => ?_)
                        refine ex_istore ok_X12_again (mi 287 rfl) ?_
                        exact ex_ls (ls' := [(0, .ref y), (1, .int (nI (a18))), (2, .int (nI 1)), (3, .int (nI (a18))), (4, .int w169)]) ⟨rfl, rfl, rfl, rfl, rfl, trivial⟩ (j44 _ g166 (MI_Rw J167 (fun l k => (Or.inl k))))
                      refine ex_aload_n ok_X12_again (mi 257 rfl) rfl ?_
                      refine ex_getRx ok_X12_again (mi 258 rfl) rfl rfl (fk (MI_s J162) 0 rfl) (fr (MI_s J162) 19 rfl) (fk (MI_s J162) 20 rfl) (by decide) ?_
                      refine ex_iload_n ok_X12_again (mi 259 rfl) rfl ?_
                      refine sm_iald ok_X12_again (mi 260 rfl) (fk (MI_s J162) 20 rfl) (fn (MI_s J162) 20 rfl) rfl (by omega) (by decide) ?_
                      refine ex_gen (fun w170 => ?_)
                      refine ex_iconst ok_X12_again (mi 261 rfl) ?_
                      refine ex_icmp_ne (tgt := 458) ok_X12_again (mi 262 rfl) rfl (fun h422 => ?_) (fun h422 => ?_)
                      · skip
                        refine ex_iconst ok_X12_again (mi 285 rfl) ?_
                        exact ex_ls (ls' := [(0, .ref y), (1, .int (nI (a18))), (2, .int (nI 1)), (3, .int (nI (a18))), (4, .int w164), (5, .int (nI 16))]) ⟨rfl, rfl, rfl, rfl, rfl, rfl, trivial⟩ (j168 _ g161 J162)
                      · skip
                        refine ex_aload_n ok_X12_again (mi 263 rfl) rfl ?_
                        refine ex_bipush ok_X12_again (mi 264 rfl) ?_
                        refine ex_iload_n ok_X12_again (mi 265 rfl) rfl ?_
                        refine ex_aload_n ok_X12_again (mi 266 rfl) rfl ?_
                        refine ex_getRx ok_X12_again (mi 267 rfl) rfl rfl (fk (MI_s J162) 0 rfl) (fr (MI_s J162) 23 rfl) (fk (MI_s J162) 24 rfl) (by decide) ?_
                        refine ex_iload_n ok_X12_again (mi 268 rfl) rfl ?_
                        refine sm_iald ok_X12_again (mi 269 rfl) (fk (MI_s J162) 24 rfl) (fn (MI_s J162) 24 rfl) rfl (by omega) (by decide) ?_
                        refine ex_gen (fun w171 => ?_)
                        refine ex_aload_n ok_X12_again (mi 270 rfl) rfl ?_
                        refine ex_getRx ok_X12_again (mi 271 rfl) rfl rfl (fk (MI_s J162) 0 rfl) (fr (MI_s J162) 24 rfl) (fk (MI_s J162) 25 rfl) (by decide) ?_
                        refine ex_iload_n ok_X12_again (mi 272 rfl) rfl ?_
                        refine sm_iald ok_X12_again (mi 273 rfl) (fk (MI_s J162) 25 rfl) (fn (MI_s J162) 25 rfl) rfl (by omega) (by decide) ?_
                        refine ex_gen (fun w172 => ?_)
                        refine ex_iconst ok_X12_again (mi 274 rfl) ?_
                        refine ex_ixor ok_X12_again (mi 275 rfl) ?_
                        refine ex_gen (fun w173 => ?_)
                        refine ex_iand ok_X12_again (mi 276 rfl) ?_
                        refine ex_gen (fun w174 => ?_)
                        refine ex_aload_n ok_X12_again (mi 277 rfl) rfl ?_
                        refine ex_getRx ok_X12_again (mi 278 rfl) rfl rfl (fk (MI_s J162) 0 rfl) (fr (MI_s J162) 2 rfl) (fk (MI_s J162) 3 rfl) (by decide) ?_
                        refine ex_iload_n ok_X12_again (mi 279 rfl) rfl ?_
                        refine sm_iald ok_X12_again (mi 280 rfl) (fk (MI_s J162) 3 rfl) (fn (MI_s J162) 3 rfl) rfl (by omega) (by decide) ?_
                        obtain ⟨v175, hv175, ev175⟩ := vp_in_of (n := 300) (MI_rd J162 (i := a18) (by omega) (Or.inr rfl)) (by decide)
                        refine ex_top (w := nI v175) ev175 ?_
                        refine ex_iconst ok_X12_again (mi 281 rfl) ?_
                        refine ex_iconst ok_X12_again (mi 282 rfl) ?_
                        refine sm_V (As := [_, _, _, _, _, _]) ok_X12_again (mi 283 rfl) rfl (s_X12_layAll hst J162 (κ := 13) (by decide) (Or.inr (vp_in_nI (N := 3) (by omega) (by decide))) (TO12 rfl) (Or.inl rfl) (Or.inl rfl) (Or.inl rfl)) rfl (fk (MI_s J162) 0 rfl) rfl rfl (by decide) (by decide) (Nat.le_of_ble_eq_true rfl) (by decide) SM_no (fun z176 g178 p177 => ?_)
                        obtain ⟨u180, eu180, u180p, J179⟩ := p177
                        cases eu180
                        obtain ⟨v181, rfl⟩ := u180p
                        refine ex_goto (tgt := 459) ok_X12_again (mi 284 rfl) rfl ?_
                        exact ex_ls (ls' := [(0, .ref y), (1, .int (nI (a18))), (2, .int (nI 1)), (3, .int (nI (a18))), (4, .int w164), (5, .int (nI 16))]) ⟨rfl, rfl, rfl, rfl, rfl, rfl, trivial⟩ (j168 _ g178 J179)
                    refine ex_aload_n ok_X12_again (mi 222 rfl) rfl ?_
                    refine ex_getRx ok_X12_again (mi 223 rfl) rfl rfl (fk (MI_s J157) 0 rfl) (fr (MI_s J157) 19 rfl) (fk (MI_s J157) 20 rfl) (by decide) ?_
                    refine ex_iload_n ok_X12_again (mi 224 rfl) rfl ?_
                    refine sm_iald ok_X12_again (mi 225 rfl) (fk (MI_s J157) 20 rfl) (fn (MI_s J157) 20 rfl) rfl (by omega) (by decide) ?_
                    refine ex_gen (fun w182 => ?_)
                    refine ex_iconst ok_X12_again (mi 226 rfl) ?_
                    refine ex_icmp_ne (tgt := 409) ok_X12_again (mi 227 rfl) rfl (fun h368 => ?_) (fun h368 => ?_)
                    · skip
                      refine ex_iconst ok_X12_again (mi 253 rfl) ?_
                      exact ex_ls (ls' := [(0, .ref y), (1, .int (nI (a18))), (2, .int (nI 1)), (3, .int (nI (a18))), (4, .int w159), (5, .int (nI 16))]) ⟨rfl, rfl, rfl, rfl, rfl, rfl, trivial⟩ (j163 _ g156 J157)
                    · skip
                      refine ex_aload_n ok_X12_again (mi 228 rfl) rfl ?_
                      refine ex_bipush ok_X12_again (mi 229 rfl) ?_
                      refine ex_iload_n ok_X12_again (mi 230 rfl) rfl ?_
                      refine ex_aload_n ok_X12_again (mi 231 rfl) rfl ?_
                      refine ex_getRx ok_X12_again (mi 232 rfl) rfl rfl (fk (MI_s J157) 0 rfl) (fr (MI_s J157) 5 rfl) (fk (MI_s J157) 6 rfl) (by decide) ?_
                      refine ex_iload_n ok_X12_again (mi 233 rfl) rfl ?_
                      refine sm_iald ok_X12_again (mi 234 rfl) (fk (MI_s J157) 6 rfl) (fn (MI_s J157) 6 rfl) rfl (by omega) (by decide) ?_
                      obtain ⟨v183, hv183, ev183⟩ := vp_in_of (n := 512) (MI_bd J157 0 rfl (i := a18) (by omega)) (by decide)
                      refine ex_top (w := nI v183) ev183 ?_
                      refine ex_aload_n ok_X12_again (mi 235 rfl) rfl ?_
                      refine ex_getRx ok_X12_again (mi 236 rfl) rfl rfl (fk (MI_s J157) 0 rfl) (fr (MI_s J157) 22 rfl) (fk (MI_s J157) 23 rfl) (by decide) ?_
                      refine ex_iload_n ok_X12_again (mi 237 rfl) rfl ?_
                      refine sm_iald ok_X12_again (mi 238 rfl) (fk (MI_s J157) 23 rfl) (fn (MI_s J157) 23 rfl) rfl (by omega) (by decide) ?_
                      refine ex_gen (fun w184 => ?_)
                      refine ex_iconst ok_X12_again (mi 239 rfl) ?_
                      refine ex_ixor ok_X12_again (mi 240 rfl) ?_
                      refine ex_gen (fun w185 => ?_)
                      refine ex_iand ok_X12_again (mi 241 rfl) ?_
                      obtain ⟨v186, hv186, ev186⟩ := vp_in_of (n := 512) (and_vp (vp_in_nI (N := 512) (by omega) (by decide)) (by decide)) (by decide)
                      refine ex_top (w := nI v186) ev186 ?_
                      refine ex_aload_n ok_X12_again (mi 242 rfl) rfl ?_
                      refine ex_getRx ok_X12_again (mi 243 rfl) rfl rfl (fk (MI_s J157) 0 rfl) (fr (MI_s J157) 4 rfl) (fk (MI_s J157) 5 rfl) (by decide) ?_
                      refine ex_iload_n ok_X12_again (mi 244 rfl) rfl ?_
                      refine sm_iald ok_X12_again (mi 245 rfl) (fk (MI_s J157) 5 rfl) (fn (MI_s J157) 5 rfl) rfl (by omega) (by decide) ?_
                      refine ex_gen (fun w187 => ?_)
                      refine ex_aload_n ok_X12_again (mi 246 rfl) rfl ?_
                      refine ex_getRx ok_X12_again (mi 247 rfl) rfl rfl (fk (MI_s J157) 0 rfl) (fr (MI_s J157) 2 rfl) (fk (MI_s J157) 3 rfl) (by decide) ?_
                      refine ex_iload_n ok_X12_again (mi 248 rfl) rfl ?_
                      refine sm_iald ok_X12_again (mi 249 rfl) (fk (MI_s J157) 3 rfl) (fn (MI_s J157) 3 rfl) rfl (by omega) (by decide) ?_
                      obtain ⟨v188, hv188, ev188⟩ := vp_in_of (n := 300) (MI_rd J157 (i := a18) (by omega) (Or.inr rfl)) (by decide)
                      refine ex_top (w := nI v188) ev188 ?_
                      refine ex_iconst ok_X12_again (mi 250 rfl) ?_
                      refine sm_V (As := [_, _, _, _, _, _]) ok_X12_again (mi 251 rfl) rfl (s_X12_layAll hst J157 (κ := 11) (by decide) (Or.inr (vp_in_nI (N := 3) (by omega) (by decide))) (TO9 rfl (vp_in_nI (N := 512) (by omega) (by decide))) (Or.inl rfl) (Or.inr (vp_in_nI (N := 300) (by omega) (by decide))) (Or.inl rfl)) rfl (fk (MI_s J157) 0 rfl) rfl rfl (by decide) (by decide) (Nat.le_of_ble_eq_true rfl) (by decide) SM_no (fun z189 g191 p190 => ?_)
                      obtain ⟨u193, eu193, u193p, J192⟩ := p190
                      cases eu193
                      obtain ⟨v194, rfl⟩ := u193p
                      refine ex_goto (tgt := 410) ok_X12_again (mi 252 rfl) rfl ?_
                      exact ex_ls (ls' := [(0, .ref y), (1, .int (nI (a18))), (2, .int (nI 1)), (3, .int (nI (a18))), (4, .int w159), (5, .int (nI 16))]) ⟨rfl, rfl, rfl, rfl, rfl, rfl, trivial⟩ (j163 _ g191 J192)
                  refine ex_aload_n ok_X12_again (mi 187 rfl) rfl ?_
                  refine ex_getRx ok_X12_again (mi 188 rfl) rfl rfl (fk (MI_s J154) 0 rfl) (fr (MI_s J154) 19 rfl) (fk (MI_s J154) 20 rfl) (by decide) ?_
                  refine ex_iload_n ok_X12_again (mi 189 rfl) rfl ?_
                  refine sm_iald ok_X12_again (mi 190 rfl) (fk (MI_s J154) 20 rfl) (fn (MI_s J154) 20 rfl) rfl (by omega) (by decide) ?_
                  refine ex_gen (fun w195 => ?_)
                  refine ex_iconst ok_X12_again (mi 191 rfl) ?_
                  refine ex_icmp_ne (tgt := 355) ok_X12_again (mi 192 rfl) rfl (fun h314 => ?_) (fun h314 => ?_)
                  · skip
                    refine ex_iconst ok_X12_again (mi 218 rfl) ?_
                    exact ex_ls (ls' := [(0, .ref y), (1, .int (nI (a18))), (2, .int (nI 1)), (3, .int (nI (a18))), (4, .int q152), (5, .int (nI 16))]) ⟨rfl, rfl, rfl, rfl, rfl, rfl, trivial⟩ (j158 _ g153 J154)
                  · skip
                    refine ex_aload_n ok_X12_again (mi 193 rfl) rfl ?_
                    refine ex_bipush ok_X12_again (mi 194 rfl) ?_
                    refine ex_iload_n ok_X12_again (mi 195 rfl) rfl ?_
                    refine ex_aload_n ok_X12_again (mi 196 rfl) rfl ?_
                    refine ex_getRx ok_X12_again (mi 197 rfl) rfl rfl (fk (MI_s J154) 0 rfl) (fr (MI_s J154) 3 rfl) (fk (MI_s J154) 4 rfl) (by decide) ?_
                    refine ex_iload_n ok_X12_again (mi 198 rfl) rfl ?_
                    refine sm_iald ok_X12_again (mi 199 rfl) (fk (MI_s J154) 4 rfl) (fn (MI_s J154) 4 rfl) rfl (by omega) (by decide) ?_
                    refine ex_gen (fun w196 => ?_)
                    refine ex_aload_n ok_X12_again (mi 200 rfl) rfl ?_
                    refine ex_getRx ok_X12_again (mi 201 rfl) rfl rfl (fk (MI_s J154) 0 rfl) (fr (MI_s J154) 21 rfl) (fk (MI_s J154) 22 rfl) (by decide) ?_
                    refine ex_iload_n ok_X12_again (mi 202 rfl) rfl ?_
                    refine sm_iald ok_X12_again (mi 203 rfl) (fk (MI_s J154) 22 rfl) (fn (MI_s J154) 22 rfl) rfl (by omega) (by decide) ?_
                    refine ex_gen (fun w197 => ?_)
                    refine ex_iconst ok_X12_again (mi 204 rfl) ?_
                    refine ex_ixor ok_X12_again (mi 205 rfl) ?_
                    refine ex_gen (fun w198 => ?_)
                    refine ex_iand ok_X12_again (mi 206 rfl) ?_
                    refine ex_gen (fun w199 => ?_)
                    refine ex_aload_n ok_X12_again (mi 207 rfl) rfl ?_
                    refine ex_getRx ok_X12_again (mi 208 rfl) rfl rfl (fk (MI_s J154) 0 rfl) (fr (MI_s J154) 2 rfl) (fk (MI_s J154) 3 rfl) (by decide) ?_
                    refine ex_iload_n ok_X12_again (mi 209 rfl) rfl ?_
                    refine sm_iald ok_X12_again (mi 210 rfl) (fk (MI_s J154) 3 rfl) (fn (MI_s J154) 3 rfl) rfl (by omega) (by decide) ?_
                    obtain ⟨v200, hv200, ev200⟩ := vp_in_of (n := 300) (MI_rd J154 (i := a18) (by omega) (Or.inr rfl)) (by decide)
                    refine ex_top (w := nI v200) ev200 ?_
                    refine ex_aload_n ok_X12_again (mi 211 rfl) rfl ?_
                    refine ex_getRx ok_X12_again (mi 212 rfl) rfl rfl (fk (MI_s J154) 0 rfl) (fr (MI_s J154) 20 rfl) (fk (MI_s J154) 21 rfl) (by decide) ?_
                    refine ex_iload_n ok_X12_again (mi 213 rfl) rfl ?_
                    refine sm_iald ok_X12_again (mi 214 rfl) (fk (MI_s J154) 21 rfl) (fn (MI_s J154) 21 rfl) rfl (by omega) (by decide) ?_
                    obtain ⟨v201, hv201, ev201⟩ := vp_in_of (n := 17) (MI_bd J154 5 rfl (i := a18) (by omega)) (by decide)
                    refine ex_top (w := nI v201) ev201 ?_
                    refine ex_iconst ok_X12_again (mi 215 rfl) ?_
                    refine sm_V (As := [_, _, _, _, _, _]) ok_X12_again (mi 216 rfl) rfl (s_X12_layAll hst J154 (κ := 9) (by decide) (Or.inr (vp_in_nI (N := 3) (by omega) (by decide))) (TO12 rfl) (Or.inl rfl) (Or.inr (vp_in_nI (N := 17) (by omega) (by decide))) (Or.inl rfl)) rfl (fk (MI_s J154) 0 rfl) rfl rfl (by decide) (by decide) (Nat.le_of_ble_eq_true rfl) (by decide) SM_no (fun z202 g204 p203 => ?_)
                    obtain ⟨u206, eu206, u206p, J205⟩ := p203
                    cases eu206
                    obtain ⟨v207, rfl⟩ := u206p
                    refine ex_goto (tgt := 356) ok_X12_again (mi 217 rfl) rfl ?_
                    exact ex_ls (ls' := [(0, .ref y), (1, .int (nI (a18))), (2, .int (nI 1)), (3, .int (nI (a18))), (4, .int q152), (5, .int (nI 16))]) ⟨rfl, rfl, rfl, rfl, rfl, rfl, trivial⟩ (j158 _ g204 J205)
                | succ n177 ih177 =>
                  intro k177 he177 q152 g153 J154 
                  have hr177 : k177 < 16 := by omega
                  refine ex_iload ok_X12_again (mi 111 rfl) rfl ?_
                  refine ex_bipush ok_X12_again (mi 112 rfl) ?_
                  refine ex_icmp_ge (tgt := 305) ok_X12_again (mi 113 rfl) rfl (fun hn => absurd hn (nI_ge (b := 16) hr177 (by decide))) (fun _ => ?_)
                  refine ex_bipush ok_X12_again (mi 114 rfl) ?_
                  refine ex_iload_n ok_X12_again (mi 115 rfl) rfl ?_
                  refine ex_imul ok_X12_again (mi 116 rfl) ?_
                  refine ex_top (w := (nI (16 * a18))) (nI_mulc rfl) ?_
                  refine ex_iload ok_X12_again (mi 117 rfl) rfl ?_
                  refine ex_iadd ok_X12_again (mi 118 rfl) ?_
                  refine ex_top (w := (nI (16 * a18 + k177))) (nI_add _ _) ?_
                  refine ex_istore ok_X12_again (mi 119 rfl) ?_
                  refine ex_iload ok_X12_again (mi 120 rfl) rfl ?_
                  have j211 : ∀ (q208 : Int32) (g209 : GT), MI y D c (fun j => R j ∨ j = a18) g209 → ex_W G 3 0 0 M_X12_again 247 [(0, .ref y), (1, .int (nI (a18))), (2, .int (nI 1)), (3, .int (nI (a18))), (4, .int q152), (5, .int (nI (k177))), (6, .int (nI (16 * a18 + k177)))] [.int q208, .int q152] g209 (SM y D c R pI) := by
                    intro q208 g209 J210
                    refine ex_iadd ok_X12_again (mi 153 rfl) ?_
                    refine ex_gen (fun w212 => ?_)
                    refine ex_istore ok_X12_again (mi 154 rfl) ?_
                    refine ex_iload ok_X12_again (mi 155 rfl) rfl ?_
                    have j216 : ∀ (q213 : Int32) (g214 : GT), MI y D c (fun j => R j ∨ j = a18) g214 → ex_W G 3 0 0 M_X12_again 296 [(0, .ref y), (1, .int (nI (a18))), (2, .int (nI 1)), (3, .int (nI (a18))), (4, .int w212), (5, .int (nI (k177))), (6, .int (nI (16 * a18 + k177)))] [.int q213, .int w212] g214 (SM y D c R pI) := by
                      intro q213 g214 J215
                      refine ex_iadd ok_X12_again (mi 182 rfl) ?_
                      refine ex_gen (fun w217 => ?_)
                      refine ex_istore ok_X12_again (mi 183 rfl) ?_
                      refine ex_iincx (w := (nI (k177 + 1))) ok_X12_again (mi 184 rfl) rfl (nI_1 _) ?_
                      refine ex_goto (tgt := 177) ok_X12_again (mi 185 rfl) rfl ?_
                      exact ex_ls (ls' := [(0, .ref y), (1, .int (nI (a18))), (2, .int (nI 1)), (3, .int (nI (a18))), (4, .int w217), (5, .int (nI (k177 + 1)))]) ⟨rfl, rfl, rfl, rfl, rfl, rfl, trivial⟩ (ih177 (k177 + 1) (by omega) _ g214 J215 )
                    refine ex_aload_n ok_X12_again (mi 156 rfl) rfl ?_
                    refine ex_getRx ok_X12_again (mi 157 rfl) rfl rfl (fk (MI_s J210) 0 rfl) (fr (MI_s J210) 15 rfl) (fk (MI_s J210) 16 rfl) (by decide) ?_
                    refine ex_iload ok_X12_again (mi 158 rfl) rfl ?_
                    refine sm_iald ok_X12_again (mi 159 rfl) (fk (MI_s J210) 16 rfl) (fn (MI_s J210) 16 rfl) rfl (by omega) (by decide) ?_
                    refine ex_gen (fun w218 => ?_)
                    refine ex_iconst ok_X12_again (mi 160 rfl) ?_
                    refine ex_icmp_ne (tgt := 295) ok_X12_again (mi 161 rfl) rfl (fun h260 => ?_) (fun h260 => ?_)
                    · skip
                      refine ex_iconst ok_X12_again (mi 181 rfl) ?_
                      exact ex_ls (ls' := [(0, .ref y), (1, .int (nI (a18))), (2, .int (nI 1)), (3, .int (nI (a18))), (4, .int w212), (5, .int (nI (k177))), (6, .int (nI (16 * a18 + k177)))]) ⟨rfl, rfl, rfl, rfl, rfl, rfl, rfl, trivial⟩ (j216 _ g209 J210)
                    · skip
                      refine ex_aload_n ok_X12_again (mi 162 rfl) rfl ?_
                      refine ex_bipush ok_X12_again (mi 163 rfl) ?_
                      refine ex_iload_n ok_X12_again (mi 164 rfl) rfl ?_
                      refine ex_bipush ok_X12_again (mi 165 rfl) ?_
                      refine ex_aload_n ok_X12_again (mi 166 rfl) rfl ?_
                      refine ex_getRx ok_X12_again (mi 167 rfl) rfl rfl (fk (MI_s J210) 0 rfl) (fr (MI_s J210) 18 rfl) (fk (MI_s J210) 19 rfl) (by decide) ?_
                      refine ex_iload ok_X12_again (mi 168 rfl) rfl ?_
                      refine sm_iald ok_X12_again (mi 169 rfl) (fk (MI_s J210) 19 rfl) (fn (MI_s J210) 19 rfl) rfl (by omega) (by decide) ?_
                      refine ex_gen (fun w219 => ?_)
                      refine ex_iconst ok_X12_again (mi 170 rfl) ?_
                      refine ex_ixor ok_X12_again (mi 171 rfl) ?_
                      refine ex_gen (fun w220 => ?_)
                      refine ex_iand ok_X12_again (mi 172 rfl) ?_
                      obtain ⟨v221, hv221, ev221⟩ := vp_in_of (n := 8) (and_vp (pk_in 7 8 (by decide)) (by decide)) (by decide)
                      refine ex_top (w := nI v221) ev221 ?_
                      refine ex_iload ok_X12_again (mi 173 rfl) rfl ?_
                      refine ex_aload_n ok_X12_again (mi 174 rfl) rfl ?_
                      refine ex_getRx ok_X12_again (mi 175 rfl) rfl rfl (fk (MI_s J210) 0 rfl) (fr (MI_s J210) 16 rfl) (fk (MI_s J210) 17 rfl) (by decide) ?_
                      refine ex_iload ok_X12_again (mi 176 rfl) rfl ?_
                      refine sm_iald ok_X12_again (mi 177 rfl) (fk (MI_s J210) 17 rfl) (fn (MI_s J210) 17 rfl) rfl (by omega) (by decide) ?_
                      refine ex_gen (fun w222 => ?_)
                      refine ex_iconst ok_X12_again (mi 178 rfl) ?_
                      refine sm_V (As := [_, _, _, _, _, _]) ok_X12_again (mi 179 rfl) rfl (s_X12_layAll hst J210 (κ := 7) (by decide) (Or.inr (vp_in_nI (N := 3) (by omega) (by decide))) (TO3 rfl (vp_in_nI (N := 8) (by omega) (by decide))) (Or.inr (vp_in_nI (N := 16) (by omega) (by decide))) (Or.inl rfl) (Or.inl rfl)) rfl (fk (MI_s J210) 0 rfl) rfl rfl (by decide) (by decide) (Nat.le_of_ble_eq_true rfl) (by decide) SM_no (fun z223 g225 p224 => ?_)
                      obtain ⟨u227, eu227, u227p, J226⟩ := p224
                      cases eu227
                      obtain ⟨v228, rfl⟩ := u227p
                      refine ex_goto (tgt := 296) ok_X12_again (mi 180 rfl) rfl ?_
                      exact ex_ls (ls' := [(0, .ref y), (1, .int (nI (a18))), (2, .int (nI 1)), (3, .int (nI (a18))), (4, .int w212), (5, .int (nI (k177))), (6, .int (nI (16 * a18 + k177)))]) ⟨rfl, rfl, rfl, rfl, rfl, rfl, rfl, trivial⟩ (j216 _ g225 J226)
                  refine ex_aload_n ok_X12_again (mi 121 rfl) rfl ?_
                  refine ex_getRx ok_X12_again (mi 122 rfl) rfl rfl (fk (MI_s J154) 0 rfl) (fr (MI_s J154) 15 rfl) (fk (MI_s J154) 16 rfl) (by decide) ?_
                  refine ex_iload ok_X12_again (mi 123 rfl) rfl ?_
                  refine sm_iald ok_X12_again (mi 124 rfl) (fk (MI_s J154) 16 rfl) (fn (MI_s J154) 16 rfl) rfl (by omega) (by decide) ?_
                  refine ex_gen (fun w229 => ?_)
                  refine ex_iconst ok_X12_again (mi 125 rfl) ?_
                  refine ex_icmp_ne (tgt := 246) ok_X12_again (mi 126 rfl) rfl (fun h203 => ?_) (fun h203 => ?_)
                  · skip
                    refine ex_iconst ok_X12_again (mi 152 rfl) ?_
                    exact ex_ls (ls' := [(0, .ref y), (1, .int (nI (a18))), (2, .int (nI 1)), (3, .int (nI (a18))), (4, .int q152), (5, .int (nI (k177))), (6, .int (nI (16 * a18 + k177)))]) ⟨rfl, rfl, rfl, rfl, rfl, rfl, rfl, trivial⟩ (j211 _ g153 J154)
                  · skip
                    refine ex_aload_n ok_X12_again (mi 127 rfl) rfl ?_
                    refine ex_iconst ok_X12_again (mi 128 rfl) ?_
                    refine ex_iload_n ok_X12_again (mi 129 rfl) rfl ?_
                    refine ex_aload_n ok_X12_again (mi 130 rfl) rfl ?_
                    refine ex_getRx ok_X12_again (mi 131 rfl) rfl rfl (fk (MI_s J154) 0 rfl) (fr (MI_s J154) 3 rfl) (fk (MI_s J154) 4 rfl) (by decide) ?_
                    refine ex_iload_n ok_X12_again (mi 132 rfl) rfl ?_
                    refine sm_iald ok_X12_again (mi 133 rfl) (fk (MI_s J154) 4 rfl) (fn (MI_s J154) 4 rfl) rfl (by omega) (by decide) ?_
                    refine ex_gen (fun w230 => ?_)
                    refine ex_aload_n ok_X12_again (mi 134 rfl) rfl ?_
                    refine ex_getRx ok_X12_again (mi 135 rfl) rfl rfl (fk (MI_s J154) 0 rfl) (fr (MI_s J154) 17 rfl) (fk (MI_s J154) 18 rfl) (by decide) ?_
                    refine ex_iload ok_X12_again (mi 136 rfl) rfl ?_
                    refine sm_iald ok_X12_again (mi 137 rfl) (fk (MI_s J154) 18 rfl) (fn (MI_s J154) 18 rfl) rfl (by omega) (by decide) ?_
                    refine ex_gen (fun w231 => ?_)
                    refine ex_iconst ok_X12_again (mi 138 rfl) ?_
                    refine ex_ixor ok_X12_again (mi 139 rfl) ?_
                    refine ex_gen (fun w232 => ?_)
                    refine ex_iand ok_X12_again (mi 140 rfl) ?_
                    refine ex_gen (fun w233 => ?_)
                    refine ex_aload_n ok_X12_again (mi 141 rfl) rfl ?_
                    refine ex_getRx ok_X12_again (mi 142 rfl) rfl rfl (fk (MI_s J154) 0 rfl) (fr (MI_s J154) 2 rfl) (fk (MI_s J154) 3 rfl) (by decide) ?_
                    refine ex_iload_n ok_X12_again (mi 143 rfl) rfl ?_
                    refine sm_iald ok_X12_again (mi 144 rfl) (fk (MI_s J154) 3 rfl) (fn (MI_s J154) 3 rfl) rfl (by omega) (by decide) ?_
                    obtain ⟨v234, hv234, ev234⟩ := vp_in_of (n := 300) (MI_rd J154 (i := a18) (by omega) (Or.inr rfl)) (by decide)
                    refine ex_top (w := nI v234) ev234 ?_
                    refine ex_iload ok_X12_again (mi 145 rfl) rfl ?_
                    refine ex_aload_n ok_X12_again (mi 146 rfl) rfl ?_
                    refine ex_getRx ok_X12_again (mi 147 rfl) rfl rfl (fk (MI_s J154) 0 rfl) (fr (MI_s J154) 16 rfl) (fk (MI_s J154) 17 rfl) (by decide) ?_
                    refine ex_iload ok_X12_again (mi 148 rfl) rfl ?_
                    refine sm_iald ok_X12_again (mi 149 rfl) (fk (MI_s J154) 17 rfl) (fn (MI_s J154) 17 rfl) rfl (by omega) (by decide) ?_
                    refine ex_gen (fun w235 => ?_)
                    refine sm_V (As := [_, _, _, _, _, _]) ok_X12_again (mi 150 rfl) rfl (s_X12_layAll hst J154 (κ := 5) (by decide) (Or.inr (vp_in_nI (N := 3) (by omega) (by decide))) (TO12 rfl) (Or.inr (vp_in_nI (N := 300) (by omega) (by decide))) (Or.inr (vp_in_nI (N := 16) (by omega) (by decide))) (Or.inl rfl)) rfl (fk (MI_s J154) 0 rfl) rfl rfl (by decide) (by decide) (Nat.le_of_ble_eq_true rfl) (by decide) SM_no (fun z236 g238 p237 => ?_)
                    obtain ⟨u240, eu240, u240p, J239⟩ := p237
                    cases eu240
                    obtain ⟨v241, rfl⟩ := u240p
                    refine ex_goto (tgt := 247) ok_X12_again (mi 151 rfl) rfl ?_
                    exact ex_ls (ls' := [(0, .ref y), (1, .int (nI (a18))), (2, .int (nI 1)), (3, .int (nI (a18))), (4, .int q152), (5, .int (nI (k177))), (6, .int (nI (16 * a18 + k177)))]) ⟨rfl, rfl, rfl, rfl, rfl, rfl, rfl, trivial⟩ (j211 _ g238 J239)
              exact ex_ls (ls' := [(0, .ref y), (1, .int (nI (a18))), (2, .int (nI 1)), (3, .int (nI (a18))), (4, .int (nI 0)), (5, .int (nI 0))]) ⟨rfl, rfl, rfl, rfl, rfl, rfl, trivial⟩ (lp177 (16 - 0) (0) (by omega) _ (px_I g 1200 y v37) J151 )
          · skip
            have J242 := MI_Ra (l := a18) J39 (by rw [h125]; decide)
            refine ex_iload ok_X12_again (mi 79 rfl) rfl ?_
            refine ex_aload_n ok_X12_again (mi 80 rfl) rfl ?_
            refine ex_iconst ok_X12_again (mi 81 rfl) ?_
            refine ex_iload_n ok_X12_again (mi 82 rfl) rfl ?_
            refine ex_aload_n ok_X12_again (mi 83 rfl) rfl ?_
            refine ex_iload_n ok_X12_again (mi 84 rfl) rfl ?_
            refine sf_Vp (As := [_]) ok_X12_again (mi 85 rfl) rfl (s_X12_votersOfHistory hst (MI_s J242) (vp_in_nI (N := 3) (by omega) (by decide))) rfl (fk (MI_s J242) 0 rfl) rfl rfl (by decide) (by decide) (Nat.le_of_ble_eq_true rfl) (by decide) (fun z243 p244 => ?_)
            obtain ⟨v247, rfl⟩ := p244
            refine ex_aload_n ok_X12_again (mi 86 rfl) rfl ?_
            refine ex_getRx ok_X12_again (mi 87 rfl) rfl rfl (fk (MI_s J242) 0 rfl) (fr (MI_s J242) 9 rfl) (fk (MI_s J242) 10 rfl) (by decide) ?_
            refine ex_iload_n ok_X12_again (mi 88 rfl) rfl ?_
            refine sm_iald ok_X12_again (mi 89 rfl) (fk (MI_s J242) 10 rfl) (fn (MI_s J242) 10 rfl) rfl (by omega) (by decide) ?_
            refine ex_gen (fun w248 => ?_)
            refine ex_iconst ok_X12_again (mi 90 rfl) ?_
            refine ex_ixor ok_X12_again (mi 91 rfl) ?_
            refine ex_gen (fun w249 => ?_)
            refine ex_iand ok_X12_again (mi 92 rfl) ?_
            refine ex_gen (fun w250 => ?_)
            refine ex_aload_n ok_X12_again (mi 93 rfl) rfl ?_
            refine ex_getRx ok_X12_again (mi 94 rfl) rfl rfl (fk (MI_s J242) 0 rfl) (fr (MI_s J242) 2 rfl) (fk (MI_s J242) 3 rfl) (by decide) ?_
            refine ex_iload_n ok_X12_again (mi 95 rfl) rfl ?_
            refine sm_iald ok_X12_again (mi 96 rfl) (fk (MI_s J242) 3 rfl) (fn (MI_s J242) 3 rfl) rfl (by omega) (by decide) ?_
            obtain ⟨v251, hv251, ev251⟩ := vp_in_of (n := 300) (MI_rd J242 (i := a18) (by omega) (Or.inr rfl)) (by decide)
            refine ex_top (w := nI v251) ev251 ?_
            refine ex_iconst ok_X12_again (mi 97 rfl) ?_
            refine ex_iconst ok_X12_again (mi 98 rfl) ?_
            refine sm_V (As := [_, _, _, _, _, _]) ok_X12_again (mi 99 rfl) rfl (s_X12_layAll hst J242 (κ := 3) (by decide) (Or.inr (vp_in_nI (N := 3) (by omega) (by decide))) (TO12 rfl) (Or.inl rfl) (Or.inl rfl) (Or.inl rfl)) rfl (fk (MI_s J242) 0 rfl) rfl rfl (by decide) (by decide) (Nat.le_of_ble_eq_true rfl) (by decide) SM_no (fun z252 g254 p253 => ?_)
            obtain ⟨u256, eu256, u256p, J255⟩ := p253
            cases eu256
            obtain ⟨v257, rfl⟩ := u256p
            refine ex_iadd ok_X12_again (mi 100 rfl) ?_
            refine ex_gen (fun w258 => ?_)
            refine ex_istore ok_X12_again (mi 101 rfl) ?_
            refine ex_goto (tgt := 462) ok_X12_again (mi 102 rfl) rfl ?_
            exact ex_ls (ls' := [(0, .ref y), (1, .int (nI (a18))), (2, .int (nI 1)), (3, .int (nI (a18))), (4, .int w258)]) ⟨rfl, rfl, rfl, rfl, rfl, trivial⟩ (j44 _ g254 (MI_Rw J255 (fun l k => (Or.inl k))))
        · skip
          have J259 := MI_Ra (l := a18) J39 (by rw [h68]; decide)
          refine ex_iload ok_X12_again (mi 42 rfl) rfl ?_
          refine ex_aload_n ok_X12_again (mi 43 rfl) rfl ?_
          refine ex_iconst ok_X12_again (mi 44 rfl) ?_
          refine ex_iload_n ok_X12_again (mi 45 rfl) rfl ?_
          refine ex_aload_n ok_X12_again (mi 46 rfl) rfl ?_
          refine ex_getRx ok_X12_again (mi 47 rfl) rfl rfl (fk (MI_s J259) 0 rfl) (fr (MI_s J259) 5 rfl) (fk (MI_s J259) 6 rfl) (by decide) ?_
          refine ex_iload_n ok_X12_again (mi 48 rfl) rfl ?_
          refine sm_iald ok_X12_again (mi 49 rfl) (fk (MI_s J259) 6 rfl) (fn (MI_s J259) 6 rfl) rfl (by omega) (by decide) ?_
          obtain ⟨v260, hv260, ev260⟩ := vp_in_of (n := 512) (MI_bd J259 0 rfl (i := a18) (by omega)) (by decide)
          refine ex_top (w := nI v260) ev260 ?_
          refine ex_aload_n ok_X12_again (mi 50 rfl) rfl ?_
          refine ex_getRx ok_X12_again (mi 51 rfl) rfl rfl (fk (MI_s J259) 0 rfl) (fr (MI_s J259) 6 rfl) (fk (MI_s J259) 7 rfl) (by decide) ?_
          refine ex_iload_n ok_X12_again (mi 52 rfl) rfl ?_
          refine sm_iald ok_X12_again (mi 53 rfl) (fk (MI_s J259) 7 rfl) (fn (MI_s J259) 7 rfl) rfl (by omega) (by decide) ?_
          refine ex_gen (fun w261 => ?_)
          refine ex_iconst ok_X12_again (mi 54 rfl) ?_
          refine ex_ixor ok_X12_again (mi 55 rfl) ?_
          refine ex_gen (fun w262 => ?_)
          refine ex_iand ok_X12_again (mi 56 rfl) ?_
          obtain ⟨v263, hv263, ev263⟩ := vp_in_of (n := 512) (and_vp (vp_in_nI (N := 512) (by omega) (by decide)) (by decide)) (by decide)
          refine ex_top (w := nI v263) ev263 ?_
          refine ex_aload_n ok_X12_again (mi 57 rfl) rfl ?_
          refine ex_getRx ok_X12_again (mi 58 rfl) rfl rfl (fk (MI_s J259) 0 rfl) (fr (MI_s J259) 4 rfl) (fk (MI_s J259) 5 rfl) (by decide) ?_
          refine ex_iload_n ok_X12_again (mi 59 rfl) rfl ?_
          refine sm_iald ok_X12_again (mi 60 rfl) (fk (MI_s J259) 5 rfl) (fn (MI_s J259) 5 rfl) rfl (by omega) (by decide) ?_
          refine ex_gen (fun w264 => ?_)
          refine ex_aload_n ok_X12_again (mi 61 rfl) rfl ?_
          refine ex_getRx ok_X12_again (mi 62 rfl) rfl rfl (fk (MI_s J259) 0 rfl) (fr (MI_s J259) 2 rfl) (fk (MI_s J259) 3 rfl) (by decide) ?_
          refine ex_iload_n ok_X12_again (mi 63 rfl) rfl ?_
          refine sm_iald ok_X12_again (mi 64 rfl) (fk (MI_s J259) 3 rfl) (fn (MI_s J259) 3 rfl) rfl (by omega) (by decide) ?_
          obtain ⟨v265, hv265, ev265⟩ := vp_in_of (n := 300) (MI_rd J259 (i := a18) (by omega) (Or.inr rfl)) (by decide)
          refine ex_top (w := nI v265) ev265 ?_
          refine ex_aload_n ok_X12_again (mi 65 rfl) rfl ?_
          refine ex_getRx ok_X12_again (mi 66 rfl) rfl rfl (fk (MI_s J259) 0 rfl) (fr (MI_s J259) 3 rfl) (fk (MI_s J259) 4 rfl) (by decide) ?_
          refine ex_iload_n ok_X12_again (mi 67 rfl) rfl ?_
          refine sm_iald ok_X12_again (mi 68 rfl) (fk (MI_s J259) 4 rfl) (fn (MI_s J259) 4 rfl) rfl (by omega) (by decide) ?_
          refine ex_gen (fun w266 => ?_)
          refine sm_V (As := [_, _, _, _, _, _]) ok_X12_again (mi 69 rfl) rfl (s_X12_layAll hst J259 (κ := 1) (by decide) (Or.inr (vp_in_nI (N := 3) (by omega) (by decide))) (TO9 rfl (vp_in_nI (N := 512) (by omega) (by decide))) (Or.inl rfl) (Or.inr (vp_in_nI (N := 300) (by omega) (by decide))) (Or.inl rfl)) rfl (fk (MI_s J259) 0 rfl) rfl rfl (by decide) (by decide) (Nat.le_of_ble_eq_true rfl) (by decide) SM_no (fun z267 g269 p268 => ?_)
          obtain ⟨u271, eu271, u271p, J270⟩ := p268
          cases eu271
          obtain ⟨v272, rfl⟩ := u271p
          refine ex_iadd ok_X12_again (mi 70 rfl) ?_
          refine ex_gen (fun w273 => ?_)
          refine ex_istore ok_X12_again (mi 71 rfl) ?_
          refine ex_goto (tgt := 462) ok_X12_again (mi 72 rfl) rfl ?_
          exact ex_ls (ls' := [(0, .ref y), (1, .int (nI (a18))), (2, .int (nI 1)), (3, .int (nI (a18))), (4, .int w273)]) ⟨rfl, rfl, rfl, rfl, rfl, trivial⟩ (j44 _ g269 (MI_Rw J270 (fun l k => (Or.inl k))))
      · skip
        refine ex_aload_n ok_X12_again (mi 20 rfl) rfl ?_
        refine ex_aload_n ok_X12_again (mi 21 rfl) rfl ?_
        refine ex_getI ok_X12_again (mi 22 rfl) rfl rfl (fk (MI_s J39) 0 rfl) ?_
        refine ex_gen (fun w274 => ?_)
        refine ex_iconst ok_X12_again (mi 23 rfl) ?_
        refine ex_icmp_ne (tgt := 47) ok_X12_again (mi 24 rfl) rfl (fun h40 => ?_) (fun h40 => ?_)
        · skip
          refine ex_aload_n ok_X12_again (mi 27 rfl) rfl ?_
          refine ex_getI ok_X12_again (mi 28 rfl) rfl rfl (fk (MI_s J39) 0 rfl) ?_
          refine ex_gen (fun w275 => ?_)
          refine mf_putI J39 ok_X12_again (mi 29 rfl) rfl rfl (fk (MI_s J39) 0 rfl) (by decide) (by decide) (fun g276 J277 K278 => ?_)
          refine ex_iconst ok_X12_again (mi 30 rfl) ?_
          refine ex_iret ok_X12_again (mi 31 rfl) rfl ?_
          exact ⟨_, rfl, ⟨_, rfl⟩, J277⟩
        · skip
          refine ex_iconst ok_X12_again (mi 25 rfl) ?_
          refine ex_goto (tgt := 51) ok_X12_again (mi 26 rfl) rfl ?_
          refine mf_putI J39 ok_X12_again (mi 29 rfl) rfl rfl (fk (MI_s J39) 0 rfl) (by decide) (by decide) (fun g279 J280 K281 => ?_)
          refine ex_iconst ok_X12_again (mi 30 rfl) ?_
          refine ex_iret ok_X12_again (mi 31 rfl) rfl ?_
          exact ⟨_, rfl, ⟨_, rfl⟩, J280⟩
