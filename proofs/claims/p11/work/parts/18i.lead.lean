theorem s_X12_offer {G : GE} (hst : (ge_l G).stackTraces = false) {y c : Nat} {D : UT} {R : Nat → Prop} {g : GT} (I : MI y D c R g) {a0 : Nat} (ha0 : a0 < 3) {a1 : Nat} (ha1 : a1 < 16) {p2 : Int32} (hR : R a0) : ex_M G 3 0 0 my_X12_offer [.ref y, .int (nI (a0)), .int (nI (a1)), .int p2] g (SM y D c R pN) := by
  refine ex_M_of ok_X12_offer cw_X12_offer rfl hst (Nat.le_of_ble_eq_true rfl) ?_
  refine ex_aload_n ok_X12_offer (mi 0 rfl) rfl ?_
  refine ex_getRx ok_X12_offer (mi 1 rfl) rfl rfl (fk (MI_s I) 0 rfl) (fr (MI_s I) 15 rfl) (fk (MI_s I) 16 rfl) (by decide) ?_
  refine ex_bipush ok_X12_offer (mi 2 rfl) ?_
  refine ex_iload_n ok_X12_offer (mi 3 rfl) rfl ?_
  refine ex_imul ok_X12_offer (mi 4 rfl) ?_
  refine ex_top (w := (nI (16 * a0))) (nI_mulc rfl) ?_
  refine ex_iload_n ok_X12_offer (mi 5 rfl) rfl ?_
  refine ex_iadd ok_X12_offer (mi 6 rfl) ?_
  refine ex_top (w := (nI (16 * a0 + a1))) (nI_add _ _) ?_
  refine ex_iconst ok_X12_offer (mi 7 rfl) ?_
  refine mf_A I ok_X12_offer (mi 8 rfl) (fk (MI_s I) 16 rfl) (fn (MI_s I) 16 rfl) rfl (by omega) (by decide) (by decide) (by decide) (by decide) (fun g1 J2 K3 => ?_)
  refine ex_aload_n ok_X12_offer (mi 9 rfl) rfl ?_
  refine ex_getRx ok_X12_offer (mi 10 rfl) rfl rfl (fk (MI_s J2) 0 rfl) (fr (MI_s J2) 16 rfl) (fk (MI_s J2) 17 rfl) (by decide) ?_
  refine ex_bipush ok_X12_offer (mi 11 rfl) ?_
  refine ex_iload_n ok_X12_offer (mi 12 rfl) rfl ?_
  refine ex_imul ok_X12_offer (mi 13 rfl) ?_
  refine ex_top (w := (nI (16 * a0))) (nI_mulc rfl) ?_
  refine ex_iload_n ok_X12_offer (mi 14 rfl) rfl ?_
  refine ex_iadd ok_X12_offer (mi 15 rfl) ?_
  refine ex_top (w := (nI (16 * a0 + a1))) (nI_add _ _) ?_
  refine ex_iload_n ok_X12_offer (mi 16 rfl) rfl ?_
  refine mf_A J2 ok_X12_offer (mi 17 rfl) (fk (MI_s J2) 17 rfl) (fn (MI_s J2) 17 rfl) rfl (by omega) (by decide) (by decide) (by decide) (by decide) (fun g4 J5 K6 => ?_)
  refine ex_aload_n ok_X12_offer (mi 18 rfl) rfl ?_
  refine ex_iconst ok_X12_offer (mi 19 rfl) ?_
  refine ex_iload_n ok_X12_offer (mi 20 rfl) rfl ?_
  refine ex_aload_n ok_X12_offer (mi 21 rfl) rfl ?_
  refine ex_getRx ok_X12_offer (mi 22 rfl) rfl rfl (fk (MI_s J5) 0 rfl) (fr (MI_s J5) 3 rfl) (fk (MI_s J5) 4 rfl) (by decide) ?_
  refine ex_iload_n ok_X12_offer (mi 23 rfl) rfl ?_
  refine sm_iald ok_X12_offer (mi 24 rfl) (fk (MI_s J5) 4 rfl) (fn (MI_s J5) 4 rfl) rfl (by omega) (by decide) ?_
  refine ex_gen (fun w7 => ?_)
  refine ex_aload_n ok_X12_offer (mi 25 rfl) rfl ?_
  refine ex_getRx ok_X12_offer (mi 26 rfl) rfl rfl (fk (MI_s J5) 0 rfl) (fr (MI_s J5) 2 rfl) (fk (MI_s J5) 3 rfl) (by decide) ?_
  refine ex_iload_n ok_X12_offer (mi 27 rfl) rfl ?_
  refine sm_iald ok_X12_offer (mi 28 rfl) (fk (MI_s J5) 3 rfl) (fn (MI_s J5) 3 rfl) rfl (by omega) (by decide) ?_
  obtain ⟨v8, hv8, ev8⟩ := vp_in_of (n := 300) (MI_rd J5 (i := a0) (by omega) hR) (by decide)
  refine ex_top (w := nI v8) ev8 ?_
  refine ex_iload_n ok_X12_offer (mi 29 rfl) rfl ?_
  refine ex_iload_n ok_X12_offer (mi 30 rfl) rfl ?_
  refine sm_V (As := [_, _, _, _, _, _]) ok_X12_offer (mi 31 rfl) rfl (s_X12_layAll hst J5 (κ := 5) (by decide) (Or.inr (vp_in_nI (N := 3) (by omega) (by decide))) (TO12 rfl) (Or.inr (vp_in_nI (N := 300) (by omega) (by decide))) (Or.inr (vp_in_nI (N := 16) (by omega) (by decide))) (Or.inl rfl)) rfl (fk (MI_s J5) 0 rfl) rfl rfl (by decide) (by decide) (Nat.le_of_ble_eq_true rfl) (by decide) SM_no (fun z9 g11 p10 => ?_)
  obtain ⟨u13, eu13, u13p, J12⟩ := p10
  cases eu13
  obtain ⟨v14, rfl⟩ := u13p
  refine ex_istore ok_X12_offer (mi 32 rfl) ?_
  refine ex_vret ok_X12_offer (mi 33 rfl) rfl ?_
  exact ⟨_, rfl, rfl, J12⟩
