theorem s_X12_toKeeper_1 {G : GE} (hst : (ge_l G).stackTraces = false) {y c : Nat} {D : UT} {R : Nat → Prop} {g : GT} (I : MI y D c R g) {a0 : Nat} (ha0 : a0 < 9) {a1 : Nat} (ha1 : a1 < 402) {m : Nat} (hmk : MK y g a1 1 m) : ex_M G 4 0 0 my_X12_toKeeper [.ref y, .int (nI (a0)), .int (nI (a1))] g (SM y D c R pN) := by
  refine ex_M_of ok_X12_toKeeper cw_X12_toKeeper rfl hst (Nat.le_of_ble_eq_true rfl) ?_
  have hm3 : m < 301 := hmk.2.2.2.2.2.2.2.1
  refine ex_aload_n ok_X12_toKeeper (mi 0 rfl) rfl ?_
  refine ex_getRx ok_X12_toKeeper (mi 1 rfl) rfl rfl (fk (MI_s I) 0 rfl) (fr (MI_s I) 50 rfl) (fk (MI_s I) 51 rfl) (by decide) ?_
  refine ex_iload_n ok_X12_toKeeper (mi 2 rfl) rfl ?_
  refine sm_iald ok_X12_toKeeper (mi 3 rfl) (fk (MI_s I) 51 rfl) (fn (MI_s I) 51 rfl) rfl (by omega) (by decide) ?_
  obtain ⟨v1, hv1, ev1⟩ := vp_in_of (n := 3) (vb_in hmk.2.2.1 (by decide)) (by decide)
  refine ex_top (w := nI v1) ev1 ?_
  refine ex_istore_n ok_X12_toKeeper (mi 4 rfl) ?_
  refine ex_aload_n ok_X12_toKeeper (mi 5 rfl) rfl ?_
  refine ex_getRx ok_X12_toKeeper (mi 6 rfl) rfl rfl (fk (MI_s I) 0 rfl) (fr (MI_s I) 52 rfl) (fk (MI_s I) 53 rfl) (by decide) ?_
  refine ex_iconst ok_X12_toKeeper (mi 7 rfl) ?_
  refine ex_iload_n ok_X12_toKeeper (mi 8 rfl) rfl ?_
  refine ex_imul ok_X12_toKeeper (mi 9 rfl) ?_
  refine ex_top (w := (nI (3 * a1))) (nI_mulc rfl) ?_
  refine sm_iald ok_X12_toKeeper (mi 10 rfl) (fk (MI_s I) 53 rfl) (fn (MI_s I) 53 rfl) rfl (by omega) (by decide) ?_
  refine ex_gen (fun w2 => ?_)
  refine ex_istore ok_X12_toKeeper (mi 11 rfl) ?_
  refine ex_aload_n ok_X12_toKeeper (mi 12 rfl) rfl ?_
  refine ex_getRx ok_X12_toKeeper (mi 13 rfl) rfl rfl (fk (MI_s I) 0 rfl) (fr (MI_s I) 52 rfl) (fk (MI_s I) 53 rfl) (by decide) ?_
  refine ex_iconst ok_X12_toKeeper (mi 14 rfl) ?_
  refine ex_iload_n ok_X12_toKeeper (mi 15 rfl) rfl ?_
  refine ex_imul ok_X12_toKeeper (mi 16 rfl) ?_
  refine ex_top (w := (nI (3 * a1))) (nI_mulc rfl) ?_
  refine ex_iconst ok_X12_toKeeper (mi 17 rfl) ?_
  refine ex_iadd ok_X12_toKeeper (mi 18 rfl) ?_
  refine ex_top (w := (nI (3 * a1 + 1))) (nI_add _ 1) ?_
  refine sm_iald ok_X12_toKeeper (mi 19 rfl) (fk (MI_s I) 53 rfl) (fn (MI_s I) 53 rfl) rfl (by omega) (by decide) ?_
  obtain ⟨v3, hv3, ev3⟩ := vp_in_of (n := 300) (vb_in hmk.2.2.2.2.1 (by decide)) (by decide)
  refine ex_top (w := nI v3) ev3 ?_
  refine ex_istore ok_X12_toKeeper (mi 20 rfl) ?_
  refine ex_aload_n ok_X12_toKeeper (mi 21 rfl) rfl ?_
  refine ex_getRx ok_X12_toKeeper (mi 22 rfl) rfl rfl (fk (MI_s I) 0 rfl) (fr (MI_s I) 52 rfl) (fk (MI_s I) 53 rfl) (by decide) ?_
  refine ex_iconst ok_X12_toKeeper (mi 23 rfl) ?_
  refine ex_iload_n ok_X12_toKeeper (mi 24 rfl) rfl ?_
  refine ex_imul ok_X12_toKeeper (mi 25 rfl) ?_
  refine ex_top (w := (nI (3 * a1))) (nI_mulc rfl) ?_
  refine ex_iconst ok_X12_toKeeper (mi 26 rfl) ?_
  refine ex_iadd ok_X12_toKeeper (mi 27 rfl) ?_
  refine ex_top (w := (nI (3 * a1 + 2))) (nI_add _ 2) ?_
  refine sm_iald ok_X12_toKeeper (mi 28 rfl) (fk (MI_s I) 53 rfl) (fn (MI_s I) 53 rfl) rfl (by omega) (by decide) ?_
  refine ex_gen (fun w4 => ?_)
  refine ex_istore ok_X12_toKeeper (mi 29 rfl) ?_
  refine ex_aload_n ok_X12_toKeeper (mi 30 rfl) rfl ?_
  refine ex_getRx ok_X12_toKeeper (mi 31 rfl) rfl rfl (fk (MI_s I) 0 rfl) (fr (MI_s I) 49 rfl) (fk (MI_s I) 50 rfl) (by decide) ?_
  refine ex_iload_n ok_X12_toKeeper (mi 32 rfl) rfl ?_
  refine sm_iald ok_X12_toKeeper (mi 33 rfl) (fk (MI_s I) 50 rfl) (fn (MI_s I) 50 rfl) rfl (by omega) (by decide) ?_
  refine ex_top (w := nI 1) hmk.1 ?_
  refine ex_lookup (tgt := 96) ok_X12_toKeeper (mi 34 rfl) (by decide) (by decide) ?_
  refine ex_aload_n ok_X12_toKeeper (mi 35 rfl) rfl ?_
  refine ex_iload_n ok_X12_toKeeper (mi 36 rfl) rfl ?_
  refine ex_iload_n ok_X12_toKeeper (mi 37 rfl) rfl ?_
  refine ex_iload ok_X12_toKeeper (mi 38 rfl) rfl ?_
  refine ex_iload ok_X12_toKeeper (mi 39 rfl) rfl ?_
  refine ex_iload ok_X12_toKeeper (mi 40 rfl) rfl ?_
  refine sm_V (As := [_, _, _, _, _]) ok_X12_toKeeper (mi 41 rfl) rfl (s_X12_match hst I (by omega) (by omega) (by omega)) rfl (fk (MI_s I) 0 rfl) rfl rfl (by decide) (by decide) (Nat.le_of_ble_eq_true rfl) (by decide) SM_no (fun z5 g7 p6 => ?_)
  obtain ⟨u9, eu9, u9p, J8⟩ := p6
  cases eu9
  obtain rfl : z5 = none := u9p
  refine ex_goto (tgt := 170) ok_X12_toKeeper (mi 42 rfl) rfl ?_
  refine ex_vret ok_X12_toKeeper (mi 75 rfl) rfl ?_
  exact ⟨_, rfl, rfl, J8⟩
theorem s_X12_toKeeper_11 {G : GE} (hst : (ge_l G).stackTraces = false) {y c : Nat} {D : UT} {R : Nat → Prop} {g : GT} (I : MI y D c R g) {a0 : Nat} (ha0 : a0 < 9) {a1 : Nat} (ha1 : a1 < 402) {m : Nat} (hmk : MK y g a1 11 m) : ex_M G 4 0 0 my_X12_toKeeper [.ref y, .int (nI (a0)), .int (nI (a1))] g (SM y D c R pN) := by
  refine ex_M_of ok_X12_toKeeper cw_X12_toKeeper rfl hst (Nat.le_of_ble_eq_true rfl) ?_
  have hm3 : m < 301 := hmk.2.2.2.2.2.2.2.1
  refine ex_aload_n ok_X12_toKeeper (mi 0 rfl) rfl ?_
  refine ex_getRx ok_X12_toKeeper (mi 1 rfl) rfl rfl (fk (MI_s I) 0 rfl) (fr (MI_s I) 50 rfl) (fk (MI_s I) 51 rfl) (by decide) ?_
  refine ex_iload_n ok_X12_toKeeper (mi 2 rfl) rfl ?_
  refine sm_iald ok_X12_toKeeper (mi 3 rfl) (fk (MI_s I) 51 rfl) (fn (MI_s I) 51 rfl) rfl (by omega) (by decide) ?_
  obtain ⟨v1, hv1, ev1⟩ := vp_in_of (n := 3) (vb_in hmk.2.2.1 (by decide)) (by decide)
  refine ex_top (w := nI v1) ev1 ?_
  refine ex_istore_n ok_X12_toKeeper (mi 4 rfl) ?_
  refine ex_aload_n ok_X12_toKeeper (mi 5 rfl) rfl ?_
  refine ex_getRx ok_X12_toKeeper (mi 6 rfl) rfl rfl (fk (MI_s I) 0 rfl) (fr (MI_s I) 52 rfl) (fk (MI_s I) 53 rfl) (by decide) ?_
  refine ex_iconst ok_X12_toKeeper (mi 7 rfl) ?_
  refine ex_iload_n ok_X12_toKeeper (mi 8 rfl) rfl ?_
  refine ex_imul ok_X12_toKeeper (mi 9 rfl) ?_
  refine ex_top (w := (nI (3 * a1))) (nI_mulc rfl) ?_
  refine sm_iald ok_X12_toKeeper (mi 10 rfl) (fk (MI_s I) 53 rfl) (fn (MI_s I) 53 rfl) rfl (by omega) (by decide) ?_
  refine ex_gen (fun w2 => ?_)
  refine ex_istore ok_X12_toKeeper (mi 11 rfl) ?_
  refine ex_aload_n ok_X12_toKeeper (mi 12 rfl) rfl ?_
  refine ex_getRx ok_X12_toKeeper (mi 13 rfl) rfl rfl (fk (MI_s I) 0 rfl) (fr (MI_s I) 52 rfl) (fk (MI_s I) 53 rfl) (by decide) ?_
  refine ex_iconst ok_X12_toKeeper (mi 14 rfl) ?_
  refine ex_iload_n ok_X12_toKeeper (mi 15 rfl) rfl ?_
  refine ex_imul ok_X12_toKeeper (mi 16 rfl) ?_
  refine ex_top (w := (nI (3 * a1))) (nI_mulc rfl) ?_
  refine ex_iconst ok_X12_toKeeper (mi 17 rfl) ?_
  refine ex_iadd ok_X12_toKeeper (mi 18 rfl) ?_
  refine ex_top (w := (nI (3 * a1 + 1))) (nI_add _ 1) ?_
  refine sm_iald ok_X12_toKeeper (mi 19 rfl) (fk (MI_s I) 53 rfl) (fn (MI_s I) 53 rfl) rfl (by omega) (by decide) ?_
  obtain ⟨v3, hv3, ev3⟩ := vp_in_of (n := 300) (vb_in hmk.2.2.2.2.1 (by decide)) (by decide)
  refine ex_top (w := nI v3) ev3 ?_
  refine ex_istore ok_X12_toKeeper (mi 20 rfl) ?_
  refine ex_aload_n ok_X12_toKeeper (mi 21 rfl) rfl ?_
  refine ex_getRx ok_X12_toKeeper (mi 22 rfl) rfl rfl (fk (MI_s I) 0 rfl) (fr (MI_s I) 52 rfl) (fk (MI_s I) 53 rfl) (by decide) ?_
  refine ex_iconst ok_X12_toKeeper (mi 23 rfl) ?_
  refine ex_iload_n ok_X12_toKeeper (mi 24 rfl) rfl ?_
  refine ex_imul ok_X12_toKeeper (mi 25 rfl) ?_
  refine ex_top (w := (nI (3 * a1))) (nI_mulc rfl) ?_
  refine ex_iconst ok_X12_toKeeper (mi 26 rfl) ?_
  refine ex_iadd ok_X12_toKeeper (mi 27 rfl) ?_
  refine ex_top (w := (nI (3 * a1 + 2))) (nI_add _ 2) ?_
  refine sm_iald ok_X12_toKeeper (mi 28 rfl) (fk (MI_s I) 53 rfl) (fn (MI_s I) 53 rfl) rfl (by omega) (by decide) ?_
  refine ex_gen (fun w4 => ?_)
  refine ex_istore ok_X12_toKeeper (mi 29 rfl) ?_
  refine ex_aload_n ok_X12_toKeeper (mi 30 rfl) rfl ?_
  refine ex_getRx ok_X12_toKeeper (mi 31 rfl) rfl rfl (fk (MI_s I) 0 rfl) (fr (MI_s I) 49 rfl) (fk (MI_s I) 50 rfl) (by decide) ?_
  refine ex_iload_n ok_X12_toKeeper (mi 32 rfl) rfl ?_
  refine sm_iald ok_X12_toKeeper (mi 33 rfl) (fk (MI_s I) 50 rfl) (fn (MI_s I) 50 rfl) rfl (by omega) (by decide) ?_
  refine ex_top (w := nI 11) hmk.1 ?_
  refine ex_lookup (tgt := 111) ok_X12_toKeeper (mi 34 rfl) (by decide) (by decide) ?_
  refine ex_aload_n ok_X12_toKeeper (mi 43 rfl) rfl ?_
  refine ex_iload_n ok_X12_toKeeper (mi 44 rfl) rfl ?_
  refine ex_iload_n ok_X12_toKeeper (mi 45 rfl) rfl ?_
  refine ex_iload ok_X12_toKeeper (mi 46 rfl) rfl ?_
  refine ex_iload ok_X12_toKeeper (mi 47 rfl) rfl ?_
  refine sm_V (As := [_, _, _, _]) ok_X12_toKeeper (mi 48 rfl) rfl (s_X12_collectAt hst I (by omega) (by omega) (by omega)) rfl (fk (MI_s I) 0 rfl) rfl rfl (by decide) (by decide) (Nat.le_of_ble_eq_true rfl) (by decide) SM_no (fun z5 g7 p6 => ?_)
  obtain ⟨u9, eu9, u9p, J8⟩ := p6
  cases eu9
  obtain rfl : z5 = none := u9p
  refine ex_goto (tgt := 170) ok_X12_toKeeper (mi 49 rfl) rfl ?_
  refine ex_vret ok_X12_toKeeper (mi 75 rfl) rfl ?_
  exact ⟨_, rfl, rfl, J8⟩
theorem s_X12_toKeeper_16 {G : GE} (hst : (ge_l G).stackTraces = false) {y c : Nat} {D : UT} {R : Nat → Prop} {g : GT} (I : MI y D c R g) {a0 : Nat} (ha0 : a0 < 9) {a1 : Nat} (ha1 : a1 < 402) {m : Nat} (hmk : MK y g a1 16 m) : ex_M G 4 0 0 my_X12_toKeeper [.ref y, .int (nI (a0)), .int (nI (a1))] g (SM y D c R pN) := by
  refine ex_M_of ok_X12_toKeeper cw_X12_toKeeper rfl hst (Nat.le_of_ble_eq_true rfl) ?_
  have hm3 : m < 301 := hmk.2.2.2.2.2.2.2.1
  refine ex_aload_n ok_X12_toKeeper (mi 0 rfl) rfl ?_
  refine ex_getRx ok_X12_toKeeper (mi 1 rfl) rfl rfl (fk (MI_s I) 0 rfl) (fr (MI_s I) 50 rfl) (fk (MI_s I) 51 rfl) (by decide) ?_
  refine ex_iload_n ok_X12_toKeeper (mi 2 rfl) rfl ?_
  refine sm_iald ok_X12_toKeeper (mi 3 rfl) (fk (MI_s I) 51 rfl) (fn (MI_s I) 51 rfl) rfl (by omega) (by decide) ?_
  obtain ⟨v1, hv1, ev1⟩ := vp_in_of (n := 3) (vb_in hmk.2.2.1 (by decide)) (by decide)
  refine ex_top (w := nI v1) ev1 ?_
  refine ex_istore_n ok_X12_toKeeper (mi 4 rfl) ?_
  refine ex_aload_n ok_X12_toKeeper (mi 5 rfl) rfl ?_
  refine ex_getRx ok_X12_toKeeper (mi 6 rfl) rfl rfl (fk (MI_s I) 0 rfl) (fr (MI_s I) 52 rfl) (fk (MI_s I) 53 rfl) (by decide) ?_
  refine ex_iconst ok_X12_toKeeper (mi 7 rfl) ?_
  refine ex_iload_n ok_X12_toKeeper (mi 8 rfl) rfl ?_
  refine ex_imul ok_X12_toKeeper (mi 9 rfl) ?_
  refine ex_top (w := (nI (3 * a1))) (nI_mulc rfl) ?_
  refine sm_iald ok_X12_toKeeper (mi 10 rfl) (fk (MI_s I) 53 rfl) (fn (MI_s I) 53 rfl) rfl (by omega) (by decide) ?_
  refine ex_gen (fun w2 => ?_)
  refine ex_istore ok_X12_toKeeper (mi 11 rfl) ?_
  refine ex_aload_n ok_X12_toKeeper (mi 12 rfl) rfl ?_
  refine ex_getRx ok_X12_toKeeper (mi 13 rfl) rfl rfl (fk (MI_s I) 0 rfl) (fr (MI_s I) 52 rfl) (fk (MI_s I) 53 rfl) (by decide) ?_
  refine ex_iconst ok_X12_toKeeper (mi 14 rfl) ?_
  refine ex_iload_n ok_X12_toKeeper (mi 15 rfl) rfl ?_
  refine ex_imul ok_X12_toKeeper (mi 16 rfl) ?_
  refine ex_top (w := (nI (3 * a1))) (nI_mulc rfl) ?_
  refine ex_iconst ok_X12_toKeeper (mi 17 rfl) ?_
  refine ex_iadd ok_X12_toKeeper (mi 18 rfl) ?_
  refine ex_top (w := (nI (3 * a1 + 1))) (nI_add _ 1) ?_
  refine sm_iald ok_X12_toKeeper (mi 19 rfl) (fk (MI_s I) 53 rfl) (fn (MI_s I) 53 rfl) rfl (by omega) (by decide) ?_
  refine ex_gen (fun w3 => ?_)
  refine ex_istore ok_X12_toKeeper (mi 20 rfl) ?_
  refine ex_aload_n ok_X12_toKeeper (mi 21 rfl) rfl ?_
  refine ex_getRx ok_X12_toKeeper (mi 22 rfl) rfl rfl (fk (MI_s I) 0 rfl) (fr (MI_s I) 52 rfl) (fk (MI_s I) 53 rfl) (by decide) ?_
  refine ex_iconst ok_X12_toKeeper (mi 23 rfl) ?_
  refine ex_iload_n ok_X12_toKeeper (mi 24 rfl) rfl ?_
  refine ex_imul ok_X12_toKeeper (mi 25 rfl) ?_
  refine ex_top (w := (nI (3 * a1))) (nI_mulc rfl) ?_
  refine ex_iconst ok_X12_toKeeper (mi 26 rfl) ?_
  refine ex_iadd ok_X12_toKeeper (mi 27 rfl) ?_
  refine ex_top (w := (nI (3 * a1 + 2))) (nI_add _ 2) ?_
  refine sm_iald ok_X12_toKeeper (mi 28 rfl) (fk (MI_s I) 53 rfl) (fn (MI_s I) 53 rfl) rfl (by omega) (by decide) ?_
  refine ex_gen (fun w4 => ?_)
  refine ex_istore ok_X12_toKeeper (mi 29 rfl) ?_
  refine ex_aload_n ok_X12_toKeeper (mi 30 rfl) rfl ?_
  refine ex_getRx ok_X12_toKeeper (mi 31 rfl) rfl rfl (fk (MI_s I) 0 rfl) (fr (MI_s I) 49 rfl) (fk (MI_s I) 50 rfl) (by decide) ?_
  refine ex_iload_n ok_X12_toKeeper (mi 32 rfl) rfl ?_
  refine sm_iald ok_X12_toKeeper (mi 33 rfl) (fk (MI_s I) 50 rfl) (fn (MI_s I) 50 rfl) rfl (by omega) (by decide) ?_
  refine ex_top (w := nI 16) hmk.1 ?_
  refine ex_lookup (tgt := 124) ok_X12_toKeeper (mi 34 rfl) (by decide) (by decide) ?_
  refine ex_aload_n ok_X12_toKeeper (mi 50 rfl) rfl ?_
  refine ex_iload_n ok_X12_toKeeper (mi 51 rfl) rfl ?_
  refine ex_iload_n ok_X12_toKeeper (mi 52 rfl) rfl ?_
  refine ex_iload ok_X12_toKeeper (mi 53 rfl) rfl ?_
  refine ex_iload ok_X12_toKeeper (mi 54 rfl) rfl ?_
  refine sm_V (As := [_, _, _, _]) ok_X12_toKeeper (mi 55 rfl) rfl (s_X12_stop hst I (by omega) (by omega)) rfl (fk (MI_s I) 0 rfl) rfl rfl (by decide) (by decide) (Nat.le_of_ble_eq_true rfl) (by decide) SM_no (fun z5 g7 p6 => ?_)
  obtain ⟨u9, eu9, u9p, J8⟩ := p6
  cases eu9
  obtain rfl : z5 = none := u9p
  refine ex_goto (tgt := 170) ok_X12_toKeeper (mi 56 rfl) rfl ?_
  refine ex_vret ok_X12_toKeeper (mi 75 rfl) rfl ?_
  exact ⟨_, rfl, rfl, J8⟩
theorem s_X12_toKeeper_18 {G : GE} (hst : (ge_l G).stackTraces = false) {y c : Nat} {D : UT} {R : Nat → Prop} {g : GT} (I : MI y D c R g) {a0 : Nat} (ha0 : a0 < 9) {a1 : Nat} (ha1 : a1 < 402) {m : Nat} (hmk : MK y g a1 18 m) : ex_M G 4 0 0 my_X12_toKeeper [.ref y, .int (nI (a0)), .int (nI (a1))] g (SM y D c R pN) := by
  refine ex_M_of ok_X12_toKeeper cw_X12_toKeeper rfl hst (Nat.le_of_ble_eq_true rfl) ?_
  have hm3 : m < 301 := hmk.2.2.2.2.2.2.2.1
  refine ex_aload_n ok_X12_toKeeper (mi 0 rfl) rfl ?_
  refine ex_getRx ok_X12_toKeeper (mi 1 rfl) rfl rfl (fk (MI_s I) 0 rfl) (fr (MI_s I) 50 rfl) (fk (MI_s I) 51 rfl) (by decide) ?_
  refine ex_iload_n ok_X12_toKeeper (mi 2 rfl) rfl ?_
  refine sm_iald ok_X12_toKeeper (mi 3 rfl) (fk (MI_s I) 51 rfl) (fn (MI_s I) 51 rfl) rfl (by omega) (by decide) ?_
  obtain ⟨v1, hv1, ev1⟩ := vp_in_of (n := 3) (vb_in hmk.2.2.1 (by decide)) (by decide)
  refine ex_top (w := nI v1) ev1 ?_
  refine ex_istore_n ok_X12_toKeeper (mi 4 rfl) ?_
  refine ex_aload_n ok_X12_toKeeper (mi 5 rfl) rfl ?_
  refine ex_getRx ok_X12_toKeeper (mi 6 rfl) rfl rfl (fk (MI_s I) 0 rfl) (fr (MI_s I) 52 rfl) (fk (MI_s I) 53 rfl) (by decide) ?_
  refine ex_iconst ok_X12_toKeeper (mi 7 rfl) ?_
  refine ex_iload_n ok_X12_toKeeper (mi 8 rfl) rfl ?_
  refine ex_imul ok_X12_toKeeper (mi 9 rfl) ?_
  refine ex_top (w := (nI (3 * a1))) (nI_mulc rfl) ?_
  refine sm_iald ok_X12_toKeeper (mi 10 rfl) (fk (MI_s I) 53 rfl) (fn (MI_s I) 53 rfl) rfl (by omega) (by decide) ?_
  refine ex_gen (fun w2 => ?_)
  refine ex_istore ok_X12_toKeeper (mi 11 rfl) ?_
  refine ex_aload_n ok_X12_toKeeper (mi 12 rfl) rfl ?_
  refine ex_getRx ok_X12_toKeeper (mi 13 rfl) rfl rfl (fk (MI_s I) 0 rfl) (fr (MI_s I) 52 rfl) (fk (MI_s I) 53 rfl) (by decide) ?_
  refine ex_iconst ok_X12_toKeeper (mi 14 rfl) ?_
  refine ex_iload_n ok_X12_toKeeper (mi 15 rfl) rfl ?_
  refine ex_imul ok_X12_toKeeper (mi 16 rfl) ?_
  refine ex_top (w := (nI (3 * a1))) (nI_mulc rfl) ?_
  refine ex_iconst ok_X12_toKeeper (mi 17 rfl) ?_
  refine ex_iadd ok_X12_toKeeper (mi 18 rfl) ?_
  refine ex_top (w := (nI (3 * a1 + 1))) (nI_add _ 1) ?_
  refine sm_iald ok_X12_toKeeper (mi 19 rfl) (fk (MI_s I) 53 rfl) (fn (MI_s I) 53 rfl) rfl (by omega) (by decide) ?_
  obtain ⟨v3, hv3, ev3⟩ := vp_in_of (n := 512) (vb_in hmk.2.2.2.2.1 (by decide)) (by decide)
  refine ex_top (w := nI v3) ev3 ?_
  refine ex_istore ok_X12_toKeeper (mi 20 rfl) ?_
  refine ex_aload_n ok_X12_toKeeper (mi 21 rfl) rfl ?_
  refine ex_getRx ok_X12_toKeeper (mi 22 rfl) rfl rfl (fk (MI_s I) 0 rfl) (fr (MI_s I) 52 rfl) (fk (MI_s I) 53 rfl) (by decide) ?_
  refine ex_iconst ok_X12_toKeeper (mi 23 rfl) ?_
  refine ex_iload_n ok_X12_toKeeper (mi 24 rfl) rfl ?_
  refine ex_imul ok_X12_toKeeper (mi 25 rfl) ?_
  refine ex_top (w := (nI (3 * a1))) (nI_mulc rfl) ?_
  refine ex_iconst ok_X12_toKeeper (mi 26 rfl) ?_
  refine ex_iadd ok_X12_toKeeper (mi 27 rfl) ?_
  refine ex_top (w := (nI (3 * a1 + 2))) (nI_add _ 2) ?_
  refine sm_iald ok_X12_toKeeper (mi 28 rfl) (fk (MI_s I) 53 rfl) (fn (MI_s I) 53 rfl) rfl (by omega) (by decide) ?_
  obtain ⟨v4, hv4, ev4⟩ := vp_in_of (n := 300) (vb_in hmk.2.2.2.2.2.1 (by decide)) (by decide)
  refine ex_top (w := nI v4) ev4 ?_
  refine ex_istore ok_X12_toKeeper (mi 29 rfl) ?_
  refine ex_aload_n ok_X12_toKeeper (mi 30 rfl) rfl ?_
  refine ex_getRx ok_X12_toKeeper (mi 31 rfl) rfl rfl (fk (MI_s I) 0 rfl) (fr (MI_s I) 49 rfl) (fk (MI_s I) 50 rfl) (by decide) ?_
  refine ex_iload_n ok_X12_toKeeper (mi 32 rfl) rfl ?_
  refine sm_iald ok_X12_toKeeper (mi 33 rfl) (fk (MI_s I) 50 rfl) (fn (MI_s I) 50 rfl) rfl (by omega) (by decide) ?_
  refine ex_top (w := nI 18) hmk.1 ?_
  refine ex_lookup (tgt := 137) ok_X12_toKeeper (mi 34 rfl) (by decide) (by decide) ?_
  refine ex_aload_n ok_X12_toKeeper (mi 57 rfl) rfl ?_
  refine ex_iload_n ok_X12_toKeeper (mi 58 rfl) rfl ?_
  refine ex_iload_n ok_X12_toKeeper (mi 59 rfl) rfl ?_
  refine sm_V (As := [_, _]) ok_X12_toKeeper (mi 60 rfl) rfl (s_X12_seedAt hst I (by omega) (by omega) hmk) rfl (fk (MI_s I) 0 rfl) rfl rfl (by decide) (by decide) (Nat.le_of_ble_eq_true rfl) (by decide) SM_no (fun z5 g7 p6 => ?_)
  obtain ⟨u9, eu9, u9p, J8⟩ := p6
  cases eu9
  obtain rfl : z5 = none := u9p
  refine ex_goto (tgt := 170) ok_X12_toKeeper (mi 61 rfl) rfl ?_
  refine ex_vret ok_X12_toKeeper (mi 75 rfl) rfl ?_
  exact ⟨_, rfl, rfl, J8⟩
theorem s_X12_toKeeper_20 {G : GE} (hst : (ge_l G).stackTraces = false) {y c : Nat} {D : UT} {R : Nat → Prop} {g : GT} (I : MI y D c R g) {a0 : Nat} (ha0 : a0 < 9) {a1 : Nat} (ha1 : a1 < 402) {m : Nat} (hmk : MK y g a1 20 m) : ex_M G 4 0 0 my_X12_toKeeper [.ref y, .int (nI (a0)), .int (nI (a1))] g (SM y D c R pN) := by
  refine ex_M_of ok_X12_toKeeper cw_X12_toKeeper rfl hst (Nat.le_of_ble_eq_true rfl) ?_
  have hm3 : m < 301 := hmk.2.2.2.2.2.2.2.1
  refine ex_aload_n ok_X12_toKeeper (mi 0 rfl) rfl ?_
  refine ex_getRx ok_X12_toKeeper (mi 1 rfl) rfl rfl (fk (MI_s I) 0 rfl) (fr (MI_s I) 50 rfl) (fk (MI_s I) 51 rfl) (by decide) ?_
  refine ex_iload_n ok_X12_toKeeper (mi 2 rfl) rfl ?_
  refine sm_iald ok_X12_toKeeper (mi 3 rfl) (fk (MI_s I) 51 rfl) (fn (MI_s I) 51 rfl) rfl (by omega) (by decide) ?_
  obtain ⟨v1, hv1, ev1⟩ := vp_in_of (n := 3) (vb_in hmk.2.2.1 (by decide)) (by decide)
  refine ex_top (w := nI v1) ev1 ?_
  refine ex_istore_n ok_X12_toKeeper (mi 4 rfl) ?_
  refine ex_aload_n ok_X12_toKeeper (mi 5 rfl) rfl ?_
  refine ex_getRx ok_X12_toKeeper (mi 6 rfl) rfl rfl (fk (MI_s I) 0 rfl) (fr (MI_s I) 52 rfl) (fk (MI_s I) 53 rfl) (by decide) ?_
  refine ex_iconst ok_X12_toKeeper (mi 7 rfl) ?_
  refine ex_iload_n ok_X12_toKeeper (mi 8 rfl) rfl ?_
  refine ex_imul ok_X12_toKeeper (mi 9 rfl) ?_
  refine ex_top (w := (nI (3 * a1))) (nI_mulc rfl) ?_
  refine sm_iald ok_X12_toKeeper (mi 10 rfl) (fk (MI_s I) 53 rfl) (fn (MI_s I) 53 rfl) rfl (by omega) (by decide) ?_
  refine ex_gen (fun w2 => ?_)
  refine ex_istore ok_X12_toKeeper (mi 11 rfl) ?_
  refine ex_aload_n ok_X12_toKeeper (mi 12 rfl) rfl ?_
  refine ex_getRx ok_X12_toKeeper (mi 13 rfl) rfl rfl (fk (MI_s I) 0 rfl) (fr (MI_s I) 52 rfl) (fk (MI_s I) 53 rfl) (by decide) ?_
  refine ex_iconst ok_X12_toKeeper (mi 14 rfl) ?_
  refine ex_iload_n ok_X12_toKeeper (mi 15 rfl) rfl ?_
  refine ex_imul ok_X12_toKeeper (mi 16 rfl) ?_
  refine ex_top (w := (nI (3 * a1))) (nI_mulc rfl) ?_
  refine ex_iconst ok_X12_toKeeper (mi 17 rfl) ?_
  refine ex_iadd ok_X12_toKeeper (mi 18 rfl) ?_
  refine ex_top (w := (nI (3 * a1 + 1))) (nI_add _ 1) ?_
  refine sm_iald ok_X12_toKeeper (mi 19 rfl) (fk (MI_s I) 53 rfl) (fn (MI_s I) 53 rfl) rfl (by omega) (by decide) ?_
  refine ex_gen (fun w3 => ?_)
  refine ex_istore ok_X12_toKeeper (mi 20 rfl) ?_
  refine ex_aload_n ok_X12_toKeeper (mi 21 rfl) rfl ?_
  refine ex_getRx ok_X12_toKeeper (mi 22 rfl) rfl rfl (fk (MI_s I) 0 rfl) (fr (MI_s I) 52 rfl) (fk (MI_s I) 53 rfl) (by decide) ?_
  refine ex_iconst ok_X12_toKeeper (mi 23 rfl) ?_
  refine ex_iload_n ok_X12_toKeeper (mi 24 rfl) rfl ?_
  refine ex_imul ok_X12_toKeeper (mi 25 rfl) ?_
  refine ex_top (w := (nI (3 * a1))) (nI_mulc rfl) ?_
  refine ex_iconst ok_X12_toKeeper (mi 26 rfl) ?_
  refine ex_iadd ok_X12_toKeeper (mi 27 rfl) ?_
  refine ex_top (w := (nI (3 * a1 + 2))) (nI_add _ 2) ?_
  refine sm_iald ok_X12_toKeeper (mi 28 rfl) (fk (MI_s I) 53 rfl) (fn (MI_s I) 53 rfl) rfl (by omega) (by decide) ?_
  obtain ⟨v4, hv4, ev4⟩ := vp_in_of (n := 512) (vb_in hmk.2.2.2.2.2.1 (by decide)) (by decide)
  refine ex_top (w := nI v4) ev4 ?_
  refine ex_istore ok_X12_toKeeper (mi 29 rfl) ?_
  refine ex_aload_n ok_X12_toKeeper (mi 30 rfl) rfl ?_
  refine ex_getRx ok_X12_toKeeper (mi 31 rfl) rfl rfl (fk (MI_s I) 0 rfl) (fr (MI_s I) 49 rfl) (fk (MI_s I) 50 rfl) (by decide) ?_
  refine ex_iload_n ok_X12_toKeeper (mi 32 rfl) rfl ?_
  refine sm_iald ok_X12_toKeeper (mi 33 rfl) (fk (MI_s I) 50 rfl) (fn (MI_s I) 50 rfl) rfl (by omega) (by decide) ?_
  refine ex_top (w := nI 20) hmk.1 ?_
  refine ex_lookup (tgt := 146) ok_X12_toKeeper (mi 34 rfl) (by decide) (by decide) ?_
  refine ex_aload_n ok_X12_toKeeper (mi 62 rfl) rfl ?_
  refine ex_iload_n ok_X12_toKeeper (mi 63 rfl) rfl ?_
  refine ex_iload_n ok_X12_toKeeper (mi 64 rfl) rfl ?_
  refine ex_iload ok_X12_toKeeper (mi 65 rfl) rfl ?_
  refine ex_iload ok_X12_toKeeper (mi 66 rfl) rfl ?_
  refine ex_iload ok_X12_toKeeper (mi 67 rfl) rfl ?_
  refine sm_V (As := [_, _, _, _, _]) ok_X12_toKeeper (mi 68 rfl) rfl (s_X12_pickAt hst I (by omega) (by omega) (by omega)) rfl (fk (MI_s I) 0 rfl) rfl rfl (by decide) (by decide) (Nat.le_of_ble_eq_true rfl) (by decide) SM_no (fun z5 g7 p6 => ?_)
  obtain ⟨u9, eu9, u9p, J8⟩ := p6
  cases eu9
  obtain rfl : z5 = none := u9p
  refine ex_goto (tgt := 170) ok_X12_toKeeper (mi 69 rfl) rfl ?_
  refine ex_vret ok_X12_toKeeper (mi 75 rfl) rfl ?_
  exact ⟨_, rfl, rfl, J8⟩
theorem s_X12_toKeeper_22 {G : GE} (hst : (ge_l G).stackTraces = false) {y c : Nat} {D : UT} {R : Nat → Prop} {g : GT} (I : MI y D c R g) {a0 : Nat} (ha0 : a0 < 9) {a1 : Nat} (ha1 : a1 < 402) {m : Nat} (hmk : MK y g a1 22 m) : ex_M G 4 0 0 my_X12_toKeeper [.ref y, .int (nI (a0)), .int (nI (a1))] g (SM y D c R pN) := by
  refine ex_M_of ok_X12_toKeeper cw_X12_toKeeper rfl hst (Nat.le_of_ble_eq_true rfl) ?_
  have hm3 : m < 301 := hmk.2.2.2.2.2.2.2.1
  refine ex_aload_n ok_X12_toKeeper (mi 0 rfl) rfl ?_
  refine ex_getRx ok_X12_toKeeper (mi 1 rfl) rfl rfl (fk (MI_s I) 0 rfl) (fr (MI_s I) 50 rfl) (fk (MI_s I) 51 rfl) (by decide) ?_
  refine ex_iload_n ok_X12_toKeeper (mi 2 rfl) rfl ?_
  refine sm_iald ok_X12_toKeeper (mi 3 rfl) (fk (MI_s I) 51 rfl) (fn (MI_s I) 51 rfl) rfl (by omega) (by decide) ?_
  obtain ⟨v1, hv1, ev1⟩ := vp_in_of (n := 3) (vb_in hmk.2.2.1 (by decide)) (by decide)
  refine ex_top (w := nI v1) ev1 ?_
  refine ex_istore_n ok_X12_toKeeper (mi 4 rfl) ?_
  refine ex_aload_n ok_X12_toKeeper (mi 5 rfl) rfl ?_
  refine ex_getRx ok_X12_toKeeper (mi 6 rfl) rfl rfl (fk (MI_s I) 0 rfl) (fr (MI_s I) 52 rfl) (fk (MI_s I) 53 rfl) (by decide) ?_
  refine ex_iconst ok_X12_toKeeper (mi 7 rfl) ?_
  refine ex_iload_n ok_X12_toKeeper (mi 8 rfl) rfl ?_
  refine ex_imul ok_X12_toKeeper (mi 9 rfl) ?_
  refine ex_top (w := (nI (3 * a1))) (nI_mulc rfl) ?_
  refine sm_iald ok_X12_toKeeper (mi 10 rfl) (fk (MI_s I) 53 rfl) (fn (MI_s I) 53 rfl) rfl (by omega) (by decide) ?_
  refine ex_gen (fun w2 => ?_)
  refine ex_istore ok_X12_toKeeper (mi 11 rfl) ?_
  refine ex_aload_n ok_X12_toKeeper (mi 12 rfl) rfl ?_
  refine ex_getRx ok_X12_toKeeper (mi 13 rfl) rfl rfl (fk (MI_s I) 0 rfl) (fr (MI_s I) 52 rfl) (fk (MI_s I) 53 rfl) (by decide) ?_
  refine ex_iconst ok_X12_toKeeper (mi 14 rfl) ?_
  refine ex_iload_n ok_X12_toKeeper (mi 15 rfl) rfl ?_
  refine ex_imul ok_X12_toKeeper (mi 16 rfl) ?_
  refine ex_top (w := (nI (3 * a1))) (nI_mulc rfl) ?_
  refine ex_iconst ok_X12_toKeeper (mi 17 rfl) ?_
  refine ex_iadd ok_X12_toKeeper (mi 18 rfl) ?_
  refine ex_top (w := (nI (3 * a1 + 1))) (nI_add _ 1) ?_
  refine sm_iald ok_X12_toKeeper (mi 19 rfl) (fk (MI_s I) 53 rfl) (fn (MI_s I) 53 rfl) rfl (by omega) (by decide) ?_
  obtain ⟨v3, hv3, ev3⟩ := vp_in_of (n := 512) (vb_in hmk.2.2.2.2.1 (by decide)) (by decide)
  refine ex_top (w := nI v3) ev3 ?_
  refine ex_istore ok_X12_toKeeper (mi 20 rfl) ?_
  refine ex_aload_n ok_X12_toKeeper (mi 21 rfl) rfl ?_
  refine ex_getRx ok_X12_toKeeper (mi 22 rfl) rfl rfl (fk (MI_s I) 0 rfl) (fr (MI_s I) 52 rfl) (fk (MI_s I) 53 rfl) (by decide) ?_
  refine ex_iconst ok_X12_toKeeper (mi 23 rfl) ?_
  refine ex_iload_n ok_X12_toKeeper (mi 24 rfl) rfl ?_
  refine ex_imul ok_X12_toKeeper (mi 25 rfl) ?_
  refine ex_top (w := (nI (3 * a1))) (nI_mulc rfl) ?_
  refine ex_iconst ok_X12_toKeeper (mi 26 rfl) ?_
  refine ex_iadd ok_X12_toKeeper (mi 27 rfl) ?_
  refine ex_top (w := (nI (3 * a1 + 2))) (nI_add _ 2) ?_
  refine sm_iald ok_X12_toKeeper (mi 28 rfl) (fk (MI_s I) 53 rfl) (fn (MI_s I) 53 rfl) rfl (by omega) (by decide) ?_
  refine ex_gen (fun w4 => ?_)
  refine ex_istore ok_X12_toKeeper (mi 29 rfl) ?_
  refine ex_aload_n ok_X12_toKeeper (mi 30 rfl) rfl ?_
  refine ex_getRx ok_X12_toKeeper (mi 31 rfl) rfl rfl (fk (MI_s I) 0 rfl) (fr (MI_s I) 49 rfl) (fk (MI_s I) 50 rfl) (by decide) ?_
  refine ex_iload_n ok_X12_toKeeper (mi 32 rfl) rfl ?_
  refine sm_iald ok_X12_toKeeper (mi 33 rfl) (fk (MI_s I) 50 rfl) (fn (MI_s I) 50 rfl) rfl (by omega) (by decide) ?_
  refine ex_top (w := nI 22) hmk.1 ?_
  refine ex_lookup (tgt := 161) ok_X12_toKeeper (mi 34 rfl) (by decide) (by decide) ?_
  refine ex_aload_n ok_X12_toKeeper (mi 70 rfl) rfl ?_
  refine ex_iload_n ok_X12_toKeeper (mi 71 rfl) rfl ?_
  refine ex_iload ok_X12_toKeeper (mi 72 rfl) rfl ?_
  refine ex_iload ok_X12_toKeeper (mi 73 rfl) rfl ?_
  refine sm_V (As := [_, _, _]) ok_X12_toKeeper (mi 74 rfl) rfl (s_X12_moved hst I (by omega) (by omega)) rfl (fk (MI_s I) 0 rfl) rfl rfl (by decide) (by decide) (Nat.le_of_ble_eq_true rfl) (by decide) SM_no (fun z5 g7 p6 => ?_)
  obtain ⟨u9, eu9, u9p, J8⟩ := p6
  cases eu9
  obtain rfl : z5 = none := u9p
  refine ex_vret ok_X12_toKeeper (mi 75 rfl) rfl ?_
  exact ⟨_, rfl, rfl, J8⟩
